theorem dX4_perform_0 : decode cX4_perform 0 = .ok (.iload_n 1, 1) := by decide +kernel
theorem dX4_perform_1 : decode cX4_perform 1 = .ok (.iconst 3, 1) := by decide +kernel
theorem dX4_perform_2 : decode cX4_perform 2 = .ok (.ishr, 1) := by decide +kernel
theorem dX4_perform_3 : decode cX4_perform 3 = .ok (.bipush 7, 2) := by decide +kernel
theorem dX4_perform_5 : decode cX4_perform 5 = .ok (.iand, 1) := by decide +kernel
theorem dX4_perform_6 : decode cX4_perform 6 = .ok (.istore_n 2, 1) := by decide +kernel
theorem dX4_perform_7 : decode cX4_perform 7 = .ok (.iload_n 1, 1) := by decide +kernel
theorem dX4_perform_8 : decode cX4_perform 8 = .ok (.bipush 6, 2) := by decide +kernel
theorem dX4_perform_10 : decode cX4_perform 10 = .ok (.ishr, 1) := by decide +kernel
theorem dX4_perform_11 : decode cX4_perform 11 = .ok (.bipush 7, 2) := by decide +kernel
theorem dX4_perform_13 : decode cX4_perform 13 = .ok (.iand, 1) := by decide +kernel
theorem dX4_perform_14 : decode cX4_perform 14 = .ok (.istore_n 3, 1) := by decide +kernel
theorem dX4_perform_15 : decode cX4_perform 15 = .ok (.iload_n 1, 1) := by decide +kernel
theorem dX4_perform_16 : decode cX4_perform 16 = .ok (.bipush 7, 2) := by decide +kernel
theorem dX4_perform_18 : decode cX4_perform 18 = .ok (.iand, 1) := by decide +kernel
theorem dX4_perform_19 : decode cX4_perform 19 = .ok (.tableswitch 112 0 3 #[29, 53, 88, 100], 29) := by decide +kernel
theorem dX4_perform_48 : decode cX4_perform 48 = .ok (.aload_n 0, 1) := by decide +kernel
theorem dX4_perform_49 : decode cX4_perform 49 = .ok (.getfield 23, 3) := by decide +kernel
theorem dX4_perform_52 : decode cX4_perform 52 = .ok (.iload_n 3, 1) := by decide +kernel
set_option maxRecDepth 20000 in
theorem ggX4_perform_X2_wearCard : GoodIn wsX4_perform wsX2_wearCard := goodIn_r _ [8, 9, 10, 11, 12, 13, 14, 15, 16, 17, 18, 19, 20, 21, 22, 23, 24, 25, 26, 27, 28, 29, 30, 31, 32, 33, 62, 63, 64, 65, 66, 67, 68, 69, 70, 71, 72, 73, 74, 75, 76, 77, 78] (by rfl) (by decide +kernel)
set_option maxRecDepth 20000 in
theorem gX4_perform_X2_wearCard : GoodIn wsX4_perform (wsV RX4 54 RX2 yX2_wearCard wsX2_wearCard) := goodIn_app (goodIn_r _ [4, 5, 6, 7] (by rfl) (by decide +kernel)) ggX4_perform_X2_wearCard
theorem dX4_perform_53 : decode cX4_perform 53 = .ok (.invokevirtual 54, 3) := by decide +kernel
theorem dX4_perform_56 : decode cX4_perform 56 = .ok (.aload_n 0, 1) := by decide +kernel
theorem dX4_perform_57 : decode cX4_perform 57 = .ok (.getfield 23, 3) := by decide +kernel
theorem dX4_perform_60 : decode cX4_perform 60 = .ok (.dup, 1) := by decide +kernel
theorem dX4_perform_61 : decode cX4_perform 61 = .ok (.getfield 57, 3) := by decide +kernel
theorem dX4_perform_64 : decode cX4_perform 64 = .ok (.iconst 1, 1) := by decide +kernel
theorem dX4_perform_65 : decode cX4_perform 65 = .ok (.iadd, 1) := by decide +kernel
theorem dX4_perform_66 : decode cX4_perform 66 = .ok (.putfield 57, 3) := by decide +kernel
theorem dX4_perform_69 : decode cX4_perform 69 = .ok (.goto 69, 3) := by decide +kernel
theorem dX4_perform_138 : decode cX4_perform 138 = .ok (.return_, 1) := by decide +kernel
theorem dX4_perform_72 : decode cX4_perform 72 = .ok (.aload_n 0, 1) := by decide +kernel
theorem dX4_perform_73 : decode cX4_perform 73 = .ok (.getfield 23, 3) := by decide +kernel
theorem dX4_perform_76 : decode cX4_perform 76 = .ok (.getfield 60, 3) := by decide +kernel
theorem dX4_perform_79 : decode cX4_perform 79 = .ok (.iload_n 1, 1) := by decide +kernel
theorem dX4_perform_80 : decode cX4_perform 80 = .ok (.bipush 9, 2) := by decide +kernel
theorem dX4_perform_82 : decode cX4_perform 82 = .ok (.ishr, 1) := by decide +kernel
theorem dX4_perform_83 : decode cX4_perform 83 = .ok (.bipush 7, 2) := by decide +kernel
theorem dX4_perform_85 : decode cX4_perform 85 = .ok (.iand, 1) := by decide +kernel
theorem dX4_perform_86 : decode cX4_perform 86 = .ok (.iload_n 1, 1) := by decide +kernel
theorem dX4_perform_87 : decode cX4_perform 87 = .ok (.bipush 12, 2) := by decide +kernel
theorem dX4_perform_89 : decode cX4_perform 89 = .ok (.ishr, 1) := by decide +kernel
theorem dX4_perform_90 : decode cX4_perform 90 = .ok (.bipush 7, 2) := by decide +kernel
theorem dX4_perform_92 : decode cX4_perform 92 = .ok (.iand, 1) := by decide +kernel
set_option maxRecDepth 20000 in
theorem ggX4_perform_X0_put : GoodIn wsX4_perform wsX0_put := goodIn_r _ [31, 32, 33, 14, 15, 16, 17, 18, 70, 71] (by rfl) (by decide +kernel)
set_option maxRecDepth 20000 in
theorem gX4_perform_X0_put : GoodIn wsX4_perform (wsV RX4 64 RX0 yX0_put wsX0_put) := goodIn_app (goodIn_r _ [34, 29, 30, 16] (by rfl) (by decide +kernel)) ggX4_perform_X0_put
theorem dX4_perform_93 : decode cX4_perform 93 = .ok (.invokevirtual 64, 3) := by decide +kernel
theorem dX4_perform_96 : decode cX4_perform 96 = .ok (.aload_n 0, 1) := by decide +kernel
theorem dX4_perform_97 : decode cX4_perform 97 = .ok (.getfield 23, 3) := by decide +kernel
theorem dX4_perform_100 : decode cX4_perform 100 = .ok (.iload_n 3, 1) := by decide +kernel
theorem dX4_perform_101 : decode cX4_perform 101 = .ok (.invokevirtual 54, 3) := by decide +kernel
theorem dX4_perform_104 : decode cX4_perform 104 = .ok (.goto 34, 3) := by decide +kernel
theorem dX4_perform_107 : decode cX4_perform 107 = .ok (.aload_n 0, 1) := by decide +kernel
theorem dX4_perform_108 : decode cX4_perform 108 = .ok (.getfield 23, 3) := by decide +kernel
theorem dX4_perform_111 : decode cX4_perform 111 = .ok (.iload_n 2, 1) := by decide +kernel
theorem dX4_perform_112 : decode cX4_perform 112 = .ok (.iload_n 3, 1) := by decide +kernel
set_option maxRecDepth 20000 in
theorem ggX4_perform_X2_changeHands : GoodIn wsX4_perform wsX2_changeHands := goodIn_r _ [38, 9, 39, 40, 41, 16, 42, 32, 33, 14, 15, 17, 18, 28, 29, 30, 31, 62, 63, 64, 65, 66, 67, 68, 69, 70, 71] (by rfl) (by decide +kernel)
set_option maxRecDepth 20000 in
theorem gX4_perform_X2_changeHands : GoodIn wsX4_perform (wsV RX4 70 RX2 yX2_changeHands wsX2_changeHands) := goodIn_app (goodIn_r _ [35, 36, 37, 7] (by rfl) (by decide +kernel)) ggX4_perform_X2_changeHands
theorem dX4_perform_113 : decode cX4_perform 113 = .ok (.invokevirtual 70, 3) := by decide +kernel
theorem dX4_perform_116 : decode cX4_perform 116 = .ok (.goto 22, 3) := by decide +kernel
theorem dX4_perform_119 : decode cX4_perform 119 = .ok (.aload_n 0, 1) := by decide +kernel
theorem dX4_perform_120 : decode cX4_perform 120 = .ok (.getfield 23, 3) := by decide +kernel
theorem dX4_perform_123 : decode cX4_perform 123 = .ok (.iload_n 2, 1) := by decide +kernel
theorem dX4_perform_124 : decode cX4_perform 124 = .ok (.iload_n 3, 1) := by decide +kernel
set_option maxRecDepth 20000 in
theorem ggX4_perform_X2_rob : GoodIn wsX4_perform wsX2_rob := goodIn_r _ [46, 9, 47, 48, 13, 14, 15, 16, 17, 18, 39, 40, 41, 42, 32, 33, 28, 29, 30, 31, 62, 63, 64, 65, 66, 67, 68, 69, 70, 71] (by rfl) (by decide +kernel)
set_option maxRecDepth 20000 in
theorem gX4_perform_X2_rob : GoodIn wsX4_perform (wsV RX4 73 RX2 yX2_rob wsX2_rob) := goodIn_app (goodIn_r _ [43, 44, 45, 7] (by rfl) (by decide +kernel)) ggX4_perform_X2_rob
theorem dX4_perform_125 : decode cX4_perform 125 = .ok (.invokevirtual 73, 3) := by decide +kernel
theorem dX4_perform_128 : decode cX4_perform 128 = .ok (.goto 10, 3) := by decide +kernel
theorem dX4_perform_131 : decode cX4_perform 131 = .ok (.aload_n 0, 1) := by decide +kernel
theorem dX4_perform_132 : decode cX4_perform 132 = .ok (.getfield 23, 3) := by decide +kernel
set_option maxRecDepth 20000 in
theorem ggX4_perform_X2_endDay : GoodIn wsX4_perform wsX2_endDay := goodIn_r _ [52, 9, 53, 48, 47, 10, 54, 55, 56, 57, 39, 40, 41, 16, 42, 32, 33, 14, 15, 17, 18, 28, 29, 30, 31, 62, 63, 64, 65, 66, 67, 68, 69, 70, 71] (by rfl) (by decide +kernel)
set_option maxRecDepth 20000 in
theorem gX4_perform_X2_endDay : GoodIn wsX4_perform (wsV RX4 76 RX2 yX2_endDay wsX2_endDay) := goodIn_app (goodIn_r _ [49, 50, 51, 7] (by rfl) (by decide +kernel)) ggX4_perform_X2_endDay
theorem dX4_perform_135 : decode cX4_perform 135 = .ok (.invokevirtual 76, 3) := by decide +kernel
theorem dX4_replay_0 : decode cX4_replay 0 = .ok (.aload_n 0, 1) := by decide +kernel
theorem dX4_replay_1 : decode cX4_replay 1 = .ok (.getfield 23, 3) := by decide +kernel
set_option maxRecDepth 20000 in
theorem ggX4_replay_X2_begin : GoodIn wsX4_replay wsX2_begin := goodIn_r _ [8, 9, 10, 11, 12, 13, 14, 15, 16, 17, 18, 19, 20, 21, 22, 23, 24, 25, 26, 27, 83, 84, 85, 86, 87, 88, 89, 90, 91, 92, 93, 94, 95, 96, 97, 98, 99] (by rfl) (by decide +kernel)
set_option maxRecDepth 20000 in
theorem gX4_replay_X2_begin : GoodIn wsX4_replay (wsV RX4 51 RX2 yX2_begin wsX2_begin) := goodIn_app (goodIn_r _ [4, 5, 6, 7] (by rfl) (by decide +kernel)) ggX4_replay_X2_begin
theorem dX4_replay_4 : decode cX4_replay 4 = .ok (.invokevirtual 51, 3) := by decide +kernel
theorem dX4_replay_7 : decode cX4_replay 7 = .ok (.iconst 0, 1) := by decide +kernel
theorem dX4_replay_8 : decode cX4_replay 8 = .ok (.istore_n 2, 1) := by decide +kernel
theorem dX4_replay_9 : decode cX4_replay 9 = .ok (.iload_n 2, 1) := by decide +kernel
theorem dX4_replay_10 : decode cX4_replay 10 = .ok (.iload_n 1, 1) := by decide +kernel
theorem dX4_replay_11 : decode cX4_replay 11 = .ok (.if_icmp .ge 25, 3) := by decide +kernel
theorem dX4_replay_36 : decode cX4_replay 36 = .ok (.aload_n 0, 1) := by decide +kernel
theorem dX4_replay_37 : decode cX4_replay 37 = .ok (.iload_n 1, 1) := by decide +kernel
theorem dX4_replay_38 : decode cX4_replay 38 = .ok (.putfield 44, 3) := by decide +kernel
theorem dX4_replay_41 : decode cX4_replay 41 = .ok (.return_, 1) := by decide +kernel
theorem dX4_replay_14 : decode cX4_replay 14 = .ok (.iload_n 2, 1) := by decide +kernel
theorem dX4_replay_15 : decode cX4_replay 15 = .ok (.bipush 40, 2) := by decide +kernel
theorem dX4_replay_17 : decode cX4_replay 17 = .ok (.if_icmp .ge 19, 3) := by decide +kernel
theorem dX4_replay_20 : decode cX4_replay 20 = .ok (.aload_n 0, 1) := by decide +kernel
theorem dX4_replay_21 : decode cX4_replay 21 = .ok (.aload_n 0, 1) := by decide +kernel
theorem dX4_replay_22 : decode cX4_replay 22 = .ok (.getfield 27, 3) := by decide +kernel
theorem dX4_replay_25 : decode cX4_replay 25 = .ok (.iload_n 2, 1) := by decide +kernel
theorem dX4_replay_26 : decode cX4_replay 26 = .ok (.iaload, 1) := by decide +kernel
set_option maxRecDepth 20000 in
theorem ggX4_replay_X4_perform : GoodIn wsX4_replay wsX4_perform := goodIn_r _ [32, 1, 33, 34, 35, 36, 37, 7, 38, 9, 13, 12, 10, 39, 40, 41, 20, 42, 22, 43, 44, 45, 46, 47, 48, 49, 50, 51, 52, 53, 54, 55, 23, 56, 57, 58, 59, 60, 61, 62, 63, 64, 65, 66, 67, 68, 69, 70, 14, 71, 72, 73, 74, 75, 15, 76, 77, 78, 79, 80, 81, 82, 83, 84, 85, 86, 87, 88, 89, 90, 98, 99, 91, 92, 93, 94, 95, 96, 97] (by rfl) (by decide +kernel)
set_option maxRecDepth 20000 in
theorem gX4_replay_X4_perform : GoodIn wsX4_replay (wsV RX4 48 RX4 yX4_perform wsX4_perform) := goodIn_app (goodIn_r _ [28, 29, 30, 31] (by rfl) (by decide +kernel)) ggX4_replay_X4_perform
theorem dX4_replay_27 : decode cX4_replay 27 = .ok (.invokevirtual 48, 3) := by decide +kernel
theorem dX4_replay_30 : decode cX4_replay 30 = .ok (.iinc 2 1, 3) := by decide +kernel
theorem dX4_replay_33 : decode cX4_replay 33 = .ok (.goto (-24), 3) := by decide +kernel
theorem dX4_begin_0 : decode cX4_begin 0 = .ok (.aload_n 0, 1) := by decide +kernel
theorem dX4_begin_1 : decode cX4_begin 1 = .ok (.getfield 12, 3) := by decide +kernel
theorem dX4_begin_4 : decode cX4_begin 4 = .ok (.aload_n 1, 1) := by decide +kernel
set_option maxRecDepth 20000 in
theorem ggX4_begin_X9_copyOf : GoodIn wsX4_begin wsX9_copyOf := goodIn_r _ [6, 7, 8, 9, 10, 11, 12, 13, 14, 15, 16, 17, 18, 19, 20, 21, 22, 23, 24, 25, 98, 99, 100, 101, 102, 103, 104, 105, 106] (by rfl) (by decide +kernel)
set_option maxRecDepth 20000 in
theorem gX4_begin_X9_copyOf : GoodIn wsX4_begin (wsV RX4 31 RX9 yX9_copyOf wsX9_copyOf) := goodIn_app (goodIn_r _ [2, 3, 4, 5] (by rfl) (by decide +kernel)) ggX4_begin_X9_copyOf
theorem dX4_begin_5 : decode cX4_begin 5 = .ok (.invokevirtual 31, 3) := by decide +kernel
theorem dX4_begin_8 : decode cX4_begin 8 = .ok (.aload_n 0, 1) := by decide +kernel
theorem dX4_begin_9 : decode cX4_begin 9 = .ok (.iconst 0, 1) := by decide +kernel
set_option maxRecDepth 20000 in
theorem ggX4_begin_X4_replay : GoodIn wsX4_begin wsX4_replay := goodIn_r _ [30, 31, 32, 33, 34, 35, 36, 37, 38, 39, 40, 41, 42, 43, 44, 45, 46, 47, 19, 20, 21, 22, 23, 24, 25, 10, 11, 12, 48, 49, 50, 29, 51, 52, 53, 54, 55, 56, 57, 58, 59, 60, 61, 62, 63, 64, 5, 65, 7, 15, 17, 66, 67, 68, 69, 70, 71, 72, 73, 74, 75, 76, 77, 78, 79, 80, 81, 82, 83, 84, 85, 86, 87, 88, 89, 90, 91, 92, 93, 94, 95, 96, 97, 107, 108, 109, 110, 111, 112, 113, 114, 98, 99, 100, 101, 102, 103, 104, 105, 106] (by rfl) (by decide +kernel)
set_option maxRecDepth 20000 in
theorem gX4_begin_X4_replay : GoodIn wsX4_begin (wsV RX4 34 RX4 yX4_replay wsX4_replay) := goodIn_app (goodIn_r _ [26, 27, 28, 29] (by rfl) (by decide +kernel)) ggX4_begin_X4_replay
theorem dX4_begin_10 : decode cX4_begin 10 = .ok (.invokevirtual 34, 3) := by decide +kernel
theorem dX4_begin_13 : decode cX4_begin 13 = .ok (.return_, 1) := by decide +kernel
theorem dX4_copyOf_0 : decode cX4_copyOf 0 = .ok (.aload_n 0, 1) := by decide +kernel
theorem dX4_copyOf_1 : decode cX4_copyOf 1 = .ok (.getfield 12, 3) := by decide +kernel
theorem dX4_copyOf_4 : decode cX4_copyOf 4 = .ok (.aload_n 1, 1) := by decide +kernel
theorem dX4_copyOf_5 : decode cX4_copyOf 5 = .ok (.getfield 12, 3) := by decide +kernel
set_option maxRecDepth 20000 in
theorem ggX4_copyOf_X9_copyOf : GoodIn wsX4_copyOf wsX9_copyOf := goodIn_r _ [12, 13, 14, 15, 4, 5, 6, 16, 17, 18, 19, 20, 21, 22, 23, 24, 25, 26, 27, 28, 99, 100, 101, 102, 103, 104, 105, 106, 107] (by rfl) (by decide +kernel)
set_option maxRecDepth 20000 in
theorem gX4_copyOf_X9_copyOf : GoodIn wsX4_copyOf (wsV RX4 31 RX9 yX9_copyOf wsX9_copyOf) := goodIn_app (goodIn_r _ [8, 9, 10, 11] (by rfl) (by decide +kernel)) ggX4_copyOf_X9_copyOf
theorem dX4_copyOf_8 : decode cX4_copyOf 8 = .ok (.invokevirtual 31, 3) := by decide +kernel
theorem dX4_copyOf_11 : decode cX4_copyOf 11 = .ok (.aload_n 1, 1) := by decide +kernel
theorem dX4_copyOf_12 : decode cX4_copyOf 12 = .ok (.getfield 27, 3) := by decide +kernel
theorem dX4_copyOf_15 : decode cX4_copyOf 15 = .ok (.iconst 0, 1) := by decide +kernel
theorem dX4_copyOf_16 : decode cX4_copyOf 16 = .ok (.aload_n 0, 1) := by decide +kernel
theorem dX4_copyOf_17 : decode cX4_copyOf 17 = .ok (.getfield 27, 3) := by decide +kernel
theorem dX4_copyOf_20 : decode cX4_copyOf 20 = .ok (.iconst 0, 1) := by decide +kernel
theorem dX4_copyOf_21 : decode cX4_copyOf 21 = .ok (.bipush 40, 2) := by decide +kernel
theorem dX4_copyOf_23 : decode cX4_copyOf 23 = .ok (.invokestatic 38, 3) := by decide +kernel
theorem dX4_copyOf_26 : decode cX4_copyOf 26 = .ok (.aload_n 0, 1) := by decide +kernel
theorem dX4_copyOf_27 : decode cX4_copyOf 27 = .ok (.aload_n 1, 1) := by decide +kernel
theorem dX4_copyOf_28 : decode cX4_copyOf 28 = .ok (.getfield 44, 3) := by decide +kernel
set_option maxRecDepth 20000 in
theorem ggX4_copyOf_X4_replay : GoodIn wsX4_copyOf wsX4_replay := goodIn_r _ [33, 34, 2, 7, 35, 36, 37, 38, 39, 40, 41, 42, 43, 44, 45, 46, 47, 48, 22, 23, 24, 25, 26, 27, 28, 4, 5, 6, 49, 50, 51, 32, 52, 53, 54, 55, 56, 57, 58, 59, 60, 61, 62, 63, 64, 65, 11, 66, 13, 18, 20, 67, 68, 69, 70, 71, 72, 73, 74, 75, 76, 77, 78, 79, 80, 81, 82, 83, 84, 85, 86, 87, 88, 89, 90, 91, 92, 93, 94, 95, 96, 97, 98, 108, 109, 110, 111, 112, 113, 114, 115, 99, 100, 101, 102, 103, 104, 105, 106, 107] (by rfl) (by decide +kernel)
set_option maxRecDepth 20000 in
theorem gX4_copyOf_X4_replay : GoodIn wsX4_copyOf (wsV RX4 34 RX4 yX4_replay wsX4_replay) := goodIn_app (goodIn_r _ [29, 30, 31, 32] (by rfl) (by decide +kernel)) ggX4_copyOf_X4_replay
theorem dX4_copyOf_31 : decode cX4_copyOf 31 = .ok (.invokevirtual 34, 3) := by decide +kernel
theorem dX4_copyOf_34 : decode cX4_copyOf 34 = .ok (.return_, 1) := by decide +kernel
theorem dX4_hasRoom_0 : decode cX4_hasRoom 0 = .ok (.aload_n 0, 1) := by decide +kernel
theorem dX4_hasRoom_1 : decode cX4_hasRoom 1 = .ok (.getfield 44, 3) := by decide +kernel
theorem dX4_hasRoom_4 : decode cX4_hasRoom 4 = .ok (.bipush 40, 2) := by decide +kernel
theorem dX4_hasRoom_6 : decode cX4_hasRoom 6 = .ok (.if_icmp .ge 7, 3) := by decide +kernel
theorem dX4_hasRoom_13 : decode cX4_hasRoom 13 = .ok (.iconst 0, 1) := by decide +kernel
theorem dX4_hasRoom_14 : decode cX4_hasRoom 14 = .ok (.ireturn, 1) := by decide +kernel
theorem dX4_hasRoom_9 : decode cX4_hasRoom 9 = .ok (.iconst 1, 1) := by decide +kernel
theorem dX4_hasRoom_10 : decode cX4_hasRoom 10 = .ok (.goto 4, 3) := by decide +kernel
theorem dX4_act_0 : decode cX4_act 0 = .ok (.aload_n 0, 1) := by decide +kernel
theorem dX4_act_1 : decode cX4_act 1 = .ok (.getfield 44, 3) := by decide +kernel
theorem dX4_act_4 : decode cX4_act 4 = .ok (.ifCond .lt 12, 3) := by decide +kernel
theorem dX4_act_16 : decode cX4_act 16 = .ok (.return_, 1) := by decide +kernel
theorem dX4_act_7 : decode cX4_act 7 = .ok (.aload_n 0, 1) := by decide +kernel
theorem dX4_act_8 : decode cX4_act 8 = .ok (.getfield 44, 3) := by decide +kernel
theorem dX4_act_11 : decode cX4_act 11 = .ok (.bipush 40, 2) := by decide +kernel
theorem dX4_act_13 : decode cX4_act 13 = .ok (.if_icmp .lt 4, 3) := by decide +kernel
theorem dX4_act_17 : decode cX4_act 17 = .ok (.aload_n 0, 1) := by decide +kernel
theorem dX4_act_18 : decode cX4_act 18 = .ok (.getfield 27, 3) := by decide +kernel
theorem dX4_act_21 : decode cX4_act 21 = .ok (.aload_n 0, 1) := by decide +kernel
theorem dX4_act_22 : decode cX4_act 22 = .ok (.getfield 44, 3) := by decide +kernel
theorem dX4_act_25 : decode cX4_act 25 = .ok (.iload_n 1, 1) := by decide +kernel
theorem dX4_act_26 : decode cX4_act 26 = .ok (.iload_n 2, 1) := by decide +kernel
theorem dX4_act_27 : decode cX4_act 27 = .ok (.iconst 3, 1) := by decide +kernel
theorem dX4_act_28 : decode cX4_act 28 = .ok (.ishl, 1) := by decide +kernel
theorem dX4_act_29 : decode cX4_act 29 = .ok (.ior, 1) := by decide +kernel
theorem dX4_act_30 : decode cX4_act 30 = .ok (.iload_n 3, 1) := by decide +kernel
theorem dX4_act_31 : decode cX4_act 31 = .ok (.bipush 6, 2) := by decide +kernel
theorem dX4_act_33 : decode cX4_act 33 = .ok (.ishl, 1) := by decide +kernel
theorem dX4_act_34 : decode cX4_act 34 = .ok (.ior, 1) := by decide +kernel
theorem dX4_act_35 : decode cX4_act 35 = .ok (.iload 4, 2) := by decide +kernel
theorem dX4_act_37 : decode cX4_act 37 = .ok (.bipush 9, 2) := by decide +kernel
theorem dX4_act_39 : decode cX4_act 39 = .ok (.ishl, 1) := by decide +kernel
theorem dX4_act_40 : decode cX4_act 40 = .ok (.ior, 1) := by decide +kernel
theorem dX4_act_41 : decode cX4_act 41 = .ok (.iload 5, 2) := by decide +kernel
theorem dX4_act_43 : decode cX4_act 43 = .ok (.bipush 12, 2) := by decide +kernel
theorem dX4_act_45 : decode cX4_act 45 = .ok (.ishl, 1) := by decide +kernel
theorem dX4_act_46 : decode cX4_act 46 = .ok (.ior, 1) := by decide +kernel
theorem dX4_act_47 : decode cX4_act 47 = .ok (.iastore, 1) := by decide +kernel
theorem dX4_act_48 : decode cX4_act 48 = .ok (.aload_n 0, 1) := by decide +kernel
theorem dX4_act_49 : decode cX4_act 49 = .ok (.aload_n 0, 1) := by decide +kernel
theorem dX4_act_50 : decode cX4_act 50 = .ok (.getfield 27, 3) := by decide +kernel
theorem dX4_act_53 : decode cX4_act 53 = .ok (.aload_n 0, 1) := by decide +kernel
theorem dX4_act_54 : decode cX4_act 54 = .ok (.getfield 44, 3) := by decide +kernel
theorem dX4_act_57 : decode cX4_act 57 = .ok (.iaload, 1) := by decide +kernel
set_option maxRecDepth 20000 in
theorem ggX4_act_X4_perform : GoodIn wsX4_act wsX4_perform := goodIn_r _ [7, 8, 9, 10, 11, 12, 13, 14, 15, 16, 17, 18, 19, 20, 21, 22, 23, 24, 25, 26, 27, 28, 29, 30, 31, 32, 33, 34, 35, 36, 37, 38, 39, 40, 41, 42, 43, 44, 45, 46, 47, 48, 49, 50, 51, 52, 53, 54, 55, 56, 57, 58, 59, 60, 61, 62, 63, 64, 65, 66, 67, 68, 69, 70, 71, 72, 73, 74, 75, 76, 77, 78, 79, 80, 81, 82, 83, 84, 85] (by rfl) (by decide +kernel)
set_option maxRecDepth 20000 in
theorem gX4_act_X4_perform : GoodIn wsX4_act (wsV RX4 48 RX4 yX4_perform wsX4_perform) := goodIn_app (goodIn_r _ [3, 4, 5, 6] (by rfl) (by decide +kernel)) ggX4_act_X4_perform
theorem dX4_act_58 : decode cX4_act 58 = .ok (.invokevirtual 48, 3) := by decide +kernel
theorem dX4_act_61 : decode cX4_act 61 = .ok (.aload_n 0, 1) := by decide +kernel
theorem dX4_act_62 : decode cX4_act 62 = .ok (.dup, 1) := by decide +kernel
theorem dX4_act_63 : decode cX4_act 63 = .ok (.getfield 44, 3) := by decide +kernel
theorem dX4_act_66 : decode cX4_act 66 = .ok (.iconst 1, 1) := by decide +kernel
theorem dX4_act_67 : decode cX4_act 67 = .ok (.iadd, 1) := by decide +kernel
theorem dX4_act_68 : decode cX4_act 68 = .ok (.putfield 44, 3) := by decide +kernel
theorem dX4_act_71 : decode cX4_act 71 = .ok (.return_, 1) := by decide +kernel
theorem dX4_timeTo_0 : decode cX4_timeTo 0 = .ok (.aload_n 0, 1) := by decide +kernel
theorem dX4_timeTo_1 : decode cX4_timeTo 1 = .ok (.getfield 23, 3) := by decide +kernel
theorem dX4_timeTo_4 : decode cX4_timeTo 4 = .ok (.getfield 60, 3) := by decide +kernel
theorem dX4_timeTo_7 : decode cX4_timeTo 7 = .ok (.iload_n 1, 1) := by decide +kernel
theorem dX4_timeTo_8 : decode cX4_timeTo 8 = .ok (.iload_n 2, 1) := by decide +kernel
set_option maxRecDepth 20000 in
theorem ggX4_timeTo_X0_stepsTo : GoodIn wsX4_timeTo wsX0_stepsTo := goodIn_r _ [8, 9, 10, 11, 7, 12, 13, 14, 15, 16, 17, 18, 40, 41] (by rfl) (by decide +kernel)
set_option maxRecDepth 20000 in
theorem gX4_timeTo_X0_stepsTo : GoodIn wsX4_timeTo (wsV RX4 79 RX0 yX0_stepsTo wsX0_stepsTo) := goodIn_app (goodIn_r _ [4, 5, 6, 7] (by rfl) (by decide +kernel)) ggX4_timeTo_X0_stepsTo
theorem dX4_timeTo_9 : decode cX4_timeTo 9 = .ok (.invokevirtual 79, 3) := by decide +kernel
theorem dX4_timeTo_12 : decode cX4_timeTo 12 = .ok (.istore_n 3, 1) := by decide +kernel
theorem dX4_timeTo_13 : decode cX4_timeTo 13 = .ok (.iload_n 3, 1) := by decide +kernel
theorem dX4_timeTo_14 : decode cX4_timeTo 14 = .ok (.iconst (-1), 1) := by decide +kernel
theorem dX4_timeTo_15 : decode cX4_timeTo 15 = .ok (.if_icmp .ne 5, 3) := by decide +kernel
theorem dX4_timeTo_20 : decode cX4_timeTo 20 = .ok (.iload_n 3, 1) := by decide +kernel
theorem dX4_timeTo_21 : decode cX4_timeTo 21 = .ok (.istore 4, 2) := by decide +kernel
theorem dX4_timeTo_23 : decode cX4_timeTo 23 = .ok (.iload_n 2, 1) := by decide +kernel
theorem dX4_timeTo_24 : decode cX4_timeTo 24 = .ok (.istore 5, 2) := by decide +kernel
theorem dX4_timeTo_26 : decode cX4_timeTo 26 = .ok (.iconst 0, 1) := by decide +kernel
theorem dX4_timeTo_27 : decode cX4_timeTo 27 = .ok (.istore 6, 2) := by decide +kernel
theorem dX4_timeTo_29 : decode cX4_timeTo 29 = .ok (.iload 6, 2) := by decide +kernel
theorem dX4_timeTo_31 : decode cX4_timeTo 31 = .ok (.iload_n 3, 1) := by decide +kernel
theorem dX4_timeTo_32 : decode cX4_timeTo 32 = .ok (.if_icmp .ge 37, 3) := by decide +kernel
theorem dX4_timeTo_69 : decode cX4_timeTo 69 = .ok (.iload 4, 2) := by decide +kernel
theorem dX4_timeTo_71 : decode cX4_timeTo 71 = .ok (.ireturn, 1) := by decide +kernel
theorem dX4_timeTo_35 : decode cX4_timeTo 35 = .ok (.iload 4, 2) := by decide +kernel
theorem dX4_timeTo_37 : decode cX4_timeTo 37 = .ok (.aload_n 0, 1) := by decide +kernel
theorem dX4_timeTo_38 : decode cX4_timeTo 38 = .ok (.getfield 12, 3) := by decide +kernel
theorem dX4_timeTo_41 : decode cX4_timeTo 41 = .ok (.iload 5, 2) := by decide +kernel
set_option maxRecDepth 20000 in
theorem ggX4_timeTo_X9_forgedOf : GoodIn wsX4_timeTo wsX9_forgedOf := goodIn_r _ [23, 24, 25, 26, 15, 16, 7, 17, 18, 42, 43, 44, 45, 46, 47, 48, 40, 41] (by rfl) (by decide +kernel)
set_option maxRecDepth 20000 in
theorem gX4_timeTo_X9_forgedOf : GoodIn wsX4_timeTo (wsV RX4 83 RX9 yX9_forgedOf wsX9_forgedOf) := goodIn_app (goodIn_r _ [19, 20, 21, 22] (by rfl) (by decide +kernel)) ggX4_timeTo_X9_forgedOf
theorem dX4_timeTo_43 : decode cX4_timeTo 43 = .ok (.invokevirtual 83, 3) := by decide +kernel
theorem dX4_timeTo_46 : decode cX4_timeTo 46 = .ok (.iadd, 1) := by decide +kernel
theorem dX4_timeTo_47 : decode cX4_timeTo 47 = .ok (.istore 4, 2) := by decide +kernel
theorem dX4_timeTo_49 : decode cX4_timeTo 49 = .ok (.aload_n 0, 1) := by decide +kernel
theorem dX4_timeTo_50 : decode cX4_timeTo 50 = .ok (.getfield 23, 3) := by decide +kernel
theorem dX4_timeTo_53 : decode cX4_timeTo 53 = .ok (.getfield 60, 3) := by decide +kernel
theorem dX4_timeTo_56 : decode cX4_timeTo 56 = .ok (.iload 5, 2) := by decide +kernel
set_option maxRecDepth 20000 in
theorem ggX4_timeTo_X0_holderOf : GoodIn wsX4_timeTo wsX0_holderOf := goodIn_r _ [12, 13, 14, 15, 16, 7, 17, 18, 40, 41] (by rfl) (by decide +kernel)
set_option maxRecDepth 20000 in
theorem gX4_timeTo_X0_holderOf : GoodIn wsX4_timeTo (wsV RX4 87 RX0 yX0_holderOf wsX0_holderOf) := goodIn_app (goodIn_r _ [27, 10, 11, 7] (by rfl) (by decide +kernel)) ggX4_timeTo_X0_holderOf
theorem dX4_timeTo_58 : decode cX4_timeTo 58 = .ok (.invokevirtual 87, 3) := by decide +kernel
theorem dX4_timeTo_61 : decode cX4_timeTo 61 = .ok (.istore 5, 2) := by decide +kernel
theorem dX4_timeTo_63 : decode cX4_timeTo 63 = .ok (.iinc 6 1, 3) := by decide +kernel
theorem dX4_timeTo_66 : decode cX4_timeTo 66 = .ok (.goto (-37), 3) := by decide +kernel
theorem dX4_timeTo_18 : decode cX4_timeTo 18 = .ok (.iconst (-1), 1) := by decide +kernel
theorem dX4_timeTo_19 : decode cX4_timeTo 19 = .ok (.ireturn, 1) := by decide +kernel
theorem dX4_quickestDoer_0 : decode cX4_quickestDoer 0 = .ok (.iconst (-1), 1) := by decide +kernel
theorem dX4_quickestDoer_1 : decode cX4_quickestDoer 1 = .ok (.istore_n 3, 1) := by decide +kernel
theorem dX4_quickestDoer_2 : decode cX4_quickestDoer 2 = .ok (.iconst 0, 1) := by decide +kernel
theorem dX4_quickestDoer_3 : decode cX4_quickestDoer 3 = .ok (.istore 4, 2) := by decide +kernel
theorem dX4_quickestDoer_5 : decode cX4_quickestDoer 5 = .ok (.iconst 0, 1) := by decide +kernel
theorem dX4_quickestDoer_6 : decode cX4_quickestDoer 6 = .ok (.istore 5, 2) := by decide +kernel
theorem dX4_quickestDoer_8 : decode cX4_quickestDoer 8 = .ok (.iload 5, 2) := by decide +kernel
theorem dX4_quickestDoer_10 : decode cX4_quickestDoer 10 = .ok (.aload_n 0, 1) := by decide +kernel
theorem dX4_quickestDoer_11 : decode cX4_quickestDoer 11 = .ok (.getfield 23, 3) := by decide +kernel
theorem dX4_quickestDoer_14 : decode cX4_quickestDoer 14 = .ok (.getfield 60, 3) := by decide +kernel
theorem dX4_quickestDoer_17 : decode cX4_quickestDoer 17 = .ok (.getfield 90, 3) := by decide +kernel
theorem dX4_quickestDoer_20 : decode cX4_quickestDoer 20 = .ok (.if_icmp .ge 72, 3) := by decide +kernel
theorem dX4_quickestDoer_92 : decode cX4_quickestDoer 92 = .ok (.iload_n 3, 1) := by decide +kernel
theorem dX4_quickestDoer_93 : decode cX4_quickestDoer 93 = .ok (.ireturn, 1) := by decide +kernel
theorem dX4_quickestDoer_23 : decode cX4_quickestDoer 23 = .ok (.aload_n 0, 1) := by decide +kernel
theorem dX4_quickestDoer_24 : decode cX4_quickestDoer 24 = .ok (.iload_n 1, 1) := by decide +kernel
theorem dX4_quickestDoer_25 : decode cX4_quickestDoer 25 = .ok (.iload 5, 2) := by decide +kernel
set_option maxRecDepth 20000 in
theorem ggX4_quickestDoer_X4_timeTo : GoodIn wsX4_quickestDoer wsX4_timeTo := goodIn_r _ [9, 1, 2, 4, 10, 11, 12, 13, 14, 15, 16, 17, 18, 19, 20, 21, 22, 23, 24, 25, 26, 27, 28, 29, 30, 31, 32, 33, 42, 43, 44, 45, 46, 47, 48, 49, 50, 51, 52, 53, 54, 55, 56, 57, 58, 59, 60, 61, 62] (by rfl) (by decide +kernel)
set_option maxRecDepth 20000 in
theorem gX4_quickestDoer_X4_timeTo : GoodIn wsX4_quickestDoer (wsV RX4 93 RX4 yX4_timeTo wsX4_timeTo) := goodIn_app (goodIn_r _ [5, 6, 7, 8] (by rfl) (by decide +kernel)) ggX4_quickestDoer_X4_timeTo
theorem dX4_quickestDoer_27 : decode cX4_quickestDoer 27 = .ok (.invokevirtual 93, 3) := by decide +kernel
theorem dX4_quickestDoer_30 : decode cX4_quickestDoer 30 = .ok (.istore 6, 2) := by decide +kernel
theorem dX4_quickestDoer_32 : decode cX4_quickestDoer 32 = .ok (.iload 6, 2) := by decide +kernel
theorem dX4_quickestDoer_34 : decode cX4_quickestDoer 34 = .ok (.iconst (-1), 1) := by decide +kernel
theorem dX4_quickestDoer_60 : decode cX4_quickestDoer 60 = .ok (.istore 7, 2) := by decide +kernel
theorem dX4_quickestDoer_62 : decode cX4_quickestDoer 62 = .ok (.iload 7, 2) := by decide +kernel
theorem dX4_quickestDoer_86 : decode cX4_quickestDoer 86 = .ok (.iinc 5 1, 3) := by decide +kernel
theorem dX4_quickestDoer_89 : decode cX4_quickestDoer 89 = .ok (.goto (-81), 3) := by decide +kernel
theorem dX4_quickestDoer_64 : decode cX4_quickestDoer 64 = .ok (.ifCond .eq 22, 3) := by decide +kernel
theorem dX4_quickestDoer_67 : decode cX4_quickestDoer 67 = .ok (.iload_n 3, 1) := by decide +kernel
theorem dX4_quickestDoer_68 : decode cX4_quickestDoer 68 = .ok (.iconst (-1), 1) := by decide +kernel
theorem dX4_quickestDoer_79 : decode cX4_quickestDoer 79 = .ok (.iload 5, 2) := by decide +kernel
theorem dX4_quickestDoer_81 : decode cX4_quickestDoer 81 = .ok (.istore_n 3, 1) := by decide +kernel
theorem dX4_quickestDoer_82 : decode cX4_quickestDoer 82 = .ok (.iload 6, 2) := by decide +kernel
theorem dX4_quickestDoer_84 : decode cX4_quickestDoer 84 = .ok (.istore 4, 2) := by decide +kernel
theorem dX4_quickestDoer_69 : decode cX4_quickestDoer 69 = .ok (.if_icmp .eq 10, 3) := by decide +kernel
theorem dX4_quickestDoer_72 : decode cX4_quickestDoer 72 = .ok (.iload 6, 2) := by decide +kernel
theorem dX4_quickestDoer_74 : decode cX4_quickestDoer 74 = .ok (.iload 4, 2) := by decide +kernel
theorem dX4_quickestDoer_76 : decode cX4_quickestDoer 76 = .ok (.if_icmp .ge 10, 3) := by decide +kernel
theorem dX4_quickestDoer_59 : decode cX4_quickestDoer 59 = .ok (.iconst 0, 1) := by decide +kernel
theorem dX4_quickestDoer_35 : decode cX4_quickestDoer 35 = .ok (.if_icmp .eq 24, 3) := by decide +kernel
theorem dX4_quickestDoer_38 : decode cX4_quickestDoer 38 = .ok (.aload_n 0, 1) := by decide +kernel
theorem dX4_quickestDoer_39 : decode cX4_quickestDoer 39 = .ok (.getfield 12, 3) := by decide +kernel
theorem dX4_quickestDoer_42 : decode cX4_quickestDoer 42 = .ok (.iload 5, 2) := by decide +kernel
set_option maxRecDepth 20000 in
theorem ggX4_quickestDoer_X9_deedsOf : GoodIn wsX4_quickestDoer wsX9_deedsOf := goodIn_r _ [37, 30, 38, 32, 21, 22, 13, 23, 24, 56, 57, 58, 59, 60, 61, 62, 54, 55] (by rfl) (by decide +kernel)
set_option maxRecDepth 20000 in
theorem gX4_quickestDoer_X9_deedsOf : GoodIn wsX4_quickestDoer (wsV RX4 96 RX9 yX9_deedsOf wsX9_deedsOf) := goodIn_app (goodIn_r _ [34, 35, 36, 28] (by rfl) (by decide +kernel)) ggX4_quickestDoer_X9_deedsOf
theorem dX4_quickestDoer_44 : decode cX4_quickestDoer 44 = .ok (.invokevirtual 96, 3) := by decide +kernel
theorem dX4_quickestDoer_47 : decode cX4_quickestDoer 47 = .ok (.iload_n 2, 1) := by decide +kernel
set_option maxRecDepth 20000 in
theorem ggX4_quickestDoer_X10_bitOf : GoodIn wsX4_quickestDoer wsX10_bitOf := goodIn_r _ [41] (by rfl) (by decide +kernel)
set_option maxRecDepth 20000 in
theorem gX4_quickestDoer_X10_bitOf_n99 : GoodIn wsX4_quickestDoer (wsX10_bitOf) := ggX4_quickestDoer_X10_bitOf
theorem dX4_quickestDoer_48 : decode cX4_quickestDoer 48 = .ok (.invokestatic 99, 3) := by decide +kernel
theorem dX4_quickestDoer_51 : decode cX4_quickestDoer 51 = .ok (.iconst 1, 1) := by decide +kernel
theorem dX4_quickestDoer_52 : decode cX4_quickestDoer 52 = .ok (.if_icmp .ne 7, 3) := by decide +kernel
theorem dX4_quickestDoer_55 : decode cX4_quickestDoer 55 = .ok (.iconst 1, 1) := by decide +kernel
theorem dX4_quickestDoer_56 : decode cX4_quickestDoer 56 = .ok (.goto 4, 3) := by decide +kernel
theorem dX4_cheapestBetween_0 : decode cX4_cheapestBetween 0 = .ok (.aload_n 0, 1) := by decide +kernel
theorem dX4_cheapestBetween_1 : decode cX4_cheapestBetween 1 = .ok (.getfield 23, 3) := by decide +kernel
theorem dX4_cheapestBetween_4 : decode cX4_cheapestBetween 4 = .ok (.getfield 60, 3) := by decide +kernel
theorem dX4_cheapestBetween_7 : decode cX4_cheapestBetween 7 = .ok (.iload_n 1, 1) := by decide +kernel
theorem dX4_cheapestBetween_8 : decode cX4_cheapestBetween 8 = .ok (.iload_n 2, 1) := by decide +kernel
set_option maxRecDepth 20000 in
theorem ggX4_cheapestBetween_X0_stepsTo : GoodIn wsX4_cheapestBetween wsX0_stepsTo := goodIn_r _ [8, 9, 10, 11, 7, 12, 13, 14, 15, 16, 17, 18, 40, 41] (by rfl) (by decide +kernel)
set_option maxRecDepth 20000 in
theorem gX4_cheapestBetween_X0_stepsTo : GoodIn wsX4_cheapestBetween (wsV RX4 79 RX0 yX0_stepsTo wsX0_stepsTo) := goodIn_app (goodIn_r _ [4, 5, 6, 7] (by rfl) (by decide +kernel)) ggX4_cheapestBetween_X0_stepsTo
theorem dX4_cheapestBetween_9 : decode cX4_cheapestBetween 9 = .ok (.invokevirtual 79, 3) := by decide +kernel
theorem dX4_cheapestBetween_12 : decode cX4_cheapestBetween 12 = .ok (.istore_n 3, 1) := by decide +kernel
theorem dX4_cheapestBetween_13 : decode cX4_cheapestBetween 13 = .ok (.iload_n 3, 1) := by decide +kernel
theorem dX4_cheapestBetween_14 : decode cX4_cheapestBetween 14 = .ok (.iconst (-1), 1) := by decide +kernel
theorem dX4_cheapestBetween_15 : decode cX4_cheapestBetween 15 = .ok (.if_icmp .ne 5, 3) := by decide +kernel
theorem dX4_cheapestBetween_20 : decode cX4_cheapestBetween 20 = .ok (.iload_n 2, 1) := by decide +kernel
theorem dX4_cheapestBetween_21 : decode cX4_cheapestBetween 21 = .ok (.istore 4, 2) := by decide +kernel
theorem dX4_cheapestBetween_23 : decode cX4_cheapestBetween 23 = .ok (.iload_n 2, 1) := by decide +kernel
theorem dX4_cheapestBetween_24 : decode cX4_cheapestBetween 24 = .ok (.istore 5, 2) := by decide +kernel
theorem dX4_cheapestBetween_26 : decode cX4_cheapestBetween 26 = .ok (.iconst 1, 1) := by decide +kernel
theorem dX4_cheapestBetween_27 : decode cX4_cheapestBetween 27 = .ok (.istore 6, 2) := by decide +kernel
theorem dX4_cheapestBetween_29 : decode cX4_cheapestBetween 29 = .ok (.iload 6, 2) := by decide +kernel
theorem dX4_cheapestBetween_31 : decode cX4_cheapestBetween 31 = .ok (.iload_n 3, 1) := by decide +kernel
theorem dX4_cheapestBetween_32 : decode cX4_cheapestBetween 32 = .ok (.if_icmp .ge 88, 3) := by decide +kernel
theorem dX4_cheapestBetween_120 : decode cX4_cheapestBetween 120 = .ok (.iload 4, 2) := by decide +kernel
theorem dX4_cheapestBetween_122 : decode cX4_cheapestBetween 122 = .ok (.ireturn, 1) := by decide +kernel
theorem dX4_cheapestBetween_35 : decode cX4_cheapestBetween 35 = .ok (.aload_n 0, 1) := by decide +kernel
theorem dX4_cheapestBetween_36 : decode cX4_cheapestBetween 36 = .ok (.getfield 23, 3) := by decide +kernel
theorem dX4_cheapestBetween_39 : decode cX4_cheapestBetween 39 = .ok (.getfield 60, 3) := by decide +kernel
theorem dX4_cheapestBetween_42 : decode cX4_cheapestBetween 42 = .ok (.iload 5, 2) := by decide +kernel
set_option maxRecDepth 20000 in
theorem ggX4_cheapestBetween_X0_holderOf : GoodIn wsX4_cheapestBetween wsX0_holderOf := goodIn_r _ [12, 13, 14, 15, 16, 7, 17, 18, 40, 41] (by rfl) (by decide +kernel)
set_option maxRecDepth 20000 in
theorem gX4_cheapestBetween_X0_holderOf : GoodIn wsX4_cheapestBetween (wsV RX4 87 RX0 yX0_holderOf wsX0_holderOf) := goodIn_app (goodIn_r _ [19, 10, 11, 7] (by rfl) (by decide +kernel)) ggX4_cheapestBetween_X0_holderOf
theorem dX4_cheapestBetween_44 : decode cX4_cheapestBetween 44 = .ok (.invokevirtual 87, 3) := by decide +kernel
theorem dX4_cheapestBetween_47 : decode cX4_cheapestBetween 47 = .ok (.istore 5, 2) := by decide +kernel
theorem dX4_cheapestBetween_49 : decode cX4_cheapestBetween 49 = .ok (.aload_n 0, 1) := by decide +kernel
theorem dX4_cheapestBetween_50 : decode cX4_cheapestBetween 50 = .ok (.getfield 12, 3) := by decide +kernel
theorem dX4_cheapestBetween_53 : decode cX4_cheapestBetween 53 = .ok (.iload 5, 2) := by decide +kernel
set_option maxRecDepth 20000 in
theorem ggX4_cheapestBetween_X9_worthOf : GoodIn wsX4_cheapestBetween wsX9_worthOf := goodIn_r _ [24, 25, 26, 27, 15, 16, 7, 17, 18, 42, 43, 44, 45, 46, 47, 48, 40, 41] (by rfl) (by decide +kernel)
set_option maxRecDepth 20000 in
theorem gX4_cheapestBetween_X9_worthOf : GoodIn wsX4_cheapestBetween (wsV RX4 102 RX9 yX9_worthOf wsX9_worthOf) := goodIn_app (goodIn_r _ [20, 21, 22, 23] (by rfl) (by decide +kernel)) ggX4_cheapestBetween_X9_worthOf
theorem dX4_cheapestBetween_55 : decode cX4_cheapestBetween 55 = .ok (.invokevirtual 102, 3) := by decide +kernel
theorem dX4_cheapestBetween_58 : decode cX4_cheapestBetween 58 = .ok (.aload_n 0, 1) := by decide +kernel
theorem dX4_cheapestBetween_59 : decode cX4_cheapestBetween 59 = .ok (.getfield 12, 3) := by decide +kernel
theorem dX4_cheapestBetween_62 : decode cX4_cheapestBetween 62 = .ok (.iload 4, 2) := by decide +kernel
theorem dX4_cheapestBetween_64 : decode cX4_cheapestBetween 64 = .ok (.invokevirtual 102, 3) := by decide +kernel
theorem dX4_cheapestBetween_75 : decode cX4_cheapestBetween 75 = .ok (.istore 7, 2) := by decide +kernel
theorem dX4_cheapestBetween_77 : decode cX4_cheapestBetween 77 = .ok (.aload_n 0, 1) := by decide +kernel
theorem dX4_cheapestBetween_78 : decode cX4_cheapestBetween 78 = .ok (.getfield 12, 3) := by decide +kernel
theorem dX4_cheapestBetween_81 : decode cX4_cheapestBetween 81 = .ok (.iload 5, 2) := by decide +kernel
theorem dX4_cheapestBetween_83 : decode cX4_cheapestBetween 83 = .ok (.invokevirtual 102, 3) := by decide +kernel
theorem dX4_cheapestBetween_86 : decode cX4_cheapestBetween 86 = .ok (.aload_n 0, 1) := by decide +kernel
theorem dX4_cheapestBetween_87 : decode cX4_cheapestBetween 87 = .ok (.getfield 12, 3) := by decide +kernel
theorem dX4_cheapestBetween_90 : decode cX4_cheapestBetween 90 = .ok (.iload 4, 2) := by decide +kernel
theorem dX4_cheapestBetween_92 : decode cX4_cheapestBetween 92 = .ok (.invokevirtual 102, 3) := by decide +kernel
theorem dX4_cheapestBetween_114 : decode cX4_cheapestBetween 114 = .ok (.iinc 6 1, 3) := by decide +kernel
theorem dX4_cheapestBetween_117 : decode cX4_cheapestBetween 117 = .ok (.goto (-88), 3) := by decide +kernel
theorem dX4_cheapestBetween_110 : decode cX4_cheapestBetween 110 = .ok (.iload 5, 2) := by decide +kernel
theorem dX4_cheapestBetween_112 : decode cX4_cheapestBetween 112 = .ok (.istore 4, 2) := by decide +kernel
theorem dX4_cheapestBetween_95 : decode cX4_cheapestBetween 95 = .ok (.if_icmp .lt 15, 3) := by decide +kernel
theorem dX4_cheapestBetween_98 : decode cX4_cheapestBetween 98 = .ok (.iload 7, 2) := by decide +kernel
theorem dX4_cheapestBetween_100 : decode cX4_cheapestBetween 100 = .ok (.ifCond .eq 14, 3) := by decide +kernel
theorem dX4_cheapestBetween_103 : decode cX4_cheapestBetween 103 = .ok (.iload 5, 2) := by decide +kernel
theorem dX4_cheapestBetween_105 : decode cX4_cheapestBetween 105 = .ok (.iload 4, 2) := by decide +kernel
theorem dX4_cheapestBetween_107 : decode cX4_cheapestBetween 107 = .ok (.if_icmp .ge 7, 3) := by decide +kernel
theorem dX4_cheapestBetween_67 : decode cX4_cheapestBetween 67 = .ok (.if_icmp .ne 7, 3) := by decide +kernel
theorem dX4_cheapestBetween_74 : decode cX4_cheapestBetween 74 = .ok (.iconst 0, 1) := by decide +kernel
theorem dX4_cheapestBetween_70 : decode cX4_cheapestBetween 70 = .ok (.iconst 1, 1) := by decide +kernel
theorem dX4_cheapestBetween_71 : decode cX4_cheapestBetween 71 = .ok (.goto 4, 3) := by decide +kernel
theorem dX4_cheapestBetween_18 : decode cX4_cheapestBetween 18 = .ok (.iconst (-1), 1) := by decide +kernel
theorem dX4_cheapestBetween_19 : decode cX4_cheapestBetween 19 = .ok (.ireturn, 1) := by decide +kernel
theorem dX4_askable_0 : decode cX4_askable 0 = .ok (.aload_n 0, 1) := by decide +kernel
theorem dX4_askable_1 : decode cX4_askable 1 = .ok (.getfield 23, 3) := by decide +kernel
theorem dX4_askable_4 : decode cX4_askable 4 = .ok (.getfield 60, 3) := by decide +kernel
theorem dX4_askable_7 : decode cX4_askable 7 = .ok (.iload_n 1, 1) := by decide +kernel
set_option maxRecDepth 20000 in
theorem ggX4_askable_X0_handOf : GoodIn wsX4_askable wsX0_handOf := goodIn_r _ [8, 9, 10, 11, 12, 7, 13, 14, 15, 16, 17, 18, 31, 32] (by rfl) (by decide +kernel)
set_option maxRecDepth 20000 in
theorem gX4_askable_X0_handOf : GoodIn wsX4_askable (wsV RX4 105 RX0 yX0_handOf wsX0_handOf) := goodIn_app (goodIn_r _ [4, 5, 6, 7] (by rfl) (by decide +kernel)) ggX4_askable_X0_handOf
theorem dX4_askable_8 : decode cX4_askable 8 = .ok (.invokevirtual 105, 3) := by decide +kernel
theorem dX4_askable_11 : decode cX4_askable 11 = .ok (.aload_n 0, 1) := by decide +kernel
theorem dX4_askable_12 : decode cX4_askable 12 = .ok (.getfield 23, 3) := by decide +kernel
theorem dX4_askable_15 : decode cX4_askable 15 = .ok (.getfield 108, 3) := by decide +kernel
theorem dX4_askable_18 : decode cX4_askable 18 = .ok (.iconst (-1), 1) := by decide +kernel
theorem dX4_askable_19 : decode cX4_askable 19 = .ok (.ixor, 1) := by decide +kernel
theorem dX4_askable_20 : decode cX4_askable 20 = .ok (.iand, 1) := by decide +kernel
theorem dX4_askable_21 : decode cX4_askable 21 = .ok (.ireturn, 1) := by decide +kernel
theorem dX4_doersIn_0 : decode cX4_doersIn 0 = .ok (.iconst 0, 1) := by decide +kernel
theorem dX4_doersIn_1 : decode cX4_doersIn 1 = .ok (.istore_n 3, 1) := by decide +kernel
theorem dX4_doersIn_2 : decode cX4_doersIn 2 = .ok (.iconst 0, 1) := by decide +kernel
theorem dX4_doersIn_3 : decode cX4_doersIn 3 = .ok (.istore 4, 2) := by decide +kernel
theorem dX4_doersIn_5 : decode cX4_doersIn 5 = .ok (.iload 4, 2) := by decide +kernel
theorem dX4_doersIn_7 : decode cX4_doersIn 7 = .ok (.aload_n 0, 1) := by decide +kernel
theorem dX4_doersIn_8 : decode cX4_doersIn 8 = .ok (.getfield 23, 3) := by decide +kernel
theorem dX4_doersIn_11 : decode cX4_doersIn 11 = .ok (.getfield 60, 3) := by decide +kernel
theorem dX4_doersIn_14 : decode cX4_doersIn 14 = .ok (.getfield 90, 3) := by decide +kernel
theorem dX4_doersIn_17 : decode cX4_doersIn 17 = .ok (.if_icmp .ge 36, 3) := by decide +kernel
theorem dX4_doersIn_53 : decode cX4_doersIn 53 = .ok (.iload_n 3, 1) := by decide +kernel
theorem dX4_doersIn_54 : decode cX4_doersIn 54 = .ok (.ireturn, 1) := by decide +kernel
theorem dX4_doersIn_20 : decode cX4_doersIn 20 = .ok (.iload_n 1, 1) := by decide +kernel
theorem dX4_doersIn_21 : decode cX4_doersIn 21 = .ok (.iload 4, 2) := by decide +kernel
set_option maxRecDepth 20000 in
theorem ggX4_doersIn_X10_bitOf : GoodIn wsX4_doersIn wsX10_bitOf := goodIn_r _ [7] (by rfl) (by decide +kernel)
set_option maxRecDepth 20000 in
theorem gX4_doersIn_X10_bitOf_n99 : GoodIn wsX4_doersIn (wsX10_bitOf) := ggX4_doersIn_X10_bitOf
theorem dX4_doersIn_23 : decode cX4_doersIn 23 = .ok (.invokestatic 99, 3) := by decide +kernel
theorem dX4_doersIn_26 : decode cX4_doersIn 26 = .ok (.iconst 1, 1) := by decide +kernel
theorem dX4_doersIn_47 : decode cX4_doersIn 47 = .ok (.iinc 4 1, 3) := by decide +kernel
theorem dX4_doersIn_50 : decode cX4_doersIn 50 = .ok (.goto (-45), 3) := by decide +kernel
theorem dX4_doersIn_27 : decode cX4_doersIn 27 = .ok (.if_icmp .ne 20, 3) := by decide +kernel
theorem dX4_doersIn_30 : decode cX4_doersIn 30 = .ok (.aload_n 0, 1) := by decide +kernel
theorem dX4_doersIn_31 : decode cX4_doersIn 31 = .ok (.getfield 12, 3) := by decide +kernel
theorem dX4_doersIn_34 : decode cX4_doersIn 34 = .ok (.iload 4, 2) := by decide +kernel
set_option maxRecDepth 20000 in
theorem ggX4_doersIn_X9_deedsOf : GoodIn wsX4_doersIn wsX9_deedsOf := goodIn_r _ [12, 13, 14, 15, 16, 17, 18, 19, 20, 35, 36, 37, 38, 39, 40, 41, 33, 34] (by rfl) (by decide +kernel)
set_option maxRecDepth 20000 in
theorem gX4_doersIn_X9_deedsOf : GoodIn wsX4_doersIn (wsV RX4 96 RX9 yX9_deedsOf wsX9_deedsOf) := goodIn_app (goodIn_r _ [8, 9, 10, 11] (by rfl) (by decide +kernel)) ggX4_doersIn_X9_deedsOf
theorem dX4_doersIn_36 : decode cX4_doersIn 36 = .ok (.invokevirtual 96, 3) := by decide +kernel
theorem dX4_doersIn_39 : decode cX4_doersIn 39 = .ok (.iload_n 2, 1) := by decide +kernel
theorem dX4_doersIn_40 : decode cX4_doersIn 40 = .ok (.iand, 1) := by decide +kernel
theorem dX4_doersIn_41 : decode cX4_doersIn 41 = .ok (.ifCond .eq 6, 3) := by decide +kernel
theorem dX4_doersIn_44 : decode cX4_doersIn 44 = .ok (.iinc 3 1, 3) := by decide +kernel
theorem dX4_mostWishes_0 : decode cX4_mostWishes 0 = .ok (.iload_n 1, 1) := by decide +kernel
set_option maxRecDepth 20000 in
theorem ggX4_mostWishes_J6_bitCount_0f7a4 : GoodIn wsX4_mostWishes wsJ6_bitCount_0f7a4 := goodIn_r _ [8, 9, 10, 11] (by rfl) (by decide +kernel)
set_option maxRecDepth 20000 in
theorem gX4_mostWishes_J6_bitCount_0f7a4 : GoodIn wsX4_mostWishes (va_wsS RX4 111 yJ6_bitCount_0f7a4 wsJ6_bitCount_0f7a4) := goodIn_app (goodIn_r _ [5, 6, 7] (by rfl) (by decide +kernel)) ggX4_mostWishes_J6_bitCount_0f7a4
theorem dX4_mostWishes_1 : decode cX4_mostWishes 1 = .ok (.invokestatic 111, 3) := by decide +kernel
theorem dX4_mostWishes_4 : decode cX4_mostWishes 4 = .ok (.istore_n 3, 1) := by decide +kernel
theorem dX4_mostWishes_5 : decode cX4_mostWishes 5 = .ok (.iconst 0, 1) := by decide +kernel
theorem dX4_mostWishes_6 : decode cX4_mostWishes 6 = .ok (.istore 4, 2) := by decide +kernel
theorem dX4_mostWishes_8 : decode cX4_mostWishes 8 = .ok (.iload 4, 2) := by decide +kernel
theorem dX4_mostWishes_10 : decode cX4_mostWishes 10 = .ok (.bipush 64, 2) := by decide +kernel
theorem dX4_mostWishes_12 : decode cX4_mostWishes 12 = .ok (.if_icmp .ge 48, 3) := by decide +kernel
theorem dX4_mostWishes_60 : decode cX4_mostWishes 60 = .ok (.iload_n 3, 1) := by decide +kernel
theorem dX4_mostWishes_61 : decode cX4_mostWishes 61 = .ok (.ireturn, 1) := by decide +kernel
theorem dX4_mostWishes_15 : decode cX4_mostWishes 15 = .ok (.iload_n 1, 1) := by decide +kernel
theorem dX4_mostWishes_16 : decode cX4_mostWishes 16 = .ok (.ifCond .eq 44, 3) := by decide +kernel
theorem dX4_mostWishes_19 : decode cX4_mostWishes 19 = .ok (.iload 4, 2) := by decide +kernel
theorem dX4_mostWishes_21 : decode cX4_mostWishes 21 = .ok (.iload_n 2, 1) := by decide +kernel
theorem dX4_mostWishes_22 : decode cX4_mostWishes 22 = .ok (.iconst (-1), 1) := by decide +kernel
theorem dX4_mostWishes_23 : decode cX4_mostWishes 23 = .ok (.ixor, 1) := by decide +kernel
theorem dX4_mostWishes_24 : decode cX4_mostWishes 24 = .ok (.iand, 1) := by decide +kernel
theorem dX4_mostWishes_54 : decode cX4_mostWishes 54 = .ok (.iinc 4 1, 3) := by decide +kernel
theorem dX4_mostWishes_57 : decode cX4_mostWishes 57 = .ok (.goto (-49), 3) := by decide +kernel
theorem dX4_mostWishes_25 : decode cX4_mostWishes 25 = .ok (.ifCond .ne 29, 3) := by decide +kernel
theorem dX4_mostWishes_28 : decode cX4_mostWishes 28 = .ok (.aload_n 0, 1) := by decide +kernel
theorem dX4_mostWishes_29 : decode cX4_mostWishes 29 = .ok (.iload_n 1, 1) := by decide +kernel
theorem dX4_mostWishes_30 : decode cX4_mostWishes 30 = .ok (.iload_n 2, 1) := by decide +kernel
theorem dX4_mostWishes_31 : decode cX4_mostWishes 31 = .ok (.iload 4, 2) := by decide +kernel
theorem dX4_mostWishes_33 : decode cX4_mostWishes 33 = .ok (.iconst (-1), 1) := by decide +kernel
theorem dX4_mostWishes_34 : decode cX4_mostWishes 34 = .ok (.ixor, 1) := by decide +kernel
theorem dX4_mostWishes_35 : decode cX4_mostWishes 35 = .ok (.iand, 1) := by decide +kernel
set_option maxRecDepth 20000 in
theorem ggX4_mostWishes_X4_doersIn : GoodIn wsX4_mostWishes wsX4_doersIn := goodIn_r _ [16, 17, 18, 19, 20, 21, 22, 23, 24, 25, 26, 27, 28, 29, 30, 31, 32, 33, 34, 35, 36, 37, 38, 39, 40, 41, 42, 43, 44, 45, 46, 47, 48, 49, 50, 51, 52, 53, 54, 55, 56, 57] (by rfl) (by decide +kernel)
set_option maxRecDepth 20000 in
theorem gX4_mostWishes_X4_doersIn : GoodIn wsX4_mostWishes (wsV RX4 116 RX4 yX4_doersIn wsX4_doersIn) := goodIn_app (goodIn_r _ [12, 13, 14, 15] (by rfl) (by decide +kernel)) ggX4_mostWishes_X4_doersIn
theorem dX4_mostWishes_36 : decode cX4_mostWishes 36 = .ok (.invokevirtual 116, 3) := by decide +kernel
theorem dX4_mostWishes_39 : decode cX4_mostWishes 39 = .ok (.istore 5, 2) := by decide +kernel
theorem dX4_mostWishes_41 : decode cX4_mostWishes 41 = .ok (.iload_n 3, 1) := by decide +kernel
theorem dX4_mostWishes_42 : decode cX4_mostWishes 42 = .ok (.iload 4, 2) := by decide +kernel
theorem dX4_mostWishes_44 : decode cX4_mostWishes 44 = .ok (.invokestatic 111, 3) := by decide +kernel
theorem dX4_mostWishes_47 : decode cX4_mostWishes 47 = .ok (.iload 5, 2) := by decide +kernel
theorem dX4_mostWishes_49 : decode cX4_mostWishes 49 = .ok (.iadd, 1) := by decide +kernel
theorem dX4_mostWishes_50 : decode cX4_mostWishes 50 = .ok (.invokestatic 119, 3) := by decide +kernel
theorem dX4_mostWishes_53 : decode cX4_mostWishes 53 = .ok (.istore_n 3, 1) := by decide +kernel
theorem dX4_leastWork_0 : decode cX4_leastWork 0 = .ok (.aload_n 0, 1) := by decide +kernel
theorem dX4_leastWork_1 : decode cX4_leastWork 1 = .ok (.iload_n 2, 1) := by decide +kernel
theorem dX4_leastWork_2 : decode cX4_leastWork 2 = .ok (.iconst 1, 1) := by decide +kernel
theorem dX4_leastWork_3 : decode cX4_leastWork 3 = .ok (.iload_n 1, 1) := by decide +kernel
theorem dX4_leastWork_4 : decode cX4_leastWork 4 = .ok (.ishl, 1) := by decide +kernel
theorem dX4_leastWork_5 : decode cX4_leastWork 5 = .ok (.ior, 1) := by decide +kernel
theorem dX4_leastWork_6 : decode cX4_leastWork 6 = .ok (.iload_n 3, 1) := by decide +kernel
set_option maxRecDepth 20000 in
theorem ggX4_leastWork_X4_mostWishes : GoodIn wsX4_leastWork wsX4_mostWishes := goodIn_r _ [6, 7, 8, 9, 10, 11, 12, 13, 14, 15, 16, 17, 18, 19, 20, 5, 21, 22, 23, 24, 1, 25, 26, 27, 28, 29, 30, 31, 32, 33, 34, 35, 36, 37, 38, 39, 40, 41, 42, 43, 44, 45, 46, 47, 48, 49, 50, 51, 52, 53, 54, 55, 56, 57, 58, 59, 60, 61] (by rfl) (by decide +kernel)
set_option maxRecDepth 20000 in
theorem gX4_leastWork_X4_mostWishes : GoodIn wsX4_leastWork (wsV RX4 134 RX4 yX4_mostWishes wsX4_mostWishes) := goodIn_app (goodIn_r _ [2, 3, 4, 5] (by rfl) (by decide +kernel)) ggX4_leastWork_X4_mostWishes
theorem dX4_leastWork_7 : decode cX4_leastWork 7 = .ok (.invokevirtual 134, 3) := by decide +kernel
theorem dX4_leastWork_10 : decode cX4_leastWork 10 = .ok (.istore 4, 2) := by decide +kernel
theorem dX4_leastWork_12 : decode cX4_leastWork 12 = .ok (.iconst 0, 1) := by decide +kernel
theorem dX4_leastWork_13 : decode cX4_leastWork 13 = .ok (.istore 5, 2) := by decide +kernel
theorem dX4_leastWork_15 : decode cX4_leastWork 15 = .ok (.iload 5, 2) := by decide +kernel
theorem dX4_leastWork_17 : decode cX4_leastWork 17 = .ok (.bipush 6, 2) := by decide +kernel
theorem dX4_leastWork_19 : decode cX4_leastWork 19 = .ok (.if_icmp .ge 63, 3) := by decide +kernel
theorem dX4_leastWork_82 : decode cX4_leastWork 82 = .ok (.iconst (-1), 1) := by decide +kernel
theorem dX4_leastWork_83 : decode cX4_leastWork 83 = .ok (.ireturn, 1) := by decide +kernel
theorem dX4_leastWork_22 : decode cX4_leastWork 22 = .ok (.aload_n 0, 1) := by decide +kernel
theorem dX4_leastWork_23 : decode cX4_leastWork 23 = .ok (.getfield 12, 3) := by decide +kernel
theorem dX4_leastWork_26 : decode cX4_leastWork 26 = .ok (.iload_n 1, 1) := by decide +kernel
set_option maxRecDepth 20000 in
theorem ggX4_leastWork_X9_deedsOf : GoodIn wsX4_leastWork wsX9_deedsOf := goodIn_r _ [32, 33, 34, 35, 36, 37, 38, 39, 40, 55, 56, 57, 58, 59, 60, 61, 53, 54] (by rfl) (by decide +kernel)
set_option maxRecDepth 20000 in
theorem gX4_leastWork_X9_deedsOf : GoodIn wsX4_leastWork (wsV RX4 96 RX9 yX9_deedsOf wsX9_deedsOf) := goodIn_app (goodIn_r _ [28, 29, 30, 31] (by rfl) (by decide +kernel)) ggX4_leastWork_X9_deedsOf
theorem dX4_leastWork_27 : decode cX4_leastWork 27 = .ok (.invokevirtual 96, 3) := by decide +kernel
theorem dX4_leastWork_30 : decode cX4_leastWork 30 = .ok (.iload_n 3, 1) := by decide +kernel
theorem dX4_leastWork_31 : decode cX4_leastWork 31 = .ok (.iand, 1) := by decide +kernel
theorem dX4_leastWork_32 : decode cX4_leastWork 32 = .ok (.iload 5, 2) := by decide +kernel
set_option maxRecDepth 20000 in
theorem ggX4_leastWork_X10_bitOf : GoodIn wsX4_leastWork wsX10_bitOf := goodIn_r _ [27] (by rfl) (by decide +kernel)
set_option maxRecDepth 20000 in
theorem gX4_leastWork_X10_bitOf_n99 : GoodIn wsX4_leastWork (wsX10_bitOf) := ggX4_leastWork_X10_bitOf
theorem dX4_leastWork_34 : decode cX4_leastWork 34 = .ok (.invokestatic 99, 3) := by decide +kernel
theorem dX4_leastWork_37 : decode cX4_leastWork 37 = .ok (.iconst 1, 1) := by decide +kernel
theorem dX4_leastWork_46 : decode cX4_leastWork 46 = .ok (.istore 6, 2) := by decide +kernel
theorem dX4_leastWork_48 : decode cX4_leastWork 48 = .ok (.iload 6, 2) := by decide +kernel
theorem dX4_leastWork_76 : decode cX4_leastWork 76 = .ok (.iinc 5 1, 3) := by decide +kernel
theorem dX4_leastWork_79 : decode cX4_leastWork 79 = .ok (.goto (-64), 3) := by decide +kernel
theorem dX4_leastWork_50 : decode cX4_leastWork 50 = .ok (.ifCond .eq 26, 3) := by decide +kernel
theorem dX4_leastWork_53 : decode cX4_leastWork 53 = .ok (.aload_n 0, 1) := by decide +kernel
theorem dX4_leastWork_54 : decode cX4_leastWork 54 = .ok (.iload_n 2, 1) := by decide +kernel
theorem dX4_leastWork_55 : decode cX4_leastWork 55 = .ok (.iload_n 3, 1) := by decide +kernel
theorem dX4_leastWork_56 : decode cX4_leastWork 56 = .ok (.iconst 1, 1) := by decide +kernel
theorem dX4_leastWork_57 : decode cX4_leastWork 57 = .ok (.iload 5, 2) := by decide +kernel
theorem dX4_leastWork_59 : decode cX4_leastWork 59 = .ok (.ishl, 1) := by decide +kernel
theorem dX4_leastWork_60 : decode cX4_leastWork 60 = .ok (.iconst (-1), 1) := by decide +kernel
theorem dX4_leastWork_61 : decode cX4_leastWork 61 = .ok (.ixor, 1) := by decide +kernel
theorem dX4_leastWork_62 : decode cX4_leastWork 62 = .ok (.iand, 1) := by decide +kernel
theorem dX4_leastWork_63 : decode cX4_leastWork 63 = .ok (.invokevirtual 134, 3) := by decide +kernel
theorem dX4_leastWork_66 : decode cX4_leastWork 66 = .ok (.iconst 1, 1) := by decide +kernel
theorem dX4_leastWork_67 : decode cX4_leastWork 67 = .ok (.iadd, 1) := by decide +kernel
theorem dX4_leastWork_68 : decode cX4_leastWork 68 = .ok (.iload 4, 2) := by decide +kernel
theorem dX4_leastWork_70 : decode cX4_leastWork 70 = .ok (.if_icmp .ne 6, 3) := by decide +kernel
theorem dX4_leastWork_73 : decode cX4_leastWork 73 = .ok (.iload 5, 2) := by decide +kernel
theorem dX4_leastWork_75 : decode cX4_leastWork 75 = .ok (.ireturn, 1) := by decide +kernel
theorem dX4_leastWork_38 : decode cX4_leastWork 38 = .ok (.if_icmp .ne 7, 3) := by decide +kernel
theorem dX4_leastWork_45 : decode cX4_leastWork 45 = .ok (.iconst 0, 1) := by decide +kernel
theorem dX4_leastWork_41 : decode cX4_leastWork 41 = .ok (.iconst 1, 1) := by decide +kernel
theorem dX4_leastWork_42 : decode cX4_leastWork 42 = .ok (.goto 4, 3) := by decide +kernel
theorem dX4_workOf_0 : decode cX4_workOf 0 = .ok (.aload_n 0, 1) := by decide +kernel
theorem dX4_workOf_1 : decode cX4_workOf 1 = .ok (.getfield 23, 3) := by decide +kernel
theorem dX4_workOf_4 : decode cX4_workOf 4 = .ok (.getfield 60, 3) := by decide +kernel
theorem dX4_workOf_7 : decode cX4_workOf 7 = .ok (.iload_n 1, 1) := by decide +kernel
set_option maxRecDepth 20000 in
theorem ggX4_workOf_X0_holderOf : GoodIn wsX4_workOf wsX0_holderOf := goodIn_r _ [8, 9, 10, 11, 12, 7, 13, 14, 78, 79] (by rfl) (by decide +kernel)
set_option maxRecDepth 20000 in
theorem gX4_workOf_X0_holderOf : GoodIn wsX4_workOf (wsV RX4 87 RX0 yX0_holderOf wsX0_holderOf) := goodIn_app (goodIn_r _ [4, 5, 6, 7] (by rfl) (by decide +kernel)) ggX4_workOf_X0_holderOf
theorem dX4_workOf_8 : decode cX4_workOf 8 = .ok (.invokevirtual 87, 3) := by decide +kernel
theorem dX4_workOf_11 : decode cX4_workOf 11 = .ok (.istore_n 2, 1) := by decide +kernel
theorem dX4_workOf_12 : decode cX4_workOf 12 = .ok (.iload_n 2, 1) := by decide +kernel
theorem dX4_workOf_13 : decode cX4_workOf 13 = .ok (.iconst (-1), 1) := by decide +kernel
theorem dX4_workOf_26 : decode cX4_workOf 26 = .ok (.istore_n 3, 1) := by decide +kernel
theorem dX4_workOf_27 : decode cX4_workOf 27 = .ok (.aload_n 0, 1) := by decide +kernel
theorem dX4_workOf_28 : decode cX4_workOf 28 = .ok (.getfield 12, 3) := by decide +kernel
theorem dX4_workOf_31 : decode cX4_workOf 31 = .ok (.iload_n 2, 1) := by decide +kernel
set_option maxRecDepth 20000 in
theorem ggX4_workOf_X9_wishesOf : GoodIn wsX4_workOf wsX9_wishesOf := goodIn_r _ [30, 31, 32, 33, 11, 12, 7, 13, 14, 80, 81, 82, 83, 84, 85, 86, 78, 79] (by rfl) (by decide +kernel)
set_option maxRecDepth 20000 in
theorem gX4_workOf_X9_wishesOf : GoodIn wsX4_workOf (wsV RX4 127 RX9 yX9_wishesOf wsX9_wishesOf) := goodIn_app (goodIn_r _ [26, 27, 28, 29] (by rfl) (by decide +kernel)) ggX4_workOf_X9_wishesOf
theorem dX4_workOf_32 : decode cX4_workOf 32 = .ok (.invokevirtual 127, 3) := by decide +kernel
theorem dX4_workOf_35 : decode cX4_workOf 35 = .ok (.istore 4, 2) := by decide +kernel
theorem dX4_workOf_37 : decode cX4_workOf 37 = .ok (.iconst 0, 1) := by decide +kernel
theorem dX4_workOf_38 : decode cX4_workOf 38 = .ok (.istore 5, 2) := by decide +kernel
theorem dX4_workOf_40 : decode cX4_workOf 40 = .ok (.iload 5, 2) := by decide +kernel
theorem dX4_workOf_42 : decode cX4_workOf 42 = .ok (.iload_n 1, 1) := by decide +kernel
theorem dX4_workOf_43 : decode cX4_workOf 43 = .ok (.if_icmp .gt 70, 3) := by decide +kernel
theorem dX4_workOf_113 : decode cX4_workOf 113 = .ok (.iconst (-1), 1) := by decide +kernel
theorem dX4_workOf_114 : decode cX4_workOf 114 = .ok (.ireturn, 1) := by decide +kernel
theorem dX4_workOf_46 : decode cX4_workOf 46 = .ok (.iload_n 3, 1) := by decide +kernel
theorem dX4_workOf_47 : decode cX4_workOf 47 = .ok (.iload 5, 2) := by decide +kernel
set_option maxRecDepth 20000 in
theorem ggX4_workOf_X10_bitOf : GoodIn wsX4_workOf wsX10_bitOf := goodIn_r _ [36] (by rfl) (by decide +kernel)
set_option maxRecDepth 20000 in
theorem gX4_workOf_X10_bitOf_n99 : GoodIn wsX4_workOf (wsX10_bitOf) := ggX4_workOf_X10_bitOf
theorem dX4_workOf_49 : decode cX4_workOf 49 = .ok (.invokestatic 99, 3) := by decide +kernel
theorem dX4_workOf_52 : decode cX4_workOf 52 = .ok (.iconst 1, 1) := by decide +kernel
theorem dX4_workOf_107 : decode cX4_workOf 107 = .ok (.iinc 5 1, 3) := by decide +kernel
theorem dX4_workOf_110 : decode cX4_workOf 110 = .ok (.goto (-70), 3) := by decide +kernel
theorem dX4_workOf_53 : decode cX4_workOf 53 = .ok (.if_icmp .ne 54, 3) := by decide +kernel
theorem dX4_workOf_56 : decode cX4_workOf 56 = .ok (.iload_n 3, 1) := by decide +kernel
theorem dX4_workOf_57 : decode cX4_workOf 57 = .ok (.iconst 1, 1) := by decide +kernel
theorem dX4_workOf_58 : decode cX4_workOf 58 = .ok (.iload 5, 2) := by decide +kernel
theorem dX4_workOf_60 : decode cX4_workOf 60 = .ok (.ishl, 1) := by decide +kernel
theorem dX4_workOf_61 : decode cX4_workOf 61 = .ok (.iconst (-1), 1) := by decide +kernel
theorem dX4_workOf_62 : decode cX4_workOf 62 = .ok (.ixor, 1) := by decide +kernel
theorem dX4_workOf_63 : decode cX4_workOf 63 = .ok (.iand, 1) := by decide +kernel
theorem dX4_workOf_64 : decode cX4_workOf 64 = .ok (.istore_n 3, 1) := by decide +kernel
theorem dX4_workOf_65 : decode cX4_workOf 65 = .ok (.aload_n 0, 1) := by decide +kernel
theorem dX4_workOf_66 : decode cX4_workOf 66 = .ok (.iload 5, 2) := by decide +kernel
theorem dX4_workOf_68 : decode cX4_workOf 68 = .ok (.iload_n 3, 1) := by decide +kernel
theorem dX4_workOf_69 : decode cX4_workOf 69 = .ok (.iload 4, 2) := by decide +kernel
set_option maxRecDepth 20000 in
theorem ggX4_workOf_X4_leastWork : GoodIn wsX4_workOf wsX4_leastWork := goodIn_r _ [40, 3, 41, 42, 43, 18, 44, 45, 46, 47, 48, 49, 50, 51, 52, 53, 54, 55, 56, 57, 58, 59, 1, 2, 60, 34, 35, 36, 61, 62, 63, 29, 64, 31, 65, 33, 11, 12, 7, 13, 14, 66, 67, 68, 69, 70, 71, 72, 73, 74, 75, 76, 77, 78, 79, 80, 81, 82, 83, 84, 85, 86] (by rfl) (by decide +kernel)
set_option maxRecDepth 20000 in
theorem gX4_workOf_X4_leastWork : GoodIn wsX4_workOf (wsV RX4 130 RX4 yX4_leastWork wsX4_leastWork) := goodIn_app (goodIn_r _ [37, 38, 39, 18] (by rfl) (by decide +kernel)) ggX4_workOf_X4_leastWork
theorem dX4_workOf_71 : decode cX4_workOf 71 = .ok (.invokevirtual 130, 3) := by decide +kernel
theorem dX4_workOf_74 : decode cX4_workOf 74 = .ok (.istore 6, 2) := by decide +kernel
theorem dX4_workOf_76 : decode cX4_workOf 76 = .ok (.iload 5, 2) := by decide +kernel
theorem dX4_workOf_78 : decode cX4_workOf 78 = .ok (.iload_n 1, 1) := by decide +kernel
theorem dX4_workOf_79 : decode cX4_workOf 79 = .ok (.if_icmp .ne 6, 3) := by decide +kernel
theorem dX4_workOf_85 : decode cX4_workOf 85 = .ok (.iload 4, 2) := by decide +kernel
theorem dX4_workOf_87 : decode cX4_workOf 87 = .ok (.iload 6, 2) := by decide +kernel
theorem dX4_workOf_89 : decode cX4_workOf 89 = .ok (.iconst (-1), 1) := by decide +kernel
theorem dX4_workOf_104 : decode cX4_workOf 104 = .ok (.iand, 1) := by decide +kernel
theorem dX4_workOf_105 : decode cX4_workOf 105 = .ok (.istore 4, 2) := by decide +kernel
theorem dX4_workOf_90 : decode cX4_workOf 90 = .ok (.if_icmp .ne 8, 3) := by decide +kernel
theorem dX4_workOf_98 : decode cX4_workOf 98 = .ok (.iconst 1, 1) := by decide +kernel
theorem dX4_workOf_99 : decode cX4_workOf 99 = .ok (.iload 6, 2) := by decide +kernel
theorem dX4_workOf_101 : decode cX4_workOf 101 = .ok (.ishl, 1) := by decide +kernel
theorem dX4_workOf_102 : decode cX4_workOf 102 = .ok (.iconst (-1), 1) := by decide +kernel
theorem dX4_workOf_103 : decode cX4_workOf 103 = .ok (.ixor, 1) := by decide +kernel
theorem dX4_workOf_93 : decode cX4_workOf 93 = .ok (.iload 4, 2) := by decide +kernel
theorem dX4_workOf_95 : decode cX4_workOf 95 = .ok (.goto 9, 3) := by decide +kernel
theorem dX4_workOf_82 : decode cX4_workOf 82 = .ok (.iload 6, 2) := by decide +kernel
theorem dX4_workOf_84 : decode cX4_workOf 84 = .ok (.ireturn, 1) := by decide +kernel
theorem dX4_workOf_14 : decode cX4_workOf 14 = .ok (.if_icmp .ne 7, 3) := by decide +kernel
theorem dX4_workOf_21 : decode cX4_workOf 21 = .ok (.aload_n 0, 1) := by decide +kernel
theorem dX4_workOf_22 : decode cX4_workOf 22 = .ok (.iload_n 2, 1) := by decide +kernel
set_option maxRecDepth 20000 in
theorem ggX4_workOf_X4_askable : GoodIn wsX4_workOf wsX4_askable := goodIn_r _ [19, 1, 2, 20, 21, 22, 23, 7, 24, 14, 25, 5, 6, 8, 9, 10, 11, 12, 13, 66, 67, 68, 69, 70, 71, 72, 73, 74, 75, 76, 77, 78, 79] (by rfl) (by decide +kernel)
set_option maxRecDepth 20000 in
theorem gX4_workOf_X4_askable : GoodIn wsX4_workOf (wsV RX4 124 RX4 yX4_askable wsX4_askable) := goodIn_app (goodIn_r _ [15, 16, 17, 18] (by rfl) (by decide +kernel)) ggX4_workOf_X4_askable
theorem dX4_workOf_23 : decode cX4_workOf 23 = .ok (.invokevirtual 124, 3) := by decide +kernel
theorem dX4_workOf_17 : decode cX4_workOf 17 = .ok (.iconst 0, 1) := by decide +kernel
theorem dX4_workOf_18 : decode cX4_workOf 18 = .ok (.goto 8, 3) := by decide +kernel
set_option maxHeartbeats 4000000 in
set_option maxRecDepth 100000 in
theorem a_X4_perform (l : Launch) (G : va_G) (ct : Nat → ClassId) (a0 : Nat) (a1 : Nat) (a8 : Nat) (a13 : Nat) (n0_3 : Int32) (a2 : Nat) (a4 : Nat) (a5 : Nat) (a6 : Nat) (a7 : Nat) (n1_5 : Int32) (n1_6 : Int32) (a3 : Nat) (n2_1 : Int32) (f7 : Nat → Int32) (a9 : Nat) (a11 : Nat) (a12 : Nat) (n8_4 : Int32) (n8_5 : Int32) (n8_6 : Int32) (n8_7 : Int32) (a10 : Nat) (n9_1 : Int32) (f10 : Nat → Int32) (f11 : Nat → Int32) (f12 : Nat → Int32) (p0 : Int32) (hp_n2_1 : rg 0 8 n2_1) (hp_n9_1 : rg 0 8 n9_1) : Met l yX4_perform wsX4_perform ({ frames := 3, cells := 0, slots := 0, locals := 66 }) (va_Pc [.ref a0, .int p0] (wrP G ct [(a0, .inr (4, [.ref a1, .ref a8, .ref a13, .int n0_3])), (a1, .inr (9, [.ref a2, .ref a4, .ref a5, .ref a6, .ref a7, .int n1_5, .int n1_6])), (a2, .inr (0, [.ref a3, .int n2_1])), (a7, .inl (ct 0, 8, .inl f7)), (a8, .inr (2, [.ref a1, .ref a9, .ref a11, .ref a12, .int n8_4, .int n8_5, .int n8_6, .int n8_7])), (a9, .inr (0, [.ref a10, .int n9_1])), (a10, .inl (ct 0, 8, .inl f10)), (a11, .inl (ct 0, 8, .inl f11)), (a12, .inl (ct 0, 8, .inl f12))])) (va_Qv (fun u : SU => True) (fun u t => va_P G vwCl ((fun u : SU => [(a0, .inr (4, [.ref a1, .ref a8, .ref a13, .int n0_3])), (a1, .inr (9, [.ref a2, .ref a4, .ref a5, .ref a6, .ref a7, .int n1_5, .int n1_6])), (a2, .inr (0, [.ref a3, .int n2_1])), (a7, .inl (ct 0, 8, .inl f7)), (a8, .inr (2, [.ref a1, .ref a9, .ref a11, .ref a12, .int (u.1 0), .int (u.1 1), .int (u.1 2), .int (u.1 3)])), (a9, .inr (0, [.ref a10, .int n9_1])), (a10, .inl (ct 0, 8, .inl (u.2.1 0))), (a11, .inl (ct 0, 8, .inl (u.2.1 1))), (a12, .inl (ct 0, 8, .inl (u.2.1 2)))]) u) t.heap) (aset [(a0, .inr (4, [.ref a1, .ref a8, .ref a13, .int n0_3])), (a1, .inr (9, [.ref a2, .ref a4, .ref a5, .ref a6, .ref a7, .int n1_5, .int n1_6])), (a2, .inr (0, [.ref a3, .int n2_1])), (a7, .inl (ct 0, 8, .inl f7)), (a8, .inr (2, [.ref a1, .ref a9, .ref a11, .ref a12, .int n8_4, .int n8_5, .int n8_6, .int n8_7])), (a9, .inr (0, [.ref a10, .int n9_1])), (a10, .inl (ct 0, 8, .inl f10)), (a11, .inl (ct 0, 8, .inl f11)), (a12, .inl (ct 0, 8, .inl f12))])) 0 0 (aset [(a0, .inr (4, [.ref a1, .ref a8, .ref a13, .int n0_3])), (a1, .inr (9, [.ref a2, .ref a4, .ref a5, .ref a6, .ref a7, .int n1_5, .int n1_6])), (a2, .inr (0, [.ref a3, .int n2_1])), (a7, .inl (ct 0, 8, .inl f7)), (a8, .inr (2, [.ref a1, .ref a9, .ref a11, .ref a12, .int n8_4, .int n8_5, .int n8_6, .int n8_7])), (a9, .inr (0, [.ref a10, .int n9_1])), (a10, .inl (ct 0, 8, .inl f10)), (a11, .inl (ct 0, 8, .inl f11)), (a12, .inl (ct 0, 8, .inl f12))]) := by
  refine Met.ofW (cc := cX4_perform) (maxL := 4) (ret := none) (by decide) rfl ?_
  intro p e s m args below meth c s₁ B hml hv
  obtain ⟨rfl, hP, hK, hD0⟩ := hv
  have hx := B.exec
  have hb := B.bytes
  have hr := B.returns
  have hts := atoms_spec (ws := wsX4_perform) B.pre
  have hown : s.vm.findClass RX4 = some m.cls := findClass_of_methodNamed B.named
  have hlocks := B.notSynchronized
  have hD := hD0.aself
  generalize hAe : aset [(a0, .inr (4, [.ref a1, .ref a8, .ref a13, .int n0_3])), (a1, .inr (9, [.ref a2, .ref a4, .ref a5, .ref a6, .ref a7, .int n1_5, .int n1_6])), (a2, .inr (0, [.ref a3, .int n2_1])), (a7, .inl (ct 0, 8, .inl f7)), (a8, .inr (2, [.ref a1, .ref a9, .ref a11, .ref a12, .int n8_4, .int n8_5, .int n8_6, .int n8_7])), (a9, .inr (0, [.ref a10, .int n9_1])), (a10, .inl (ct 0, 8, .inl f10)), (a11, .inl (ct 0, 8, .inl f11)), (a12, .inl (ct 0, 8, .inl f12))] = A at hD ⊢
  have hS : va_S A s.heap s.heap [] := va_S.rf
  have hl := lv_entry ([.ref a0, .int p0]) (n := 4) (Nat.le_of_ble_eq_true rfl)
  rw [lg_entry_eq]
  generalize (lg_sl ([.ref a0, .int p0]) ++ List.replicate (4 - (lg_sl ([.ref a0, .int p0])).length) Slot.unset).toArray = ls at hl ⊢
  have hl : lv_has ls 4 [(0, .ref a0), (1, .int p0)] := hl
  refine lv_iload_n hx hb dX4_perform_0 rfl (lv_at hl 1 rfl) ?_
  refine lv_iconst (v := 3) hx hb dX4_perform_1 (by decide) ?_
  refine lv_ishr hx hb dX4_perform_2 ?_
  refine nm_0 (fun z2 => ?_)
  refine lv_bipush (v := 7) hx hb dX4_perform_3 (by decide) ?_
  refine lv_iand hx hb dX4_perform_5 ?_
  refine nm_andr (rgn 7 (x := 7) (by decide)) (by decide) (fun z5 hz5 => ?_)
  refine lv_istore_n (lv' := [(2, .int z5), (0, .ref a0), (1, .int p0)]) hx hb dX4_perform_6 rfl hl (by decide) rfl (fun ls hl => ?_)
  refine lv_iload_n hx hb dX4_perform_7 rfl (lv_at hl 2 rfl) ?_
  refine lv_bipush (v := 6) hx hb dX4_perform_8 (by decide) ?_
  refine lv_ishr hx hb dX4_perform_10 ?_
  refine nm_0 (fun z10 => ?_)
  refine lv_bipush (v := 7) hx hb dX4_perform_11 (by decide) ?_
  refine lv_iand hx hb dX4_perform_13 ?_
  refine nm_andr (rgn 7 (x := 7) (by decide)) (by decide) (fun z13 hz13 => ?_)
  refine lv_istore_n (lv' := [(3, .int z13), (2, .int z5), (0, .ref a0), (1, .int p0)]) hx hb dX4_perform_14 rfl hl (by decide) rfl (fun ls hl => ?_)
  refine lv_iload_n hx hb dX4_perform_15 rfl (lv_at hl 3 rfl) ?_
  refine lv_bipush (v := 7) hx hb dX4_perform_16 (by decide) ?_
  refine lv_iand hx hb dX4_perform_18 ?_
  refine nm_andr (rgn 7 (x := 7) (by decide)) (by decide) (fun z18 hz18 => ?_)
  by_cases c19 : z18 = 0 ∨ z18 = 1 ∨ z18 = 2 ∨ z18 = 3
  · rcases c19 with c19 | c19 | c19 | c19
    · refine lv_tableIn (tgt := 48) hx hb dX4_perform_19 (by rw [c19]; decide) (by rw [c19]; decide) (by rw [c19]; rfl) (by decide) ?_
      have h_1 : rg 0 0 z18 := r_eq_l_i (e := 0) (f := 0) c19 hz18 (rgn 0 (x := 0) (by decide)) (by decide)
      refine lv_aload_n hx hb dX4_perform_48 rfl (lv_at hl 2 rfl) ?_
      refine va_get (D := G) (ci := 4) (v := .ref a8) (C := RX4) (T := TX4) (N := 4) hx hb hts (by decide +kernel) hown hK.1 hP 0 rfl rfl 1 (by decide) (hts (.fieldLink RX4 23 "CardHolder$Play" "hands" "LCardHolder$Hands;") (by decide +kernel)) (fun _ h9 => h9) rfl dX4_perform_49 ?_
      refine lv_iload_n hx hb dX4_perform_52 rfl (lv_at hl 0 rfl) ?_
      refine wj_callv (wr := [(a0, .inr (4, [.ref a1, .ref a8, .ref a13, .int n0_3])), (a12, .inl (ct 0, 8, .inl f12))]) (w1 := (fun u : SU => [(a1, .inr (9, [.ref a2, .ref a4, .ref a5, .ref a6, .ref a7, .int n1_5, .int n1_6])), (a2, .inr (0, [.ref a3, .int n2_1])), (a7, .inl (ct 0, 8, .inl f7)), (a8, .inr (2, [.ref a1, .ref a9, .ref a11, .ref a12, .int (u.1 0), .int n8_5, .int n8_6, .int n8_7])), (a9, .inr (0, [.ref a10, .int n9_1])), (a10, .inl (ct 0, 8, .inl (u.2.1 0))), (a11, .inl (ct 0, 8, .inl (u.2.1 1)))])) (va_runV (As := [.int z13]) (rest := []) ⟨hx, hb, hml, hown, hts⟩ (a_X2_wearCard l G ct a1 a2 a4 a5 a6 a7 n1_5 n1_6 a3 n2_1 f7 a8 a9 a11 a12 n8_4 n8_5 n8_6 n8_7 a10 n9_1 f10 f11 z13 hp_n2_1 hp_n9_1) (cwV 1 hts gX4_perform_X2_wearCard rfl rfl rfl (by decide +kernel) ⟨Nat.le_of_ble_eq_true rfl, Nat.le_of_ble_eq_true rfl⟩) (wr_preV 2 3 hK (hP.sub [1, 2, 3, 4, 5, 6, 7] rfl) (hD.sub [1, 2, 3, 4, 5, 6, 7] (by decide) rfl) rfl rfl) rfl rfl hl.1 rfl (lv_room (Nat.le_of_ble_eq_true rfl)) dX4_perform_53 ⟨Nat.zero_le _, Nat.zero_le _⟩) hS hP hD [1, 2, 3, 4, 5, 6, 7] [0, 8] rfl rfl (by decide) (fun _ => rfl) (fun ur53 H locs wr53 hP hD hS => ?_)
      have hP : va_P G vwCl [(a0, .inr (4, [.ref a1, .ref a8, .ref a13, .int n0_3])), (a1, .inr (9, [.ref a2, .ref a4, .ref a5, .ref a6, .ref a7, .int n1_5, .int n1_6])), (a2, .inr (0, [.ref a3, .int n2_1])), (a7, .inl (ct 0, 8, .inl f7)), (a8, .inr (2, [.ref a1, .ref a9, .ref a11, .ref a12, .int (ur53.1 0), .int n8_5, .int n8_6, .int n8_7])), (a9, .inr (0, [.ref a10, .int n9_1])), (a10, .inl (ct 0, 8, .inl (ur53.2.1 0))), (a11, .inl (ct 0, 8, .inl (ur53.2.1 1))), (a12, .inl (ct 0, 8, .inl f12))] H := hP.sub [0, 2, 3, 4, 5, 6, 7, 8, 1] rfl
      have hD : va_D A [(a0, .inr (4, [.ref a1, .ref a8, .ref a13, .int n0_3])), (a1, .inr (9, [.ref a2, .ref a4, .ref a5, .ref a6, .ref a7, .int n1_5, .int n1_6])), (a2, .inr (0, [.ref a3, .int n2_1])), (a7, .inl (ct 0, 8, .inl f7)), (a8, .inr (2, [.ref a1, .ref a9, .ref a11, .ref a12, .int (ur53.1 0), .int n8_5, .int n8_6, .int n8_7])), (a9, .inr (0, [.ref a10, .int n9_1])), (a10, .inl (ct 0, 8, .inl (ur53.2.1 0))), (a11, .inl (ct 0, 8, .inl (ur53.2.1 1))), (a12, .inl (ct 0, 8, .inl f12))] := hD.sub [0, 2, 3, 4, 5, 6, 7, 8, 1] (by decide) rfl
      refine lv_aload_n hx hb dX4_perform_56 rfl (lv_at hl 2 rfl) ?_
      refine va_get (D := G) (ci := 4) (v := .ref a8) (C := RX4) (T := TX4) (N := 4) hx hb hts (by decide +kernel) hown hK.1 hP 0 rfl rfl 1 (by decide) (hts (.fieldLink RX4 23 "CardHolder$Play" "hands" "LCardHolder$Hands;") (by decide +kernel)) (fun _ h9 => h9) rfl dX4_perform_57 ?_
      refine lv_dup hx hb dX4_perform_60 rfl ?_
      refine va_get (D := G) (ci := 2) (v := .int n8_7) (C := RX2) (T := TX2) (N := 8) hx hb hts (by decide +kernel) hown hK.1 hP 4 rfl rfl 7 (by decide) (hts (.fieldLink RX4 57 "CardHolder$Hands" "deedsDone" "I") (by decide +kernel)) (fun _ h9 => h9) rfl dX4_perform_61 ?_
      refine lv_iconst (v := 1) hx hb dX4_perform_64 (by decide) ?_
      refine lv_iadd hx hb dX4_perform_65 ?_
      refine nm_0 (fun z65 => ?_)
      refine va_put (D := G) (ci := 2) (v := .int z65) (ty := .int) (C := RX2) (T := TX2) (N := 8) hx hb hts (by decide +kernel) tyX2 tyX2_ok nmX2 hown hK.1 hP hD hS 4 rfl rfl 7 (by decide) (hts (.fieldLink RX4 57 "CardHolder$Hands" "deedsDone" "I") (by decide +kernel)) (fun _ h9 => h9) rfl (by decide +kernel) rfl rfl (Nat.le_of_ble_eq_true rfl) dX4_perform_66 (fun H locs hP hD hS => ?_)
      refine lv_goto (tgt := 138) hx hb dX4_perform_69 (by decide) ?_
      exact W.vret hx hb hr (fun t ht hW => ⟨⟨(fun k => ([ur53.1 0, n8_5, n8_6, z65] : List Int32).getD k 0, fun k => ([ur53.2.1 0, ur53.2.1 1, f12] : List (Nat → Int32)).getD k (fun _ => 0), fun k => ([] : List (Nat → Int64)).getD k (fun _ => 0)), rfl, trivial, hp_at ht hP⟩, hS.F ht⟩) hS.2.2 dX4_perform_138
    · refine lv_tableIn (tgt := 72) hx hb dX4_perform_19 (by rw [c19]; decide) (by rw [c19]; decide) (by rw [c19]; rfl) (by decide) ?_
      have h_2 : rg 1 1 z18 := r_eq_l_i (e := 1) (f := 1) c19 hz18 (rgn 1 (x := 1) (by decide)) (by decide)
      refine lv_aload_n hx hb dX4_perform_72 rfl (lv_at hl 2 rfl) ?_
      refine va_get (D := G) (ci := 4) (v := .ref a8) (C := RX4) (T := TX4) (N := 4) hx hb hts (by decide +kernel) hown hK.1 hP 0 rfl rfl 1 (by decide) (hts (.fieldLink RX4 23 "CardHolder$Play" "hands" "LCardHolder$Hands;") (by decide +kernel)) (fun _ h9 => h9) rfl dX4_perform_73 ?_
      refine va_get (D := G) (ci := 2) (v := .ref a9) (C := RX2) (T := TX2) (N := 8) hx hb hts (by decide +kernel) hown hK.1 hP 4 rfl rfl 1 (by decide) (hts (.fieldLink RX4 60 "CardHolder$Hands" "bonds" "LCardHolder$Bonds;") (by decide +kernel)) (fun _ h9 => h9) rfl dX4_perform_76 ?_
      refine lv_iload_n hx hb dX4_perform_79 rfl (lv_at hl 3 rfl) ?_
      refine lv_bipush (v := 9) hx hb dX4_perform_80 (by decide) ?_
      refine lv_ishr hx hb dX4_perform_82 ?_
      refine nm_0 (fun z82 => ?_)
      refine lv_bipush (v := 7) hx hb dX4_perform_83 (by decide) ?_
      refine lv_iand hx hb dX4_perform_85 ?_
      refine nm_andr (rgn 7 (x := 7) (by decide)) (by decide) (fun z85 hz85 => ?_)
      refine lv_iload_n hx hb dX4_perform_86 rfl (lv_at hl 3 rfl) ?_
      refine lv_bipush (v := 12) hx hb dX4_perform_87 (by decide) ?_
      refine lv_ishr hx hb dX4_perform_89 ?_
      refine nm_0 (fun z89 => ?_)
      refine lv_bipush (v := 7) hx hb dX4_perform_90 (by decide) ?_
      refine lv_iand hx hb dX4_perform_92 ?_
      refine nm_andr (rgn 7 (x := 7) (by decide)) (by decide) (fun z92 hz92 => ?_)
      refine wj_callv (wr := [(a0, .inr (4, [.ref a1, .ref a8, .ref a13, .int n0_3])), (a1, .inr (9, [.ref a2, .ref a4, .ref a5, .ref a6, .ref a7, .int n1_5, .int n1_6])), (a2, .inr (0, [.ref a3, .int n2_1])), (a7, .inl (ct 0, 8, .inl f7)), (a8, .inr (2, [.ref a1, .ref a9, .ref a11, .ref a12, .int n8_4, .int n8_5, .int n8_6, .int n8_7])), (a11, .inl (ct 0, 8, .inl f11)), (a12, .inl (ct 0, 8, .inl f12))]) (w1 := (fun u : SU => [(a9, .inr (0, [.ref a10, .int n9_1])), (a10, .inl (ct 0, 8, .inl (u.2.1 0)))])) (va_runV (As := [.int z85, .int z92]) (rest := []) ⟨hx, hb, hml, hown, hts⟩ (a_X0_put l G ct a9 a10 n9_1 f10 z85 z92 hp_n9_1) (cwV 2 hts gX4_perform_X0_put rfl rfl rfl (by decide +kernel) ⟨Nat.le_of_ble_eq_true rfl, Nat.le_of_ble_eq_true rfl⟩) (wr_preV 0 0 hK (hP.sub [5, 6] rfl) (hD.sub [5, 6] (by decide) rfl) rfl rfl) rfl rfl hl.1 rfl (lv_room (Nat.le_of_ble_eq_true rfl)) dX4_perform_93 ⟨Nat.zero_le _, Nat.zero_le _⟩) hS hP hD [5, 6] [0, 1, 2, 3, 4, 7, 8] rfl rfl (by decide) (fun _ => rfl) (fun ur93 H locs wr93 hP hD hS => ?_)
      have hP : va_P G vwCl [(a0, .inr (4, [.ref a1, .ref a8, .ref a13, .int n0_3])), (a1, .inr (9, [.ref a2, .ref a4, .ref a5, .ref a6, .ref a7, .int n1_5, .int n1_6])), (a2, .inr (0, [.ref a3, .int n2_1])), (a7, .inl (ct 0, 8, .inl f7)), (a8, .inr (2, [.ref a1, .ref a9, .ref a11, .ref a12, .int n8_4, .int n8_5, .int n8_6, .int n8_7])), (a9, .inr (0, [.ref a10, .int n9_1])), (a10, .inl (ct 0, 8, .inl (ur93.2.1 0))), (a11, .inl (ct 0, 8, .inl f11)), (a12, .inl (ct 0, 8, .inl f12))] H := hP.sub [0, 1, 2, 3, 4, 7, 8, 5, 6] rfl
      have hD : va_D A [(a0, .inr (4, [.ref a1, .ref a8, .ref a13, .int n0_3])), (a1, .inr (9, [.ref a2, .ref a4, .ref a5, .ref a6, .ref a7, .int n1_5, .int n1_6])), (a2, .inr (0, [.ref a3, .int n2_1])), (a7, .inl (ct 0, 8, .inl f7)), (a8, .inr (2, [.ref a1, .ref a9, .ref a11, .ref a12, .int n8_4, .int n8_5, .int n8_6, .int n8_7])), (a9, .inr (0, [.ref a10, .int n9_1])), (a10, .inl (ct 0, 8, .inl (ur93.2.1 0))), (a11, .inl (ct 0, 8, .inl f11)), (a12, .inl (ct 0, 8, .inl f12))] := hD.sub [0, 1, 2, 3, 4, 7, 8, 5, 6] (by decide) rfl
      refine lv_aload_n hx hb dX4_perform_96 rfl (lv_at hl 2 rfl) ?_
      refine va_get (D := G) (ci := 4) (v := .ref a8) (C := RX4) (T := TX4) (N := 4) hx hb hts (by decide +kernel) hown hK.1 hP 0 rfl rfl 1 (by decide) (hts (.fieldLink RX4 23 "CardHolder$Play" "hands" "LCardHolder$Hands;") (by decide +kernel)) (fun _ h9 => h9) rfl dX4_perform_97 ?_
      refine lv_iload_n hx hb dX4_perform_100 rfl (lv_at hl 0 rfl) ?_
      refine wj_callv (wr := [(a0, .inr (4, [.ref a1, .ref a8, .ref a13, .int n0_3])), (a12, .inl (ct 0, 8, .inl f12))]) (w1 := (fun u : SU => [(a1, .inr (9, [.ref a2, .ref a4, .ref a5, .ref a6, .ref a7, .int n1_5, .int n1_6])), (a2, .inr (0, [.ref a3, .int n2_1])), (a7, .inl (ct 0, 8, .inl f7)), (a8, .inr (2, [.ref a1, .ref a9, .ref a11, .ref a12, .int (u.1 0), .int n8_5, .int n8_6, .int n8_7])), (a9, .inr (0, [.ref a10, .int n9_1])), (a10, .inl (ct 0, 8, .inl (u.2.1 0))), (a11, .inl (ct 0, 8, .inl (u.2.1 1)))])) (va_runV (As := [.int z13]) (rest := []) ⟨hx, hb, hml, hown, hts⟩ (a_X2_wearCard l G ct a1 a2 a4 a5 a6 a7 n1_5 n1_6 a3 n2_1 f7 a8 a9 a11 a12 n8_4 n8_5 n8_6 n8_7 a10 n9_1 (ur93.2.1 0) f11 z13 hp_n2_1 hp_n9_1) (cwV 1 hts gX4_perform_X2_wearCard rfl rfl rfl (by decide +kernel) ⟨Nat.le_of_ble_eq_true rfl, Nat.le_of_ble_eq_true rfl⟩) (wr_preV 2 3 hK (hP.sub [1, 2, 3, 4, 5, 6, 7] rfl) (hD.sub [1, 2, 3, 4, 5, 6, 7] (by decide) rfl) rfl rfl) rfl rfl hl.1 rfl (lv_room (Nat.le_of_ble_eq_true rfl)) dX4_perform_101 ⟨Nat.zero_le _, Nat.zero_le _⟩) hS hP hD [1, 2, 3, 4, 5, 6, 7] [0, 8] rfl rfl (by decide) (fun _ => rfl) (fun ur101 H locs wr101 hP hD hS => ?_)
      have hP : va_P G vwCl [(a0, .inr (4, [.ref a1, .ref a8, .ref a13, .int n0_3])), (a1, .inr (9, [.ref a2, .ref a4, .ref a5, .ref a6, .ref a7, .int n1_5, .int n1_6])), (a2, .inr (0, [.ref a3, .int n2_1])), (a7, .inl (ct 0, 8, .inl f7)), (a8, .inr (2, [.ref a1, .ref a9, .ref a11, .ref a12, .int (ur101.1 0), .int n8_5, .int n8_6, .int n8_7])), (a9, .inr (0, [.ref a10, .int n9_1])), (a10, .inl (ct 0, 8, .inl (ur101.2.1 0))), (a11, .inl (ct 0, 8, .inl (ur101.2.1 1))), (a12, .inl (ct 0, 8, .inl f12))] H := hP.sub [0, 2, 3, 4, 5, 6, 7, 8, 1] rfl
      have hD : va_D A [(a0, .inr (4, [.ref a1, .ref a8, .ref a13, .int n0_3])), (a1, .inr (9, [.ref a2, .ref a4, .ref a5, .ref a6, .ref a7, .int n1_5, .int n1_6])), (a2, .inr (0, [.ref a3, .int n2_1])), (a7, .inl (ct 0, 8, .inl f7)), (a8, .inr (2, [.ref a1, .ref a9, .ref a11, .ref a12, .int (ur101.1 0), .int n8_5, .int n8_6, .int n8_7])), (a9, .inr (0, [.ref a10, .int n9_1])), (a10, .inl (ct 0, 8, .inl (ur101.2.1 0))), (a11, .inl (ct 0, 8, .inl (ur101.2.1 1))), (a12, .inl (ct 0, 8, .inl f12))] := hD.sub [0, 2, 3, 4, 5, 6, 7, 8, 1] (by decide) rfl
      refine lv_goto (tgt := 138) hx hb dX4_perform_104 (by decide) ?_
      exact W.vret hx hb hr (fun t ht hW => ⟨⟨(fun k => ([ur101.1 0, n8_5, n8_6, n8_7] : List Int32).getD k 0, fun k => ([ur101.2.1 0, ur101.2.1 1, f12] : List (Nat → Int32)).getD k (fun _ => 0), fun k => ([] : List (Nat → Int64)).getD k (fun _ => 0)), rfl, trivial, hp_at ht hP⟩, hS.F ht⟩) hS.2.2 dX4_perform_138
    · refine lv_tableIn (tgt := 107) hx hb dX4_perform_19 (by rw [c19]; decide) (by rw [c19]; decide) (by rw [c19]; rfl) (by decide) ?_
      have h_3 : rg 2 2 z18 := r_eq_l_i (e := 2) (f := 2) c19 hz18 (rgn 2 (x := 2) (by decide)) (by decide)
      refine lv_aload_n hx hb dX4_perform_107 rfl (lv_at hl 2 rfl) ?_
      refine va_get (D := G) (ci := 4) (v := .ref a8) (C := RX4) (T := TX4) (N := 4) hx hb hts (by decide +kernel) hown hK.1 hP 0 rfl rfl 1 (by decide) (hts (.fieldLink RX4 23 "CardHolder$Play" "hands" "LCardHolder$Hands;") (by decide +kernel)) (fun _ h9 => h9) rfl dX4_perform_108 ?_
      refine lv_iload_n hx hb dX4_perform_111 rfl (lv_at hl 1 rfl) ?_
      refine lv_iload_n hx hb dX4_perform_112 rfl (lv_at hl 0 rfl) ?_
      refine wj_callv (wr := [(a0, .inr (4, [.ref a1, .ref a8, .ref a13, .int n0_3])), (a1, .inr (9, [.ref a2, .ref a4, .ref a5, .ref a6, .ref a7, .int n1_5, .int n1_6])), (a2, .inr (0, [.ref a3, .int n2_1])), (a7, .inl (ct 0, 8, .inl f7)), (a11, .inl (ct 0, 8, .inl f11)), (a12, .inl (ct 0, 8, .inl f12))]) (w1 := (fun u : SU => [(a8, .inr (2, [.ref a1, .ref a9, .ref a11, .ref a12, .int n8_4, .int n8_5, .int n8_6, .int n8_7])), (a9, .inr (0, [.ref a10, .int n9_1])), (a10, .inl (ct 0, 8, .inl (u.2.1 0)))])) (va_runV (As := [.int z5, .int z13]) (rest := []) ⟨hx, hb, hml, hown, hts⟩ (a_X2_changeHands l G ct a8 a1 a9 a11 a12 n8_4 n8_5 n8_6 n8_7 a10 n9_1 f10 z5 z13 hp_n9_1) (cwV 2 hts gX4_perform_X2_changeHands rfl rfl rfl (by decide +kernel) ⟨Nat.le_of_ble_eq_true rfl, Nat.le_of_ble_eq_true rfl⟩) (wr_preV 2 0 hK (hP.sub [4, 5, 6] rfl) (hD.sub [4, 5, 6] (by decide) rfl) rfl rfl) rfl rfl hl.1 rfl (lv_room (Nat.le_of_ble_eq_true rfl)) dX4_perform_113 ⟨Nat.zero_le _, Nat.zero_le _⟩) hS hP hD [4, 5, 6] [0, 1, 2, 3, 7, 8] rfl rfl (by decide) (fun _ => rfl) (fun ur113 H locs wr113 hP hD hS => ?_)
      have hP : va_P G vwCl [(a0, .inr (4, [.ref a1, .ref a8, .ref a13, .int n0_3])), (a1, .inr (9, [.ref a2, .ref a4, .ref a5, .ref a6, .ref a7, .int n1_5, .int n1_6])), (a2, .inr (0, [.ref a3, .int n2_1])), (a7, .inl (ct 0, 8, .inl f7)), (a8, .inr (2, [.ref a1, .ref a9, .ref a11, .ref a12, .int n8_4, .int n8_5, .int n8_6, .int n8_7])), (a9, .inr (0, [.ref a10, .int n9_1])), (a10, .inl (ct 0, 8, .inl (ur113.2.1 0))), (a11, .inl (ct 0, 8, .inl f11)), (a12, .inl (ct 0, 8, .inl f12))] H := hP.sub [0, 1, 2, 3, 6, 7, 8, 4, 5] rfl
      have hD : va_D A [(a0, .inr (4, [.ref a1, .ref a8, .ref a13, .int n0_3])), (a1, .inr (9, [.ref a2, .ref a4, .ref a5, .ref a6, .ref a7, .int n1_5, .int n1_6])), (a2, .inr (0, [.ref a3, .int n2_1])), (a7, .inl (ct 0, 8, .inl f7)), (a8, .inr (2, [.ref a1, .ref a9, .ref a11, .ref a12, .int n8_4, .int n8_5, .int n8_6, .int n8_7])), (a9, .inr (0, [.ref a10, .int n9_1])), (a10, .inl (ct 0, 8, .inl (ur113.2.1 0))), (a11, .inl (ct 0, 8, .inl f11)), (a12, .inl (ct 0, 8, .inl f12))] := hD.sub [0, 1, 2, 3, 6, 7, 8, 4, 5] (by decide) rfl
      refine lv_goto (tgt := 138) hx hb dX4_perform_116 (by decide) ?_
      exact W.vret hx hb hr (fun t ht hW => ⟨⟨(fun k => ([n8_4, n8_5, n8_6, n8_7] : List Int32).getD k 0, fun k => ([ur113.2.1 0, f11, f12] : List (Nat → Int32)).getD k (fun _ => 0), fun k => ([] : List (Nat → Int64)).getD k (fun _ => 0)), rfl, trivial, hp_at ht hP⟩, hS.F ht⟩) hS.2.2 dX4_perform_138
    · refine lv_tableIn (tgt := 119) hx hb dX4_perform_19 (by rw [c19]; decide) (by rw [c19]; decide) (by rw [c19]; rfl) (by decide) ?_
      have h_4 : rg 3 3 z18 := r_eq_l_i (e := 3) (f := 3) c19 hz18 (rgn 3 (x := 3) (by decide)) (by decide)
      refine lv_aload_n hx hb dX4_perform_119 rfl (lv_at hl 2 rfl) ?_
      refine va_get (D := G) (ci := 4) (v := .ref a8) (C := RX4) (T := TX4) (N := 4) hx hb hts (by decide +kernel) hown hK.1 hP 0 rfl rfl 1 (by decide) (hts (.fieldLink RX4 23 "CardHolder$Play" "hands" "LCardHolder$Hands;") (by decide +kernel)) (fun _ h9 => h9) rfl dX4_perform_120 ?_
      refine lv_iload_n hx hb dX4_perform_123 rfl (lv_at hl 1 rfl) ?_
      refine lv_iload_n hx hb dX4_perform_124 rfl (lv_at hl 0 rfl) ?_
      refine wj_callv (wr := [(a0, .inr (4, [.ref a1, .ref a8, .ref a13, .int n0_3])), (a1, .inr (9, [.ref a2, .ref a4, .ref a5, .ref a6, .ref a7, .int n1_5, .int n1_6])), (a2, .inr (0, [.ref a3, .int n2_1])), (a7, .inl (ct 0, 8, .inl f7)), (a11, .inl (ct 0, 8, .inl f11))]) (w1 := (fun u : SU => [(a8, .inr (2, [.ref a1, .ref a9, .ref a11, .ref a12, .int n8_4, .int (u.1 0), .int n8_6, .int n8_7])), (a9, .inr (0, [.ref a10, .int n9_1])), (a10, .inl (ct 0, 8, .inl (u.2.1 0))), (a12, .inl (ct 0, 8, .inl (u.2.1 1)))])) (va_runV (As := [.int z5, .int z13]) (rest := []) ⟨hx, hb, hml, hown, hts⟩ (a_X2_rob l G ct a8 a1 a9 a11 a12 n8_4 n8_5 n8_6 n8_7 a10 n9_1 f10 f12 z5 z13 hp_n9_1) (cwV 2 hts gX4_perform_X2_rob rfl rfl rfl (by decide +kernel) ⟨Nat.le_of_ble_eq_true rfl, Nat.le_of_ble_eq_true rfl⟩) (wr_preV 2 0 hK (hP.sub [4, 5, 6, 8] rfl) (hD.sub [4, 5, 6, 8] (by decide) rfl) rfl rfl) rfl rfl hl.1 rfl (lv_room (Nat.le_of_ble_eq_true rfl)) dX4_perform_125 ⟨Nat.zero_le _, Nat.zero_le _⟩) hS hP hD [4, 5, 6, 8] [0, 1, 2, 3, 7] rfl rfl (by decide) (fun _ => rfl) (fun ur125 H locs wr125 hP hD hS => ?_)
      have hP : va_P G vwCl [(a0, .inr (4, [.ref a1, .ref a8, .ref a13, .int n0_3])), (a1, .inr (9, [.ref a2, .ref a4, .ref a5, .ref a6, .ref a7, .int n1_5, .int n1_6])), (a2, .inr (0, [.ref a3, .int n2_1])), (a7, .inl (ct 0, 8, .inl f7)), (a8, .inr (2, [.ref a1, .ref a9, .ref a11, .ref a12, .int n8_4, .int (ur125.1 0), .int n8_6, .int n8_7])), (a9, .inr (0, [.ref a10, .int n9_1])), (a10, .inl (ct 0, 8, .inl (ur125.2.1 0))), (a11, .inl (ct 0, 8, .inl f11)), (a12, .inl (ct 0, 8, .inl (ur125.2.1 1)))] H := hP.sub [0, 1, 2, 3, 5, 6, 7, 4, 8] rfl
      have hD : va_D A [(a0, .inr (4, [.ref a1, .ref a8, .ref a13, .int n0_3])), (a1, .inr (9, [.ref a2, .ref a4, .ref a5, .ref a6, .ref a7, .int n1_5, .int n1_6])), (a2, .inr (0, [.ref a3, .int n2_1])), (a7, .inl (ct 0, 8, .inl f7)), (a8, .inr (2, [.ref a1, .ref a9, .ref a11, .ref a12, .int n8_4, .int (ur125.1 0), .int n8_6, .int n8_7])), (a9, .inr (0, [.ref a10, .int n9_1])), (a10, .inl (ct 0, 8, .inl (ur125.2.1 0))), (a11, .inl (ct 0, 8, .inl f11)), (a12, .inl (ct 0, 8, .inl (ur125.2.1 1)))] := hD.sub [0, 1, 2, 3, 5, 6, 7, 4, 8] (by decide) rfl
      refine lv_goto (tgt := 138) hx hb dX4_perform_128 (by decide) ?_
      exact W.vret hx hb hr (fun t ht hW => ⟨⟨(fun k => ([n8_4, ur125.1 0, n8_6, n8_7] : List Int32).getD k 0, fun k => ([ur125.2.1 0, f11, ur125.2.1 1] : List (Nat → Int32)).getD k (fun _ => 0), fun k => ([] : List (Nat → Int64)).getD k (fun _ => 0)), rfl, trivial, hp_at ht hP⟩, hS.F ht⟩) hS.2.2 dX4_perform_138
  · obtain ⟨d19_0, c19⟩ := not_or.mp c19
    obtain ⟨d19_1, c19⟩ := not_or.mp c19
    obtain ⟨d19_2, c19⟩ := not_or.mp c19
    have d19_3 := c19
    refine lv_tableOut (tgt := 131) hx hb dX4_perform_19 (by have := i_ne d19_0; have := i_ne d19_1; have := i_ne d19_2; have := i_ne d19_3; have : (0 : Int32).toInt = 0 := (by decide); have : (1 : Int32).toInt = 1 := (by decide); have : (2 : Int32).toInt = 2 := (by decide); have : (3 : Int32).toInt = 3 := (by decide); omega) (by decide) ?_
    refine lv_aload_n hx hb dX4_perform_131 rfl (lv_at hl 2 rfl) ?_
    refine va_get (D := G) (ci := 4) (v := .ref a8) (C := RX4) (T := TX4) (N := 4) hx hb hts (by decide +kernel) hown hK.1 hP 0 rfl rfl 1 (by decide) (hts (.fieldLink RX4 23 "CardHolder$Play" "hands" "LCardHolder$Hands;") (by decide +kernel)) (fun _ h9 => h9) rfl dX4_perform_132 ?_
    refine wj_callv (wr := [(a0, .inr (4, [.ref a1, .ref a8, .ref a13, .int n0_3])), (a1, .inr (9, [.ref a2, .ref a4, .ref a5, .ref a6, .ref a7, .int n1_5, .int n1_6])), (a2, .inr (0, [.ref a3, .int n2_1])), (a7, .inl (ct 0, 8, .inl f7)), (a11, .inl (ct 0, 8, .inl f11))]) (w1 := (fun u : SU => [(a8, .inr (2, [.ref a1, .ref a9, .ref a11, .ref a12, .int (u.1 0), .int (u.1 1), .int (u.1 2), .int n8_7])), (a9, .inr (0, [.ref a10, .int n9_1])), (a10, .inl (ct 0, 8, .inl (u.2.1 0))), (a12, .inl (ct 0, 8, .inl f12))])) (va_runV (As := []) (rest := []) ⟨hx, hb, hml, hown, hts⟩ (a_X2_endDay l G ct a8 a1 a9 a11 a12 n8_4 n8_5 n8_6 n8_7 a10 n9_1 f10 f12 hp_n9_1) (cwV 0 hts gX4_perform_X2_endDay rfl rfl rfl (by decide +kernel) ⟨Nat.le_of_ble_eq_true rfl, Nat.le_of_ble_eq_true rfl⟩) (wr_preV 2 0 hK (hP.sub [4, 5, 6, 8] rfl) (hD.sub [4, 5, 6, 8] (by decide) rfl) rfl rfl) rfl rfl hl.1 rfl (lv_room (Nat.le_of_ble_eq_true rfl)) dX4_perform_135 ⟨Nat.zero_le _, Nat.zero_le _⟩) hS hP hD [4, 5, 6, 8] [0, 1, 2, 3, 7] rfl rfl (by decide) (fun _ => rfl) (fun ur135 H locs wr135 hP hD hS => ?_)
    have hP : va_P G vwCl [(a0, .inr (4, [.ref a1, .ref a8, .ref a13, .int n0_3])), (a1, .inr (9, [.ref a2, .ref a4, .ref a5, .ref a6, .ref a7, .int n1_5, .int n1_6])), (a2, .inr (0, [.ref a3, .int n2_1])), (a7, .inl (ct 0, 8, .inl f7)), (a8, .inr (2, [.ref a1, .ref a9, .ref a11, .ref a12, .int (ur135.1 0), .int (ur135.1 1), .int (ur135.1 2), .int n8_7])), (a9, .inr (0, [.ref a10, .int n9_1])), (a10, .inl (ct 0, 8, .inl (ur135.2.1 0))), (a11, .inl (ct 0, 8, .inl f11)), (a12, .inl (ct 0, 8, .inl f12))] H := hP.sub [0, 1, 2, 3, 5, 6, 7, 4, 8] rfl
    have hD : va_D A [(a0, .inr (4, [.ref a1, .ref a8, .ref a13, .int n0_3])), (a1, .inr (9, [.ref a2, .ref a4, .ref a5, .ref a6, .ref a7, .int n1_5, .int n1_6])), (a2, .inr (0, [.ref a3, .int n2_1])), (a7, .inl (ct 0, 8, .inl f7)), (a8, .inr (2, [.ref a1, .ref a9, .ref a11, .ref a12, .int (ur135.1 0), .int (ur135.1 1), .int (ur135.1 2), .int n8_7])), (a9, .inr (0, [.ref a10, .int n9_1])), (a10, .inl (ct 0, 8, .inl (ur135.2.1 0))), (a11, .inl (ct 0, 8, .inl f11)), (a12, .inl (ct 0, 8, .inl f12))] := hD.sub [0, 1, 2, 3, 5, 6, 7, 4, 8] (by decide) rfl
    obtain ⟨p_5, p_6, -⟩ := wr135
    exact W.vret hx hb hr (fun t ht hW => ⟨⟨(fun k => ([ur135.1 0, ur135.1 1, ur135.1 2, n8_7] : List Int32).getD k 0, fun k => ([ur135.2.1 0, f11, f12] : List (Nat → Int32)).getD k (fun _ => 0), fun k => ([] : List (Nat → Int64)).getD k (fun _ => 0)), rfl, trivial, hp_at ht hP⟩, hS.F ht⟩) hS.2.2 dX4_perform_138

set_option maxHeartbeats 4000000 in
set_option maxRecDepth 100000 in
theorem a_X4_replay (l : Launch) (G : va_G) (ct : Nat → ClassId) (a0 : Nat) (a1 : Nat) (a8 : Nat) (a13 : Nat) (n0_3 : Int32) (a2 : Nat) (a4 : Nat) (a5 : Nat) (a6 : Nat) (a7 : Nat) (n1_5 : Int32) (n1_6 : Int32) (a3 : Nat) (n2_1 : Int32) (f3 : Nat → Int32) (f7 : Nat → Int32) (a9 : Nat) (a11 : Nat) (a12 : Nat) (n8_4 : Int32) (n8_5 : Int32) (n8_6 : Int32) (n8_7 : Int32) (a10 : Nat) (n9_1 : Int32) (f10 : Nat → Int32) (f11 : Nat → Int32) (f12 : Nat → Int32) (f13 : Nat → Int32) (p0 : Int32) (hp_n2_1 : rg 0 8 n2_1) (hp_n9_1 : rg 0 8 n9_1) : Met l yX4_replay wsX4_replay ({ frames := 4, cells := 0, slots := 0, locals := 102 }) (va_Pc [.ref a0, .int p0] (wrP G ct [(a0, .inr (4, [.ref a1, .ref a8, .ref a13, .int n0_3])), (a1, .inr (9, [.ref a2, .ref a4, .ref a5, .ref a6, .ref a7, .int n1_5, .int n1_6])), (a2, .inr (0, [.ref a3, .int n2_1])), (a3, .inl (ct 0, 8, .inl f3)), (a7, .inl (ct 0, 8, .inl f7)), (a8, .inr (2, [.ref a1, .ref a9, .ref a11, .ref a12, .int n8_4, .int n8_5, .int n8_6, .int n8_7])), (a9, .inr (0, [.ref a10, .int n9_1])), (a10, .inl (ct 0, 8, .inl f10)), (a11, .inl (ct 0, 8, .inl f11)), (a12, .inl (ct 0, 8, .inl f12)), (a13, .inl (ct 0, 40, .inl f13))])) (va_Qv (fun u : SU => rg 0 8 (u.1 5) ∧ True) (fun u t => va_P G vwCl ((fun u : SU => [(a0, .inr (4, [.ref a1, .ref a8, .ref a13, .int (u.1 0)])), (a1, .inr (9, [.ref a2, .ref a4, .ref a5, .ref a6, .ref a7, .int n1_5, .int n1_6])), (a2, .inr (0, [.ref a3, .int n2_1])), (a3, .inl (ct 0, 8, .inl f3)), (a7, .inl (ct 0, 8, .inl f7)), (a8, .inr (2, [.ref a1, .ref a9, .ref a11, .ref a12, .int (u.1 1), .int (u.1 2), .int (u.1 3), .int (u.1 4)])), (a9, .inr (0, [.ref a10, .int (u.1 5)])), (a10, .inl (ct 0, 8, .inl (u.2.1 0))), (a11, .inl (ct 0, 8, .inl (u.2.1 1))), (a12, .inl (ct 0, 8, .inl (u.2.1 2))), (a13, .inl (ct 0, 40, .inl f13))]) u) t.heap) (aset [(a0, .inr (4, [.ref a1, .ref a8, .ref a13, .int n0_3])), (a1, .inr (9, [.ref a2, .ref a4, .ref a5, .ref a6, .ref a7, .int n1_5, .int n1_6])), (a2, .inr (0, [.ref a3, .int n2_1])), (a3, .inl (ct 0, 8, .inl f3)), (a7, .inl (ct 0, 8, .inl f7)), (a8, .inr (2, [.ref a1, .ref a9, .ref a11, .ref a12, .int n8_4, .int n8_5, .int n8_6, .int n8_7])), (a9, .inr (0, [.ref a10, .int n9_1])), (a10, .inl (ct 0, 8, .inl f10)), (a11, .inl (ct 0, 8, .inl f11)), (a12, .inl (ct 0, 8, .inl f12)), (a13, .inl (ct 0, 40, .inl f13))])) 0 0 (aset [(a0, .inr (4, [.ref a1, .ref a8, .ref a13, .int n0_3])), (a1, .inr (9, [.ref a2, .ref a4, .ref a5, .ref a6, .ref a7, .int n1_5, .int n1_6])), (a2, .inr (0, [.ref a3, .int n2_1])), (a3, .inl (ct 0, 8, .inl f3)), (a7, .inl (ct 0, 8, .inl f7)), (a8, .inr (2, [.ref a1, .ref a9, .ref a11, .ref a12, .int n8_4, .int n8_5, .int n8_6, .int n8_7])), (a9, .inr (0, [.ref a10, .int n9_1])), (a10, .inl (ct 0, 8, .inl f10)), (a11, .inl (ct 0, 8, .inl f11)), (a12, .inl (ct 0, 8, .inl f12)), (a13, .inl (ct 0, 40, .inl f13))]) := by
  refine Met.ofW (cc := cX4_replay) (maxL := 3) (ret := none) (by decide) rfl ?_
  intro p e s m args below meth c s₁ B hml hv
  obtain ⟨rfl, hP, hK, hD0⟩ := hv
  have hx := B.exec
  have hb := B.bytes
  have hr := B.returns
  have hts := atoms_spec (ws := wsX4_replay) B.pre
  have hown : s.vm.findClass RX4 = some m.cls := findClass_of_methodNamed B.named
  have hlocks := B.notSynchronized
  have hD := hD0.aself
  generalize hAe : aset [(a0, .inr (4, [.ref a1, .ref a8, .ref a13, .int n0_3])), (a1, .inr (9, [.ref a2, .ref a4, .ref a5, .ref a6, .ref a7, .int n1_5, .int n1_6])), (a2, .inr (0, [.ref a3, .int n2_1])), (a3, .inl (ct 0, 8, .inl f3)), (a7, .inl (ct 0, 8, .inl f7)), (a8, .inr (2, [.ref a1, .ref a9, .ref a11, .ref a12, .int n8_4, .int n8_5, .int n8_6, .int n8_7])), (a9, .inr (0, [.ref a10, .int n9_1])), (a10, .inl (ct 0, 8, .inl f10)), (a11, .inl (ct 0, 8, .inl f11)), (a12, .inl (ct 0, 8, .inl f12)), (a13, .inl (ct 0, 40, .inl f13))] = A at hD ⊢
  have hS : va_S A s.heap s.heap [] := va_S.rf
  have hl := lv_entry ([.ref a0, .int p0]) (n := 3) (Nat.le_of_ble_eq_true rfl)
  rw [lg_entry_eq]
  generalize (lg_sl ([.ref a0, .int p0]) ++ List.replicate (3 - (lg_sl ([.ref a0, .int p0])).length) Slot.unset).toArray = ls at hl ⊢
  have hl : lv_has ls 3 [(0, .ref a0), (1, .int p0)] := hl
  refine lv_aload_n hx hb dX4_replay_0 rfl (lv_at hl 0 rfl) ?_
  refine va_get (D := G) (ci := 4) (v := .ref a8) (C := RX4) (T := TX4) (N := 4) hx hb hts (by decide +kernel) hown hK.1 hP 0 rfl rfl 1 (by decide) (hts (.fieldLink RX4 23 "CardHolder$Play" "hands" "LCardHolder$Hands;") (by decide +kernel)) (fun _ h9 => h9) rfl dX4_replay_1 ?_
  refine wj_callv (wr := [(a0, .inr (4, [.ref a1, .ref a8, .ref a13, .int n0_3])), (a7, .inl (ct 0, 8, .inl f7)), (a12, .inl (ct 0, 8, .inl f12)), (a13, .inl (ct 0, 40, .inl f13))]) (w1 := (fun u : SU => [(a1, .inr (9, [.ref a2, .ref a4, .ref a5, .ref a6, .ref a7, .int n1_5, .int n1_6])), (a2, .inr (0, [.ref a3, .int n2_1])), (a3, .inl (ct 0, 8, .inl f3)), (a8, .inr (2, [.ref a1, .ref a9, .ref a11, .ref a12, .int (u.1 0), .int (u.1 1), .int (u.1 2), .int (u.1 3)])), (a9, .inr (0, [.ref a10, .int (u.1 4)])), (a10, .inl (ct 0, 8, .inl (u.2.1 0))), (a11, .inl (ct 0, 8, .inl (u.2.1 1)))])) (va_runV (As := []) (rest := []) ⟨hx, hb, hml, hown, hts⟩ (a_X2_begin l G ct a1 a2 a4 a5 a6 a7 n1_5 n1_6 a3 n2_1 f3 a8 a9 a11 a12 n8_4 n8_5 n8_6 n8_7 a10 n9_1 f10 f11 hp_n2_1 hp_n9_1) (cwV 0 hts gX4_replay_X2_begin rfl rfl rfl (by decide +kernel) ⟨Nat.le_of_ble_eq_true rfl, Nat.le_of_ble_eq_true rfl⟩) (wr_preV 2 3 hK (hP.sub [1, 2, 3, 5, 6, 7, 8] rfl) (hD.sub [1, 2, 3, 5, 6, 7, 8] (by decide) rfl) rfl rfl) rfl rfl hl.1 rfl (lv_room (Nat.le_of_ble_eq_true rfl)) dX4_replay_4 ⟨Nat.zero_le _, Nat.zero_le _⟩) hS hP hD [1, 2, 3, 5, 6, 7, 8] [0, 4, 9, 10] rfl rfl (by decide) (fun _ => rfl) (fun ur4 H locs wr4 hP hD hS => ?_)
  have hP : va_P G vwCl [(a0, .inr (4, [.ref a1, .ref a8, .ref a13, .int n0_3])), (a1, .inr (9, [.ref a2, .ref a4, .ref a5, .ref a6, .ref a7, .int n1_5, .int n1_6])), (a2, .inr (0, [.ref a3, .int n2_1])), (a3, .inl (ct 0, 8, .inl f3)), (a7, .inl (ct 0, 8, .inl f7)), (a8, .inr (2, [.ref a1, .ref a9, .ref a11, .ref a12, .int (ur4.1 0), .int (ur4.1 1), .int (ur4.1 2), .int (ur4.1 3)])), (a9, .inr (0, [.ref a10, .int (ur4.1 4)])), (a10, .inl (ct 0, 8, .inl (ur4.2.1 0))), (a11, .inl (ct 0, 8, .inl (ur4.2.1 1))), (a12, .inl (ct 0, 8, .inl f12)), (a13, .inl (ct 0, 40, .inl f13))] H := hP.sub [0, 4, 5, 6, 1, 7, 8, 9, 10, 2, 3] rfl
  have hD : va_D A [(a0, .inr (4, [.ref a1, .ref a8, .ref a13, .int n0_3])), (a1, .inr (9, [.ref a2, .ref a4, .ref a5, .ref a6, .ref a7, .int n1_5, .int n1_6])), (a2, .inr (0, [.ref a3, .int n2_1])), (a3, .inl (ct 0, 8, .inl f3)), (a7, .inl (ct 0, 8, .inl f7)), (a8, .inr (2, [.ref a1, .ref a9, .ref a11, .ref a12, .int (ur4.1 0), .int (ur4.1 1), .int (ur4.1 2), .int (ur4.1 3)])), (a9, .inr (0, [.ref a10, .int (ur4.1 4)])), (a10, .inl (ct 0, 8, .inl (ur4.2.1 0))), (a11, .inl (ct 0, 8, .inl (ur4.2.1 1))), (a12, .inl (ct 0, 8, .inl f12)), (a13, .inl (ct 0, 40, .inl f13))] := hD.sub [0, 4, 5, 6, 1, 7, 8, 9, 10, 2, 3] (by decide) rfl
  obtain ⟨p_1, p_2, p_3, p_4, p_5, -⟩ := wr4
  refine lv_iconst (v := 0) hx hb dX4_replay_7 (by decide) ?_
  refine lv_istore_n (lv' := [(2, .int 0), (0, .ref a0), (1, .int p0)]) hx hb dX4_replay_8 rfl hl (by decide) rfl (fun ls hl => ?_)
  have j9 : ∀ (n : Nat) (x9_2 : Int32) (v9_5_4 : Int32) (v9_5_5 : Int32) (v9_5_6 : Int32) (v9_5_7 : Int32) (f9_7 : Nat → Int32) (f9_8 : Nat → Int32) (f9_9 : Nat → Int32) (H : Heap) (locs : List Loc) (ls : Array Slot), 2147483648 ≤ x9_2.toInt + (n : Int) → rg 0 40 x9_2 → va_P G vwCl [(a0, .inr (4, [.ref a1, .ref a8, .ref a13, .int n0_3])), (a1, .inr (9, [.ref a2, .ref a4, .ref a5, .ref a6, .ref a7, .int n1_5, .int n1_6])), (a2, .inr (0, [.ref a3, .int n2_1])), (a3, .inl (ct 0, 8, .inl f3)), (a7, .inl (ct 0, 8, .inl f7)), (a8, .inr (2, [.ref a1, .ref a9, .ref a11, .ref a12, .int v9_5_4, .int v9_5_5, .int v9_5_6, .int v9_5_7])), (a9, .inr (0, [.ref a10, .int (ur4.1 4)])), (a10, .inl (ct 0, 8, .inl f9_7)), (a11, .inl (ct 0, 8, .inl f9_8)), (a12, .inl (ct 0, 8, .inl f9_9)), (a13, .inl (ct 0, 40, .inl f13))] H → va_D A [(a0, .inr (4, [.ref a1, .ref a8, .ref a13, .int n0_3])), (a1, .inr (9, [.ref a2, .ref a4, .ref a5, .ref a6, .ref a7, .int n1_5, .int n1_6])), (a2, .inr (0, [.ref a3, .int n2_1])), (a3, .inl (ct 0, 8, .inl f3)), (a7, .inl (ct 0, 8, .inl f7)), (a8, .inr (2, [.ref a1, .ref a9, .ref a11, .ref a12, .int v9_5_4, .int v9_5_5, .int v9_5_6, .int v9_5_7])), (a9, .inr (0, [.ref a10, .int (ur4.1 4)])), (a10, .inl (ct 0, 8, .inl f9_7)), (a11, .inl (ct 0, 8, .inl f9_8)), (a12, .inl (ct 0, 8, .inl f9_9)), (a13, .inl (ct 0, 40, .inl f13))] → va_S A s.heap H locs → lv_has ls 3 [(0, .ref a0), (1, .int p0), (2, .int x9_2)] → W p l e (headSpec wsX4_replay ({ frames := 4, cells := 0, slots := 0, locals := 102 })).room s m ([.ref a0, .int p0] : List Value).toArray below meth c H locs 0 0 (MQ below (va_Qv (fun u : SU => rg 0 8 (u.1 5) ∧ True) (fun u t => va_P G vwCl ((fun u : SU => [(a0, .inr (4, [.ref a1, .ref a8, .ref a13, .int (u.1 0)])), (a1, .inr (9, [.ref a2, .ref a4, .ref a5, .ref a6, .ref a7, .int n1_5, .int n1_6])), (a2, .inr (0, [.ref a3, .int n2_1])), (a3, .inl (ct 0, 8, .inl f3)), (a7, .inl (ct 0, 8, .inl f7)), (a8, .inr (2, [.ref a1, .ref a9, .ref a11, .ref a12, .int (u.1 1), .int (u.1 2), .int (u.1 3), .int (u.1 4)])), (a9, .inr (0, [.ref a10, .int (u.1 5)])), (a10, .inl (ct 0, 8, .inl (u.2.1 0))), (a11, .inl (ct 0, 8, .inl (u.2.1 1))), (a12, .inl (ct 0, 8, .inl (u.2.1 2))), (a13, .inl (ct 0, 40, .inl f13))]) u) t.heap) A) ([.ref a0, .int p0] : List Value).toArray s 0 0 A) (F0 m 9 ls []) := by
    intro n
    induction n with
    | zero => intro x9_2 v9_5_4 v9_5_5 v9_5_6 v9_5_7 f9_7 f9_8 f9_9 H locs ls hn9 hx9_2 hP hD hS hl; exact absurd hn9 (by have := Int32.toInt_lt x9_2; have := Int32.le_toInt x9_2; omega)
    | succ n ih9 =>
      intro x9_2 v9_5_4 v9_5_5 v9_5_6 v9_5_7 f9_7 f9_8 f9_9 H locs ls hn9 hx9_2 hP hD hS hl
      refine lv_iload_n hx hb dX4_replay_9 rfl (lv_at hl 2 rfl) ?_
      refine lv_iload_n hx hb dX4_replay_10 rfl (lv_at hl 1 rfl) ?_
      refine lv_icmp_ge (tgt := 36) hx hb dX4_replay_11 (by decide) (fun c11 => ?_) (fun c11 => ?_)
      · have h_6 : rg (-2147483648) 40 p0 := r_le_l_i c11 (rg_t p0) hx9_2
        refine lv_aload_n hx hb dX4_replay_36 rfl (lv_at hl 0 rfl) ?_
        refine lv_iload_n hx hb dX4_replay_37 rfl (lv_at hl 1 rfl) ?_
        refine va_put (D := G) (ci := 4) (v := .int p0) (ty := .int) (C := RX4) (T := TX4) (N := 4) hx hb hts (by decide +kernel) tyX4 tyX4_ok nmX4 hown hK.1 hP hD hS 0 rfl rfl 3 (by decide) (hts (.fieldLink RX4 44 "CardHolder$Play" "acts" "I") (by decide +kernel)) (fun _ h9 => h9) rfl (by decide +kernel) rfl rfl (Nat.le_of_ble_eq_true rfl) dX4_replay_38 (fun H locs hP hD hS => ?_)
        exact W.vret hx hb hr (fun t ht hW => ⟨⟨(fun k => ([p0, v9_5_4, v9_5_5, v9_5_6, v9_5_7, ur4.1 4] : List Int32).getD k 0, fun k => ([f9_7, f9_8, f9_9] : List (Nat → Int32)).getD k (fun _ => 0), fun k => ([] : List (Nat → Int64)).getD k (fun _ => 0)), rfl, ⟨p_5, trivial⟩, hp_at ht hP⟩, hS.F ht⟩) hS.2.2 dX4_replay_41
      · have h_7 : rg 1 2147483647 p0 := r_lt_r_i (nle_i c11) hx9_2 (rg_t p0) (by decide)
        refine lv_iload_n hx hb dX4_replay_14 rfl (lv_at hl 2 rfl) ?_
        refine lv_bipush (v := 40) hx hb dX4_replay_15 (by decide) ?_
        refine lv_icmp_ge (tgt := 36) hx hb dX4_replay_17 (by decide) (fun c17 => ?_) (fun c17 => ?_)
        · have h_8 : rg 40 40 x9_2 := r_le_r_i c17 (rgn 40 (x := 40) (by decide)) hx9_2
          refine lv_aload_n hx hb dX4_replay_36 rfl (lv_at hl 0 rfl) ?_
          refine lv_iload_n hx hb dX4_replay_37 rfl (lv_at hl 1 rfl) ?_
          refine va_put (D := G) (ci := 4) (v := .int p0) (ty := .int) (C := RX4) (T := TX4) (N := 4) hx hb hts (by decide +kernel) tyX4 tyX4_ok nmX4 hown hK.1 hP hD hS 0 rfl rfl 3 (by decide) (hts (.fieldLink RX4 44 "CardHolder$Play" "acts" "I") (by decide +kernel)) (fun _ h9 => h9) rfl (by decide +kernel) rfl rfl (Nat.le_of_ble_eq_true rfl) dX4_replay_38 (fun H locs hP hD hS => ?_)
          exact W.vret hx hb hr (fun t ht hW => ⟨⟨(fun k => ([p0, v9_5_4, v9_5_5, v9_5_6, v9_5_7, ur4.1 4] : List Int32).getD k 0, fun k => ([f9_7, f9_8, f9_9] : List (Nat → Int32)).getD k (fun _ => 0), fun k => ([] : List (Nat → Int64)).getD k (fun _ => 0)), rfl, ⟨p_5, trivial⟩, hp_at ht hP⟩, hS.F ht⟩) hS.2.2 dX4_replay_41
        · have h_9 : rg 0 39 x9_2 := r_lt_l_i (nle_i c17) hx9_2 (rgn 40 (x := 40) (by decide)) (by decide)
          refine lv_aload_n hx hb dX4_replay_20 rfl (lv_at hl 0 rfl) ?_
          refine lv_aload_n hx hb dX4_replay_21 rfl (lv_at hl 0 rfl) ?_
          refine va_get (D := G) (ci := 4) (v := .ref a13) (C := RX4) (T := TX4) (N := 4) hx hb hts (by decide +kernel) hown hK.1 hP 0 rfl rfl 2 (by decide) (hts (.fieldLink RX4 27 "CardHolder$Play" "log" "[I") (by decide +kernel)) (fun _ h9 => h9) rfl dX4_replay_22 ?_
          refine lv_iload_n hx hb dX4_replay_25 rfl (lv_at hl 2 rfl) ?_
          refine va_iald hx hb hK.1 hP 10 0 rfl rfl (in_rg h_9 (by decide)) dX4_replay_26 ?_
          refine lv_topi (fun z26 gz26 => ?_)
          refine wj_callv (wr := [(a3, .inl (ct 0, 8, .inl f3)), (a13, .inl (ct 0, 40, .inl f13))]) (w1 := (fun u : SU => [(a0, .inr (4, [.ref a1, .ref a8, .ref a13, .int n0_3])), (a1, .inr (9, [.ref a2, .ref a4, .ref a5, .ref a6, .ref a7, .int n1_5, .int n1_6])), (a2, .inr (0, [.ref a3, .int n2_1])), (a7, .inl (ct 0, 8, .inl f7)), (a8, .inr (2, [.ref a1, .ref a9, .ref a11, .ref a12, .int (u.1 0), .int (u.1 1), .int (u.1 2), .int (u.1 3)])), (a9, .inr (0, [.ref a10, .int (ur4.1 4)])), (a10, .inl (ct 0, 8, .inl (u.2.1 0))), (a11, .inl (ct 0, 8, .inl (u.2.1 1))), (a12, .inl (ct 0, 8, .inl (u.2.1 2)))])) (va_runV (As := [.int z26]) (rest := []) ⟨hx, hb, hml, hown, hts⟩ (a_X4_perform l G ct a0 a1 a8 a13 n0_3 a2 a4 a5 a6 a7 n1_5 n1_6 a3 n2_1 f7 a9 a11 a12 v9_5_4 v9_5_5 v9_5_6 v9_5_7 a10 (ur4.1 4) f9_7 f9_8 f9_9 z26 hp_n2_1 p_5) (cwV 1 hts gX4_replay_X4_perform rfl rfl rfl (by decide +kernel) ⟨Nat.le_of_ble_eq_true rfl, Nat.le_of_ble_eq_true rfl⟩) (wr_preV 4 0 hK (hP.sub [0, 1, 2, 4, 5, 6, 7, 8, 9] rfl) (hD.sub [0, 1, 2, 4, 5, 6, 7, 8, 9] (by decide) rfl) rfl rfl) rfl rfl hl.1 rfl (lv_room (Nat.le_of_ble_eq_true rfl)) dX4_replay_27 ⟨Nat.zero_le _, Nat.zero_le _⟩) hS hP hD [0, 1, 2, 4, 5, 6, 7, 8, 9] [3, 10] rfl rfl (by decide) (fun _ => rfl) (fun ur27 H locs wr27 hP hD hS => ?_)
          have hP : va_P G vwCl [(a0, .inr (4, [.ref a1, .ref a8, .ref a13, .int n0_3])), (a1, .inr (9, [.ref a2, .ref a4, .ref a5, .ref a6, .ref a7, .int n1_5, .int n1_6])), (a2, .inr (0, [.ref a3, .int n2_1])), (a3, .inl (ct 0, 8, .inl f3)), (a7, .inl (ct 0, 8, .inl f7)), (a8, .inr (2, [.ref a1, .ref a9, .ref a11, .ref a12, .int (ur27.1 0), .int (ur27.1 1), .int (ur27.1 2), .int (ur27.1 3)])), (a9, .inr (0, [.ref a10, .int (ur4.1 4)])), (a10, .inl (ct 0, 8, .inl (ur27.2.1 0))), (a11, .inl (ct 0, 8, .inl (ur27.2.1 1))), (a12, .inl (ct 0, 8, .inl (ur27.2.1 2))), (a13, .inl (ct 0, 40, .inl f13))] H := hP.sub [2, 3, 4, 0, 5, 6, 7, 8, 9, 10, 1] rfl
          have hD : va_D A [(a0, .inr (4, [.ref a1, .ref a8, .ref a13, .int n0_3])), (a1, .inr (9, [.ref a2, .ref a4, .ref a5, .ref a6, .ref a7, .int n1_5, .int n1_6])), (a2, .inr (0, [.ref a3, .int n2_1])), (a3, .inl (ct 0, 8, .inl f3)), (a7, .inl (ct 0, 8, .inl f7)), (a8, .inr (2, [.ref a1, .ref a9, .ref a11, .ref a12, .int (ur27.1 0), .int (ur27.1 1), .int (ur27.1 2), .int (ur27.1 3)])), (a9, .inr (0, [.ref a10, .int (ur4.1 4)])), (a10, .inl (ct 0, 8, .inl (ur27.2.1 0))), (a11, .inl (ct 0, 8, .inl (ur27.2.1 1))), (a12, .inl (ct 0, 8, .inl (ur27.2.1 2))), (a13, .inl (ct 0, 40, .inl f13))] := hD.sub [2, 3, 4, 0, 5, 6, 7, 8, 9, 10, 1] (by decide) rfl
          obtain ⟨z30, qz30⟩ : ∃ y : Int32, y = x9_2 + Int32.ofInt 1 := ⟨_, rfl⟩
          obtain ⟨hz30, ez30⟩ := inc_z (e := 1) (f := 40) h_9 qz30 (by decide)
          refine lv_iinc (v := z30) (lv' := [(2, .int z30), (0, .ref a0), (1, .int p0)]) hx hb dX4_replay_30 hl (k := 2) rfl (qz30.symm) (by decide) rfl (fun ls hl => ?_)
          refine lv_goto (tgt := 9) hx hb dX4_replay_33 (by decide) ?_
          exact ih9 z30 (ur27.1 0) (ur27.1 1) (ur27.1 2) (ur27.1 3) (ur27.2.1 0) (ur27.2.1 1) (ur27.2.1 2) _ _ ls (by have q := hn9; have := ez30; omega) (rg_w (c := 0) (d := 40) hz30 (by decide)) hP hD hS (lv_sub hl [1, 2, 0] rfl)
  exact j9 4294967296 (0 : Int32) (ur4.1 0) (ur4.1 1) (ur4.1 2) (ur4.1 3) (ur4.2.1 0) (ur4.2.1 1) f12 _ _ ls (ms_e (0 : Int32)) (rg_w (c := 0) (d := 40) (rgn 0 (x := 0) (by decide)) (by decide)) hP hD hS (lv_sub hl [1, 2, 0] rfl)

set_option maxHeartbeats 4000000 in
set_option maxRecDepth 100000 in
theorem a_X4_begin (l : Launch) (G : va_G) (ct : Nat → ClassId) (a0 : Nat) (a1 : Nat) (a8 : Nat) (a13 : Nat) (n0_3 : Int32) (a2 : Nat) (a4 : Nat) (a5 : Nat) (a6 : Nat) (a7 : Nat) (n1_5 : Int32) (n1_6 : Int32) (a3 : Nat) (n2_1 : Int32) (f3 : Nat → Int32) (f4 : Nat → Int32) (f5 : Nat → Int32) (f6 : Nat → Int32) (f7 : Nat → Int32) (a9 : Nat) (a11 : Nat) (a12 : Nat) (n8_4 : Int32) (n8_5 : Int32) (n8_6 : Int32) (n8_7 : Int32) (a10 : Nat) (n9_1 : Int32) (f10 : Nat → Int32) (f11 : Nat → Int32) (f12 : Nat → Int32) (f13 : Nat → Int32) (a14 : Nat) (a15 : Nat) (a17 : Nat) (a18 : Nat) (a19 : Nat) (a20 : Nat) (n14_5 : Int32) (n14_6 : Int32) (a16 : Nat) (n15_1 : Int32) (f16 : Nat → Int32) (f17 : Nat → Int32) (f18 : Nat → Int32) (f19 : Nat → Int32) (f20 : Nat → Int32) (hp_n2_1 : rg 0 8 n2_1) (hp_n9_1 : rg 0 8 n9_1) (hp_n15_1 : rg 0 8 n15_1) : Met l yX4_begin wsX4_begin ({ frames := 5, cells := 0, slots := 0, locals := 124 }) (va_Pc [.ref a0, .ref a14] (wrP G ct [(a0, .inr (4, [.ref a1, .ref a8, .ref a13, .int n0_3])), (a1, .inr (9, [.ref a2, .ref a4, .ref a5, .ref a6, .ref a7, .int n1_5, .int n1_6])), (a2, .inr (0, [.ref a3, .int n2_1])), (a3, .inl (ct 0, 8, .inl f3)), (a4, .inl (ct 0, 8, .inl f4)), (a5, .inl (ct 0, 8, .inl f5)), (a6, .inl (ct 0, 8, .inl f6)), (a7, .inl (ct 0, 8, .inl f7)), (a8, .inr (2, [.ref a1, .ref a9, .ref a11, .ref a12, .int n8_4, .int n8_5, .int n8_6, .int n8_7])), (a9, .inr (0, [.ref a10, .int n9_1])), (a10, .inl (ct 0, 8, .inl f10)), (a11, .inl (ct 0, 8, .inl f11)), (a12, .inl (ct 0, 8, .inl f12)), (a13, .inl (ct 0, 40, .inl f13)), (a14, .inr (9, [.ref a15, .ref a17, .ref a18, .ref a19, .ref a20, .int n14_5, .int n14_6])), (a15, .inr (0, [.ref a16, .int n15_1])), (a16, .inl (ct 0, 8, .inl f16)), (a17, .inl (ct 0, 8, .inl f17)), (a18, .inl (ct 0, 8, .inl f18)), (a19, .inl (ct 0, 8, .inl f19)), (a20, .inl (ct 0, 8, .inl f20))])) (va_Qv (fun u : SU => rg 0 8 (u.1 3) ∧ rg 0 8 (u.1 8) ∧ True) (fun u t => va_P G vwCl ((fun u : SU => [(a0, .inr (4, [.ref a1, .ref a8, .ref a13, .int (u.1 0)])), (a1, .inr (9, [.ref a2, .ref a4, .ref a5, .ref a6, .ref a7, .int (u.1 1), .int (u.1 2)])), (a2, .inr (0, [.ref a3, .int (u.1 3)])), (a3, .inl (ct 0, 8, .inl (u.2.1 0))), (a4, .inl (ct 0, 8, .inl (u.2.1 1))), (a5, .inl (ct 0, 8, .inl (u.2.1 2))), (a6, .inl (ct 0, 8, .inl (u.2.1 3))), (a7, .inl (ct 0, 8, .inl (u.2.1 4))), (a8, .inr (2, [.ref a1, .ref a9, .ref a11, .ref a12, .int (u.1 4), .int (u.1 5), .int (u.1 6), .int (u.1 7)])), (a9, .inr (0, [.ref a10, .int (u.1 8)])), (a10, .inl (ct 0, 8, .inl (u.2.1 5))), (a11, .inl (ct 0, 8, .inl (u.2.1 6))), (a12, .inl (ct 0, 8, .inl (u.2.1 7))), (a13, .inl (ct 0, 40, .inl f13)), (a14, .inr (9, [.ref a15, .ref a17, .ref a18, .ref a19, .ref a20, .int n14_5, .int n14_6])), (a15, .inr (0, [.ref a16, .int n15_1])), (a16, .inl (ct 0, 8, .inl f16)), (a17, .inl (ct 0, 8, .inl f17)), (a18, .inl (ct 0, 8, .inl f18)), (a19, .inl (ct 0, 8, .inl f19)), (a20, .inl (ct 0, 8, .inl f20))]) u) t.heap) (aset [(a0, .inr (4, [.ref a1, .ref a8, .ref a13, .int n0_3])), (a1, .inr (9, [.ref a2, .ref a4, .ref a5, .ref a6, .ref a7, .int n1_5, .int n1_6])), (a2, .inr (0, [.ref a3, .int n2_1])), (a3, .inl (ct 0, 8, .inl f3)), (a4, .inl (ct 0, 8, .inl f4)), (a5, .inl (ct 0, 8, .inl f5)), (a6, .inl (ct 0, 8, .inl f6)), (a7, .inl (ct 0, 8, .inl f7)), (a8, .inr (2, [.ref a1, .ref a9, .ref a11, .ref a12, .int n8_4, .int n8_5, .int n8_6, .int n8_7])), (a9, .inr (0, [.ref a10, .int n9_1])), (a10, .inl (ct 0, 8, .inl f10)), (a11, .inl (ct 0, 8, .inl f11)), (a12, .inl (ct 0, 8, .inl f12)), (a13, .inl (ct 0, 40, .inl f13)), (a14, .inr (9, [.ref a15, .ref a17, .ref a18, .ref a19, .ref a20, .int n14_5, .int n14_6])), (a15, .inr (0, [.ref a16, .int n15_1])), (a16, .inl (ct 0, 8, .inl f16)), (a17, .inl (ct 0, 8, .inl f17)), (a18, .inl (ct 0, 8, .inl f18)), (a19, .inl (ct 0, 8, .inl f19)), (a20, .inl (ct 0, 8, .inl f20))])) 0 0 (aset [(a0, .inr (4, [.ref a1, .ref a8, .ref a13, .int n0_3])), (a1, .inr (9, [.ref a2, .ref a4, .ref a5, .ref a6, .ref a7, .int n1_5, .int n1_6])), (a2, .inr (0, [.ref a3, .int n2_1])), (a3, .inl (ct 0, 8, .inl f3)), (a4, .inl (ct 0, 8, .inl f4)), (a5, .inl (ct 0, 8, .inl f5)), (a6, .inl (ct 0, 8, .inl f6)), (a7, .inl (ct 0, 8, .inl f7)), (a8, .inr (2, [.ref a1, .ref a9, .ref a11, .ref a12, .int n8_4, .int n8_5, .int n8_6, .int n8_7])), (a9, .inr (0, [.ref a10, .int n9_1])), (a10, .inl (ct 0, 8, .inl f10)), (a11, .inl (ct 0, 8, .inl f11)), (a12, .inl (ct 0, 8, .inl f12)), (a13, .inl (ct 0, 40, .inl f13)), (a14, .inr (9, [.ref a15, .ref a17, .ref a18, .ref a19, .ref a20, .int n14_5, .int n14_6])), (a15, .inr (0, [.ref a16, .int n15_1])), (a16, .inl (ct 0, 8, .inl f16)), (a17, .inl (ct 0, 8, .inl f17)), (a18, .inl (ct 0, 8, .inl f18)), (a19, .inl (ct 0, 8, .inl f19)), (a20, .inl (ct 0, 8, .inl f20))]) := by
  refine Met.ofW (cc := cX4_begin) (maxL := 2) (ret := none) (by decide) rfl ?_
  intro p e s m args below meth c s₁ B hml hv
  obtain ⟨rfl, hP, hK, hD0⟩ := hv
  have hx := B.exec
  have hb := B.bytes
  have hr := B.returns
  have hts := atoms_spec (ws := wsX4_begin) B.pre
  have hown : s.vm.findClass RX4 = some m.cls := findClass_of_methodNamed B.named
  have hlocks := B.notSynchronized
  have hD := hD0.aself
  generalize hAe : aset [(a0, .inr (4, [.ref a1, .ref a8, .ref a13, .int n0_3])), (a1, .inr (9, [.ref a2, .ref a4, .ref a5, .ref a6, .ref a7, .int n1_5, .int n1_6])), (a2, .inr (0, [.ref a3, .int n2_1])), (a3, .inl (ct 0, 8, .inl f3)), (a4, .inl (ct 0, 8, .inl f4)), (a5, .inl (ct 0, 8, .inl f5)), (a6, .inl (ct 0, 8, .inl f6)), (a7, .inl (ct 0, 8, .inl f7)), (a8, .inr (2, [.ref a1, .ref a9, .ref a11, .ref a12, .int n8_4, .int n8_5, .int n8_6, .int n8_7])), (a9, .inr (0, [.ref a10, .int n9_1])), (a10, .inl (ct 0, 8, .inl f10)), (a11, .inl (ct 0, 8, .inl f11)), (a12, .inl (ct 0, 8, .inl f12)), (a13, .inl (ct 0, 40, .inl f13)), (a14, .inr (9, [.ref a15, .ref a17, .ref a18, .ref a19, .ref a20, .int n14_5, .int n14_6])), (a15, .inr (0, [.ref a16, .int n15_1])), (a16, .inl (ct 0, 8, .inl f16)), (a17, .inl (ct 0, 8, .inl f17)), (a18, .inl (ct 0, 8, .inl f18)), (a19, .inl (ct 0, 8, .inl f19)), (a20, .inl (ct 0, 8, .inl f20))] = A at hD ⊢
  have hS : va_S A s.heap s.heap [] := va_S.rf
  have hl := lv_entry ([.ref a0, .ref a14]) (n := 2) (Nat.le_of_ble_eq_true rfl)
  rw [lg_entry_eq]
  generalize (lg_sl ([.ref a0, .ref a14]) ++ List.replicate (2 - (lg_sl ([.ref a0, .ref a14])).length) Slot.unset).toArray = ls at hl ⊢
  have hl : lv_has ls 2 [(0, .ref a0), (1, .ref a14)] := hl
  refine lv_aload_n hx hb dX4_begin_0 rfl (lv_at hl 0 rfl) ?_
  refine va_get (D := G) (ci := 4) (v := .ref a1) (C := RX4) (T := TX4) (N := 4) hx hb hts (by decide +kernel) hown hK.1 hP 0 rfl rfl 0 (by decide) (hts (.fieldLink RX4 12 "CardHolder$Play" "town" "LCardHolder$Town;") (by decide +kernel)) (fun _ h9 => h9) rfl dX4_begin_1 ?_
  refine lv_aload_n hx hb dX4_begin_4 rfl (lv_at hl 1 rfl) ?_
  refine wj_callv (wr := [(a0, .inr (4, [.ref a1, .ref a8, .ref a13, .int n0_3])), (a8, .inr (2, [.ref a1, .ref a9, .ref a11, .ref a12, .int n8_4, .int n8_5, .int n8_6, .int n8_7])), (a9, .inr (0, [.ref a10, .int n9_1])), (a10, .inl (ct 0, 8, .inl f10)), (a11, .inl (ct 0, 8, .inl f11)), (a12, .inl (ct 0, 8, .inl f12)), (a13, .inl (ct 0, 40, .inl f13))]) (w1 := (fun u : SU => [(a1, .inr (9, [.ref a2, .ref a4, .ref a5, .ref a6, .ref a7, .int (u.1 0), .int (u.1 1)])), (a2, .inr (0, [.ref a3, .int (u.1 2)])), (a3, .inl (ct 0, 8, .inl (u.2.1 0))), (a4, .inl (ct 0, 8, .inl (u.2.1 1))), (a5, .inl (ct 0, 8, .inl (u.2.1 2))), (a6, .inl (ct 0, 8, .inl (u.2.1 3))), (a7, .inl (ct 0, 8, .inl (u.2.1 4))), (a14, .inr (9, [.ref a15, .ref a17, .ref a18, .ref a19, .ref a20, .int n14_5, .int n14_6])), (a15, .inr (0, [.ref a16, .int n15_1])), (a16, .inl (ct 0, 8, .inl f16)), (a17, .inl (ct 0, 8, .inl f17)), (a18, .inl (ct 0, 8, .inl f18)), (a19, .inl (ct 0, 8, .inl f19)), (a20, .inl (ct 0, 8, .inl f20))])) (va_runV (As := [.ref a14]) (rest := []) ⟨hx, hb, hml, hown, hts⟩ (a_X9_copyOf l G ct a1 a2 a4 a5 a6 a7 n1_5 n1_6 a3 n2_1 f3 f4 f5 f6 f7 a14 a15 a17 a18 a19 a20 n14_5 n14_6 a16 n15_1 f16 f17 f18 f19 f20 hp_n2_1 hp_n15_1) (cwV 1 hts gX4_begin_X9_copyOf rfl rfl rfl (by decide +kernel) ⟨Nat.le_of_ble_eq_true rfl, Nat.le_of_ble_eq_true rfl⟩) (wr_preV 9 0 hK (hP.sub [1, 2, 3, 4, 5, 6, 7, 14, 15, 16, 17, 18, 19, 20] rfl) (hD.sub [1, 2, 3, 4, 5, 6, 7, 14, 15, 16, 17, 18, 19, 20] (by decide) rfl) rfl rfl) rfl rfl hl.1 rfl (lv_room (Nat.le_of_ble_eq_true rfl)) dX4_begin_5 ⟨Nat.zero_le _, Nat.zero_le _⟩) hS hP hD [1, 2, 3, 4, 5, 6, 7, 14, 15, 16, 17, 18, 19, 20] [0, 8, 9, 10, 11, 12, 13] rfl rfl (by decide) (fun _ => rfl) (fun ur5 H locs wr5 hP hD hS => ?_)
  have hP : va_P G vwCl [(a0, .inr (4, [.ref a1, .ref a8, .ref a13, .int n0_3])), (a1, .inr (9, [.ref a2, .ref a4, .ref a5, .ref a6, .ref a7, .int (ur5.1 0), .int (ur5.1 1)])), (a2, .inr (0, [.ref a3, .int (ur5.1 2)])), (a3, .inl (ct 0, 8, .inl (ur5.2.1 0))), (a4, .inl (ct 0, 8, .inl (ur5.2.1 1))), (a5, .inl (ct 0, 8, .inl (ur5.2.1 2))), (a6, .inl (ct 0, 8, .inl (ur5.2.1 3))), (a7, .inl (ct 0, 8, .inl (ur5.2.1 4))), (a8, .inr (2, [.ref a1, .ref a9, .ref a11, .ref a12, .int n8_4, .int n8_5, .int n8_6, .int n8_7])), (a9, .inr (0, [.ref a10, .int n9_1])), (a10, .inl (ct 0, 8, .inl f10)), (a11, .inl (ct 0, 8, .inl f11)), (a12, .inl (ct 0, 8, .inl f12)), (a13, .inl (ct 0, 40, .inl f13)), (a14, .inr (9, [.ref a15, .ref a17, .ref a18, .ref a19, .ref a20, .int n14_5, .int n14_6])), (a15, .inr (0, [.ref a16, .int n15_1])), (a16, .inl (ct 0, 8, .inl f16)), (a17, .inl (ct 0, 8, .inl f17)), (a18, .inl (ct 0, 8, .inl f18)), (a19, .inl (ct 0, 8, .inl f19)), (a20, .inl (ct 0, 8, .inl f20))] H := hP.sub [0, 7, 8, 9, 10, 11, 12, 13, 1, 2, 3, 4, 5, 6, 14, 15, 16, 17, 18, 19, 20] rfl
  have hD : va_D A [(a0, .inr (4, [.ref a1, .ref a8, .ref a13, .int n0_3])), (a1, .inr (9, [.ref a2, .ref a4, .ref a5, .ref a6, .ref a7, .int (ur5.1 0), .int (ur5.1 1)])), (a2, .inr (0, [.ref a3, .int (ur5.1 2)])), (a3, .inl (ct 0, 8, .inl (ur5.2.1 0))), (a4, .inl (ct 0, 8, .inl (ur5.2.1 1))), (a5, .inl (ct 0, 8, .inl (ur5.2.1 2))), (a6, .inl (ct 0, 8, .inl (ur5.2.1 3))), (a7, .inl (ct 0, 8, .inl (ur5.2.1 4))), (a8, .inr (2, [.ref a1, .ref a9, .ref a11, .ref a12, .int n8_4, .int n8_5, .int n8_6, .int n8_7])), (a9, .inr (0, [.ref a10, .int n9_1])), (a10, .inl (ct 0, 8, .inl f10)), (a11, .inl (ct 0, 8, .inl f11)), (a12, .inl (ct 0, 8, .inl f12)), (a13, .inl (ct 0, 40, .inl f13)), (a14, .inr (9, [.ref a15, .ref a17, .ref a18, .ref a19, .ref a20, .int n14_5, .int n14_6])), (a15, .inr (0, [.ref a16, .int n15_1])), (a16, .inl (ct 0, 8, .inl f16)), (a17, .inl (ct 0, 8, .inl f17)), (a18, .inl (ct 0, 8, .inl f18)), (a19, .inl (ct 0, 8, .inl f19)), (a20, .inl (ct 0, 8, .inl f20))] := hD.sub [0, 7, 8, 9, 10, 11, 12, 13, 1, 2, 3, 4, 5, 6, 14, 15, 16, 17, 18, 19, 20] (by decide) rfl
  obtain ⟨p_1, -⟩ := wr5
  refine lv_aload_n hx hb dX4_begin_8 rfl (lv_at hl 0 rfl) ?_
  refine lv_iconst (v := 0) hx hb dX4_begin_9 (by decide) ?_
  refine wj_callv (wr := [(a4, .inl (ct 0, 8, .inl (ur5.2.1 1))), (a5, .inl (ct 0, 8, .inl (ur5.2.1 2))), (a6, .inl (ct 0, 8, .inl (ur5.2.1 3))), (a14, .inr (9, [.ref a15, .ref a17, .ref a18, .ref a19, .ref a20, .int n14_5, .int n14_6])), (a15, .inr (0, [.ref a16, .int n15_1])), (a16, .inl (ct 0, 8, .inl f16)), (a17, .inl (ct 0, 8, .inl f17)), (a18, .inl (ct 0, 8, .inl f18)), (a19, .inl (ct 0, 8, .inl f19)), (a20, .inl (ct 0, 8, .inl f20))]) (w1 := (fun u : SU => [(a0, .inr (4, [.ref a1, .ref a8, .ref a13, .int (u.1 0)])), (a1, .inr (9, [.ref a2, .ref a4, .ref a5, .ref a6, .ref a7, .int (ur5.1 0), .int (ur5.1 1)])), (a2, .inr (0, [.ref a3, .int (ur5.1 2)])), (a3, .inl (ct 0, 8, .inl (ur5.2.1 0))), (a7, .inl (ct 0, 8, .inl (ur5.2.1 4))), (a8, .inr (2, [.ref a1, .ref a9, .ref a11, .ref a12, .int (u.1 1), .int (u.1 2), .int (u.1 3), .int (u.1 4)])), (a9, .inr (0, [.ref a10, .int (u.1 5)])), (a10, .inl (ct 0, 8, .inl (u.2.1 0))), (a11, .inl (ct 0, 8, .inl (u.2.1 1))), (a12, .inl (ct 0, 8, .inl (u.2.1 2))), (a13, .inl (ct 0, 40, .inl f13))])) (va_runV (As := [.int 0]) (rest := []) ⟨hx, hb, hml, hown, hts⟩ (a_X4_replay l G ct a0 a1 a8 a13 n0_3 a2 a4 a5 a6 a7 (ur5.1 0) (ur5.1 1) a3 (ur5.1 2) (ur5.2.1 0) (ur5.2.1 4) a9 a11 a12 n8_4 n8_5 n8_6 n8_7 a10 n9_1 f10 f11 f12 f13 (0 : Int32) p_1 hp_n9_1) (cwV 1 hts gX4_begin_X4_replay rfl rfl rfl (by decide +kernel) ⟨Nat.le_of_ble_eq_true rfl, Nat.le_of_ble_eq_true rfl⟩) (wr_preV 4 0 hK (hP.sub [0, 1, 2, 3, 7, 8, 9, 10, 11, 12, 13] rfl) (hD.sub [0, 1, 2, 3, 7, 8, 9, 10, 11, 12, 13] (by decide) rfl) rfl rfl) rfl rfl hl.1 rfl (lv_room (Nat.le_of_ble_eq_true rfl)) dX4_begin_10 ⟨Nat.zero_le _, Nat.zero_le _⟩) hS hP hD [0, 1, 2, 3, 7, 8, 9, 10, 11, 12, 13] [4, 5, 6, 14, 15, 16, 17, 18, 19, 20] rfl rfl (by decide) (fun _ => rfl) (fun ur10 H locs wr10 hP hD hS => ?_)
  have hP : va_P G vwCl [(a0, .inr (4, [.ref a1, .ref a8, .ref a13, .int (ur10.1 0)])), (a1, .inr (9, [.ref a2, .ref a4, .ref a5, .ref a6, .ref a7, .int (ur5.1 0), .int (ur5.1 1)])), (a2, .inr (0, [.ref a3, .int (ur5.1 2)])), (a3, .inl (ct 0, 8, .inl (ur5.2.1 0))), (a4, .inl (ct 0, 8, .inl (ur5.2.1 1))), (a5, .inl (ct 0, 8, .inl (ur5.2.1 2))), (a6, .inl (ct 0, 8, .inl (ur5.2.1 3))), (a7, .inl (ct 0, 8, .inl (ur5.2.1 4))), (a8, .inr (2, [.ref a1, .ref a9, .ref a11, .ref a12, .int (ur10.1 1), .int (ur10.1 2), .int (ur10.1 3), .int (ur10.1 4)])), (a9, .inr (0, [.ref a10, .int (ur10.1 5)])), (a10, .inl (ct 0, 8, .inl (ur10.2.1 0))), (a11, .inl (ct 0, 8, .inl (ur10.2.1 1))), (a12, .inl (ct 0, 8, .inl (ur10.2.1 2))), (a13, .inl (ct 0, 40, .inl f13)), (a14, .inr (9, [.ref a15, .ref a17, .ref a18, .ref a19, .ref a20, .int n14_5, .int n14_6])), (a15, .inr (0, [.ref a16, .int n15_1])), (a16, .inl (ct 0, 8, .inl f16)), (a17, .inl (ct 0, 8, .inl f17)), (a18, .inl (ct 0, 8, .inl f18)), (a19, .inl (ct 0, 8, .inl f19)), (a20, .inl (ct 0, 8, .inl f20))] H := hP.sub [10, 11, 12, 13, 0, 1, 2, 14, 15, 16, 17, 18, 19, 20, 3, 4, 5, 6, 7, 8, 9] rfl
  have hD : va_D A [(a0, .inr (4, [.ref a1, .ref a8, .ref a13, .int (ur10.1 0)])), (a1, .inr (9, [.ref a2, .ref a4, .ref a5, .ref a6, .ref a7, .int (ur5.1 0), .int (ur5.1 1)])), (a2, .inr (0, [.ref a3, .int (ur5.1 2)])), (a3, .inl (ct 0, 8, .inl (ur5.2.1 0))), (a4, .inl (ct 0, 8, .inl (ur5.2.1 1))), (a5, .inl (ct 0, 8, .inl (ur5.2.1 2))), (a6, .inl (ct 0, 8, .inl (ur5.2.1 3))), (a7, .inl (ct 0, 8, .inl (ur5.2.1 4))), (a8, .inr (2, [.ref a1, .ref a9, .ref a11, .ref a12, .int (ur10.1 1), .int (ur10.1 2), .int (ur10.1 3), .int (ur10.1 4)])), (a9, .inr (0, [.ref a10, .int (ur10.1 5)])), (a10, .inl (ct 0, 8, .inl (ur10.2.1 0))), (a11, .inl (ct 0, 8, .inl (ur10.2.1 1))), (a12, .inl (ct 0, 8, .inl (ur10.2.1 2))), (a13, .inl (ct 0, 40, .inl f13)), (a14, .inr (9, [.ref a15, .ref a17, .ref a18, .ref a19, .ref a20, .int n14_5, .int n14_6])), (a15, .inr (0, [.ref a16, .int n15_1])), (a16, .inl (ct 0, 8, .inl f16)), (a17, .inl (ct 0, 8, .inl f17)), (a18, .inl (ct 0, 8, .inl f18)), (a19, .inl (ct 0, 8, .inl f19)), (a20, .inl (ct 0, 8, .inl f20))] := hD.sub [10, 11, 12, 13, 0, 1, 2, 14, 15, 16, 17, 18, 19, 20, 3, 4, 5, 6, 7, 8, 9] (by decide) rfl
  obtain ⟨p_2, -⟩ := wr10
  exact W.vret hx hb hr (fun t ht hW => ⟨⟨(fun k => ([ur10.1 0, ur5.1 0, ur5.1 1, ur5.1 2, ur10.1 1, ur10.1 2, ur10.1 3, ur10.1 4, ur10.1 5] : List Int32).getD k 0, fun k => ([ur5.2.1 0, ur5.2.1 1, ur5.2.1 2, ur5.2.1 3, ur5.2.1 4, ur10.2.1 0, ur10.2.1 1, ur10.2.1 2] : List (Nat → Int32)).getD k (fun _ => 0), fun k => ([] : List (Nat → Int64)).getD k (fun _ => 0)), rfl, ⟨p_1, p_2, trivial⟩, hp_at ht hP⟩, hS.F ht⟩) hS.2.2 dX4_begin_13

set_option maxHeartbeats 4000000 in
set_option maxRecDepth 100000 in
theorem a_X4_copyOf (l : Launch) (G : va_G) (ct : Nat → ClassId) (a0 : Nat) (a1 : Nat) (a8 : Nat) (a13 : Nat) (n0_3 : Int32) (a2 : Nat) (a4 : Nat) (a5 : Nat) (a6 : Nat) (a7 : Nat) (n1_5 : Int32) (n1_6 : Int32) (a3 : Nat) (n2_1 : Int32) (f3 : Nat → Int32) (f4 : Nat → Int32) (f5 : Nat → Int32) (f6 : Nat → Int32) (f7 : Nat → Int32) (a9 : Nat) (a11 : Nat) (a12 : Nat) (n8_4 : Int32) (n8_5 : Int32) (n8_6 : Int32) (n8_7 : Int32) (a10 : Nat) (n9_1 : Int32) (f10 : Nat → Int32) (f11 : Nat → Int32) (f12 : Nat → Int32) (f13 : Nat → Int32) (a14 : Nat) (a15 : Nat) (a22 : Nat) (a27 : Nat) (n14_3 : Int32) (a16 : Nat) (a18 : Nat) (a19 : Nat) (a20 : Nat) (a21 : Nat) (n15_5 : Int32) (n15_6 : Int32) (a17 : Nat) (n16_1 : Int32) (f17 : Nat → Int32) (f18 : Nat → Int32) (f19 : Nat → Int32) (f20 : Nat → Int32) (f21 : Nat → Int32) (f27 : Nat → Int32) (hp_n2_1 : rg 0 8 n2_1) (hp_n9_1 : rg 0 8 n9_1) (hp_n16_1 : rg 0 8 n16_1) : Met l yX4_copyOf wsX4_copyOf ({ frames := 5, cells := 0, slots := 0, locals := 124 }) (va_Pc [.ref a0, .ref a14] (wrP G ct [(a0, .inr (4, [.ref a1, .ref a8, .ref a13, .int n0_3])), (a1, .inr (9, [.ref a2, .ref a4, .ref a5, .ref a6, .ref a7, .int n1_5, .int n1_6])), (a2, .inr (0, [.ref a3, .int n2_1])), (a3, .inl (ct 0, 8, .inl f3)), (a4, .inl (ct 0, 8, .inl f4)), (a5, .inl (ct 0, 8, .inl f5)), (a6, .inl (ct 0, 8, .inl f6)), (a7, .inl (ct 0, 8, .inl f7)), (a8, .inr (2, [.ref a1, .ref a9, .ref a11, .ref a12, .int n8_4, .int n8_5, .int n8_6, .int n8_7])), (a9, .inr (0, [.ref a10, .int n9_1])), (a10, .inl (ct 0, 8, .inl f10)), (a11, .inl (ct 0, 8, .inl f11)), (a12, .inl (ct 0, 8, .inl f12)), (a13, .inl (ct 0, 40, .inl f13)), (a14, .inr (4, [.ref a15, .ref a22, .ref a27, .int n14_3])), (a15, .inr (9, [.ref a16, .ref a18, .ref a19, .ref a20, .ref a21, .int n15_5, .int n15_6])), (a16, .inr (0, [.ref a17, .int n16_1])), (a17, .inl (ct 0, 8, .inl f17)), (a18, .inl (ct 0, 8, .inl f18)), (a19, .inl (ct 0, 8, .inl f19)), (a20, .inl (ct 0, 8, .inl f20)), (a21, .inl (ct 0, 8, .inl f21)), (a27, .inl (ct 0, 40, .inl f27))])) (va_Qv (fun u : SU => rg 0 8 (u.1 3) ∧ rg 0 8 (u.1 8) ∧ True) (fun u t => va_P G vwCl ((fun u : SU => [(a0, .inr (4, [.ref a1, .ref a8, .ref a13, .int (u.1 0)])), (a1, .inr (9, [.ref a2, .ref a4, .ref a5, .ref a6, .ref a7, .int (u.1 1), .int (u.1 2)])), (a2, .inr (0, [.ref a3, .int (u.1 3)])), (a3, .inl (ct 0, 8, .inl (u.2.1 0))), (a4, .inl (ct 0, 8, .inl (u.2.1 1))), (a5, .inl (ct 0, 8, .inl (u.2.1 2))), (a6, .inl (ct 0, 8, .inl (u.2.1 3))), (a7, .inl (ct 0, 8, .inl (u.2.1 4))), (a8, .inr (2, [.ref a1, .ref a9, .ref a11, .ref a12, .int (u.1 4), .int (u.1 5), .int (u.1 6), .int (u.1 7)])), (a9, .inr (0, [.ref a10, .int (u.1 8)])), (a10, .inl (ct 0, 8, .inl (u.2.1 5))), (a11, .inl (ct 0, 8, .inl (u.2.1 6))), (a12, .inl (ct 0, 8, .inl (u.2.1 7))), (a13, .inl (ct 0, 40, .inl (u.2.1 8))), (a14, .inr (4, [.ref a15, .ref a22, .ref a27, .int n14_3])), (a15, .inr (9, [.ref a16, .ref a18, .ref a19, .ref a20, .ref a21, .int n15_5, .int n15_6])), (a16, .inr (0, [.ref a17, .int n16_1])), (a17, .inl (ct 0, 8, .inl f17)), (a18, .inl (ct 0, 8, .inl f18)), (a19, .inl (ct 0, 8, .inl f19)), (a20, .inl (ct 0, 8, .inl f20)), (a21, .inl (ct 0, 8, .inl f21)), (a27, .inl (ct 0, 40, .inl f27))]) u) t.heap) (aset [(a0, .inr (4, [.ref a1, .ref a8, .ref a13, .int n0_3])), (a1, .inr (9, [.ref a2, .ref a4, .ref a5, .ref a6, .ref a7, .int n1_5, .int n1_6])), (a2, .inr (0, [.ref a3, .int n2_1])), (a3, .inl (ct 0, 8, .inl f3)), (a4, .inl (ct 0, 8, .inl f4)), (a5, .inl (ct 0, 8, .inl f5)), (a6, .inl (ct 0, 8, .inl f6)), (a7, .inl (ct 0, 8, .inl f7)), (a8, .inr (2, [.ref a1, .ref a9, .ref a11, .ref a12, .int n8_4, .int n8_5, .int n8_6, .int n8_7])), (a9, .inr (0, [.ref a10, .int n9_1])), (a10, .inl (ct 0, 8, .inl f10)), (a11, .inl (ct 0, 8, .inl f11)), (a12, .inl (ct 0, 8, .inl f12)), (a13, .inl (ct 0, 40, .inl f13)), (a14, .inr (4, [.ref a15, .ref a22, .ref a27, .int n14_3])), (a15, .inr (9, [.ref a16, .ref a18, .ref a19, .ref a20, .ref a21, .int n15_5, .int n15_6])), (a16, .inr (0, [.ref a17, .int n16_1])), (a17, .inl (ct 0, 8, .inl f17)), (a18, .inl (ct 0, 8, .inl f18)), (a19, .inl (ct 0, 8, .inl f19)), (a20, .inl (ct 0, 8, .inl f20)), (a21, .inl (ct 0, 8, .inl f21)), (a27, .inl (ct 0, 40, .inl f27))])) 0 0 (aset [(a0, .inr (4, [.ref a1, .ref a8, .ref a13, .int n0_3])), (a1, .inr (9, [.ref a2, .ref a4, .ref a5, .ref a6, .ref a7, .int n1_5, .int n1_6])), (a2, .inr (0, [.ref a3, .int n2_1])), (a3, .inl (ct 0, 8, .inl f3)), (a4, .inl (ct 0, 8, .inl f4)), (a5, .inl (ct 0, 8, .inl f5)), (a6, .inl (ct 0, 8, .inl f6)), (a7, .inl (ct 0, 8, .inl f7)), (a8, .inr (2, [.ref a1, .ref a9, .ref a11, .ref a12, .int n8_4, .int n8_5, .int n8_6, .int n8_7])), (a9, .inr (0, [.ref a10, .int n9_1])), (a10, .inl (ct 0, 8, .inl f10)), (a11, .inl (ct 0, 8, .inl f11)), (a12, .inl (ct 0, 8, .inl f12)), (a13, .inl (ct 0, 40, .inl f13)), (a14, .inr (4, [.ref a15, .ref a22, .ref a27, .int n14_3])), (a15, .inr (9, [.ref a16, .ref a18, .ref a19, .ref a20, .ref a21, .int n15_5, .int n15_6])), (a16, .inr (0, [.ref a17, .int n16_1])), (a17, .inl (ct 0, 8, .inl f17)), (a18, .inl (ct 0, 8, .inl f18)), (a19, .inl (ct 0, 8, .inl f19)), (a20, .inl (ct 0, 8, .inl f20)), (a21, .inl (ct 0, 8, .inl f21)), (a27, .inl (ct 0, 40, .inl f27))]) := by
  refine Met.ofW (cc := cX4_copyOf) (maxL := 2) (ret := none) (by decide) rfl ?_
  intro p e s m args below meth c s₁ B hml hv
  obtain ⟨rfl, hP, hK, hD0⟩ := hv
  have hx := B.exec
  have hb := B.bytes
  have hr := B.returns
  have hts := atoms_spec (ws := wsX4_copyOf) B.pre
  have hown : s.vm.findClass RX4 = some m.cls := findClass_of_methodNamed B.named
  have hlocks := B.notSynchronized
  have hD := hD0.aself
  generalize hAe : aset [(a0, .inr (4, [.ref a1, .ref a8, .ref a13, .int n0_3])), (a1, .inr (9, [.ref a2, .ref a4, .ref a5, .ref a6, .ref a7, .int n1_5, .int n1_6])), (a2, .inr (0, [.ref a3, .int n2_1])), (a3, .inl (ct 0, 8, .inl f3)), (a4, .inl (ct 0, 8, .inl f4)), (a5, .inl (ct 0, 8, .inl f5)), (a6, .inl (ct 0, 8, .inl f6)), (a7, .inl (ct 0, 8, .inl f7)), (a8, .inr (2, [.ref a1, .ref a9, .ref a11, .ref a12, .int n8_4, .int n8_5, .int n8_6, .int n8_7])), (a9, .inr (0, [.ref a10, .int n9_1])), (a10, .inl (ct 0, 8, .inl f10)), (a11, .inl (ct 0, 8, .inl f11)), (a12, .inl (ct 0, 8, .inl f12)), (a13, .inl (ct 0, 40, .inl f13)), (a14, .inr (4, [.ref a15, .ref a22, .ref a27, .int n14_3])), (a15, .inr (9, [.ref a16, .ref a18, .ref a19, .ref a20, .ref a21, .int n15_5, .int n15_6])), (a16, .inr (0, [.ref a17, .int n16_1])), (a17, .inl (ct 0, 8, .inl f17)), (a18, .inl (ct 0, 8, .inl f18)), (a19, .inl (ct 0, 8, .inl f19)), (a20, .inl (ct 0, 8, .inl f20)), (a21, .inl (ct 0, 8, .inl f21)), (a27, .inl (ct 0, 40, .inl f27))] = A at hD ⊢
  have hS : va_S A s.heap s.heap [] := va_S.rf
  have hl := lv_entry ([.ref a0, .ref a14]) (n := 2) (Nat.le_of_ble_eq_true rfl)
  rw [lg_entry_eq]
  generalize (lg_sl ([.ref a0, .ref a14]) ++ List.replicate (2 - (lg_sl ([.ref a0, .ref a14])).length) Slot.unset).toArray = ls at hl ⊢
  have hl : lv_has ls 2 [(0, .ref a0), (1, .ref a14)] := hl
  refine lv_aload_n hx hb dX4_copyOf_0 rfl (lv_at hl 0 rfl) ?_
  refine va_get (D := G) (ci := 4) (v := .ref a1) (C := RX4) (T := TX4) (N := 4) hx hb hts (by decide +kernel) hown hK.1 hP 0 rfl rfl 0 (by decide) (hts (.fieldLink RX4 12 "CardHolder$Play" "town" "LCardHolder$Town;") (by decide +kernel)) (fun _ h9 => h9) rfl dX4_copyOf_1 ?_
  refine lv_aload_n hx hb dX4_copyOf_4 rfl (lv_at hl 1 rfl) ?_
  refine va_get (D := G) (ci := 4) (v := .ref a15) (C := RX4) (T := TX4) (N := 4) hx hb hts (by decide +kernel) hown hK.1 hP 14 rfl rfl 0 (by decide) (hts (.fieldLink RX4 12 "CardHolder$Play" "town" "LCardHolder$Town;") (by decide +kernel)) (fun _ h9 => h9) rfl dX4_copyOf_5 ?_
  refine wj_callv (wr := [(a0, .inr (4, [.ref a1, .ref a8, .ref a13, .int n0_3])), (a8, .inr (2, [.ref a1, .ref a9, .ref a11, .ref a12, .int n8_4, .int n8_5, .int n8_6, .int n8_7])), (a9, .inr (0, [.ref a10, .int n9_1])), (a10, .inl (ct 0, 8, .inl f10)), (a11, .inl (ct 0, 8, .inl f11)), (a12, .inl (ct 0, 8, .inl f12)), (a13, .inl (ct 0, 40, .inl f13)), (a14, .inr (4, [.ref a15, .ref a22, .ref a27, .int n14_3])), (a27, .inl (ct 0, 40, .inl f27))]) (w1 := (fun u : SU => [(a1, .inr (9, [.ref a2, .ref a4, .ref a5, .ref a6, .ref a7, .int (u.1 0), .int (u.1 1)])), (a2, .inr (0, [.ref a3, .int (u.1 2)])), (a3, .inl (ct 0, 8, .inl (u.2.1 0))), (a4, .inl (ct 0, 8, .inl (u.2.1 1))), (a5, .inl (ct 0, 8, .inl (u.2.1 2))), (a6, .inl (ct 0, 8, .inl (u.2.1 3))), (a7, .inl (ct 0, 8, .inl (u.2.1 4))), (a15, .inr (9, [.ref a16, .ref a18, .ref a19, .ref a20, .ref a21, .int n15_5, .int n15_6])), (a16, .inr (0, [.ref a17, .int n16_1])), (a17, .inl (ct 0, 8, .inl f17)), (a18, .inl (ct 0, 8, .inl f18)), (a19, .inl (ct 0, 8, .inl f19)), (a20, .inl (ct 0, 8, .inl f20)), (a21, .inl (ct 0, 8, .inl f21))])) (va_runV (As := [.ref a15]) (rest := []) ⟨hx, hb, hml, hown, hts⟩ (a_X9_copyOf l G ct a1 a2 a4 a5 a6 a7 n1_5 n1_6 a3 n2_1 f3 f4 f5 f6 f7 a15 a16 a18 a19 a20 a21 n15_5 n15_6 a17 n16_1 f17 f18 f19 f20 f21 hp_n2_1 hp_n16_1) (cwV 1 hts gX4_copyOf_X9_copyOf rfl rfl rfl (by decide +kernel) ⟨Nat.le_of_ble_eq_true rfl, Nat.le_of_ble_eq_true rfl⟩) (wr_preV 9 0 hK (hP.sub [1, 2, 3, 4, 5, 6, 7, 15, 16, 17, 18, 19, 20, 21] rfl) (hD.sub [1, 2, 3, 4, 5, 6, 7, 15, 16, 17, 18, 19, 20, 21] (by decide) rfl) rfl rfl) rfl rfl hl.1 rfl (lv_room (Nat.le_of_ble_eq_true rfl)) dX4_copyOf_8 ⟨Nat.zero_le _, Nat.zero_le _⟩) hS hP hD [1, 2, 3, 4, 5, 6, 7, 15, 16, 17, 18, 19, 20, 21] [0, 8, 9, 10, 11, 12, 13, 14, 22] rfl rfl (by decide) (fun _ => rfl) (fun ur8 H locs wr8 hP hD hS => ?_)
  have hP : va_P G vwCl [(a0, .inr (4, [.ref a1, .ref a8, .ref a13, .int n0_3])), (a1, .inr (9, [.ref a2, .ref a4, .ref a5, .ref a6, .ref a7, .int (ur8.1 0), .int (ur8.1 1)])), (a2, .inr (0, [.ref a3, .int (ur8.1 2)])), (a3, .inl (ct 0, 8, .inl (ur8.2.1 0))), (a4, .inl (ct 0, 8, .inl (ur8.2.1 1))), (a5, .inl (ct 0, 8, .inl (ur8.2.1 2))), (a6, .inl (ct 0, 8, .inl (ur8.2.1 3))), (a7, .inl (ct 0, 8, .inl (ur8.2.1 4))), (a8, .inr (2, [.ref a1, .ref a9, .ref a11, .ref a12, .int n8_4, .int n8_5, .int n8_6, .int n8_7])), (a9, .inr (0, [.ref a10, .int n9_1])), (a10, .inl (ct 0, 8, .inl f10)), (a11, .inl (ct 0, 8, .inl f11)), (a12, .inl (ct 0, 8, .inl f12)), (a13, .inl (ct 0, 40, .inl f13)), (a14, .inr (4, [.ref a15, .ref a22, .ref a27, .int n14_3])), (a15, .inr (9, [.ref a16, .ref a18, .ref a19, .ref a20, .ref a21, .int n15_5, .int n15_6])), (a16, .inr (0, [.ref a17, .int n16_1])), (a17, .inl (ct 0, 8, .inl f17)), (a18, .inl (ct 0, 8, .inl f18)), (a19, .inl (ct 0, 8, .inl f19)), (a20, .inl (ct 0, 8, .inl f20)), (a21, .inl (ct 0, 8, .inl f21)), (a27, .inl (ct 0, 40, .inl f27))] H := hP.sub [0, 9, 10, 11, 12, 13, 14, 15, 1, 2, 3, 4, 5, 6, 7, 16, 17, 18, 19, 20, 21, 22, 8] rfl
  have hD : va_D A [(a0, .inr (4, [.ref a1, .ref a8, .ref a13, .int n0_3])), (a1, .inr (9, [.ref a2, .ref a4, .ref a5, .ref a6, .ref a7, .int (ur8.1 0), .int (ur8.1 1)])), (a2, .inr (0, [.ref a3, .int (ur8.1 2)])), (a3, .inl (ct 0, 8, .inl (ur8.2.1 0))), (a4, .inl (ct 0, 8, .inl (ur8.2.1 1))), (a5, .inl (ct 0, 8, .inl (ur8.2.1 2))), (a6, .inl (ct 0, 8, .inl (ur8.2.1 3))), (a7, .inl (ct 0, 8, .inl (ur8.2.1 4))), (a8, .inr (2, [.ref a1, .ref a9, .ref a11, .ref a12, .int n8_4, .int n8_5, .int n8_6, .int n8_7])), (a9, .inr (0, [.ref a10, .int n9_1])), (a10, .inl (ct 0, 8, .inl f10)), (a11, .inl (ct 0, 8, .inl f11)), (a12, .inl (ct 0, 8, .inl f12)), (a13, .inl (ct 0, 40, .inl f13)), (a14, .inr (4, [.ref a15, .ref a22, .ref a27, .int n14_3])), (a15, .inr (9, [.ref a16, .ref a18, .ref a19, .ref a20, .ref a21, .int n15_5, .int n15_6])), (a16, .inr (0, [.ref a17, .int n16_1])), (a17, .inl (ct 0, 8, .inl f17)), (a18, .inl (ct 0, 8, .inl f18)), (a19, .inl (ct 0, 8, .inl f19)), (a20, .inl (ct 0, 8, .inl f20)), (a21, .inl (ct 0, 8, .inl f21)), (a27, .inl (ct 0, 40, .inl f27))] := hD.sub [0, 9, 10, 11, 12, 13, 14, 15, 1, 2, 3, 4, 5, 6, 7, 16, 17, 18, 19, 20, 21, 22, 8] (by decide) rfl
  obtain ⟨p_1, -⟩ := wr8
  refine lv_aload_n hx hb dX4_copyOf_11 rfl (lv_at hl 1 rfl) ?_
  refine va_get (D := G) (ci := 4) (v := .ref a27) (C := RX4) (T := TX4) (N := 4) hx hb hts (by decide +kernel) hown hK.1 hP 14 rfl rfl 2 (by decide) (hts (.fieldLink RX4 27 "CardHolder$Play" "log" "[I") (by decide +kernel)) (fun _ h9 => h9) rfl dX4_copyOf_12 ?_
  refine lv_iconst (v := 0) hx hb dX4_copyOf_15 (by decide) ?_
  refine lv_aload_n hx hb dX4_copyOf_16 rfl (lv_at hl 0 rfl) ?_
  refine va_get (D := G) (ci := 4) (v := .ref a13) (C := RX4) (T := TX4) (N := 4) hx hb hts (by decide +kernel) hown hK.1 hP 0 rfl rfl 2 (by decide) (hts (.fieldLink RX4 27 "CardHolder$Play" "log" "[I") (by decide +kernel)) (fun _ h9 => h9) rfl dX4_copyOf_17 ?_
  refine lv_iconst (v := 0) hx hb dX4_copyOf_20 (by decide) ?_
  refine lv_bipush (v := 40) hx hb dX4_copyOf_21 (by decide) ?_
  refine va_copyi (ty := .int) hx hb (hml.trans hl.1.symm) hown (hts (.methodLink RX4 38 arraycopyName) (by decide +kernel)) (hts (.native arraycopyName) (by decide +kernel)) (hts (.static arraycopyName) (by decide +kernel)) (hts (.initialized "java/lang/System") (by decide +kernel)) hK.1 hP hD hS 22 13 0 0 rfl rfl rfl rfl rfl (by decide) (by decide) (by decide) (by decide) (by decide) (fun _ _ => rfl) (Nat.le_of_ble_eq_true rfl) (Nat.le_of_ble_eq_true rfl) dX4_copyOf_23 (fun H locs hP hD hS => ?_)
  refine lv_aload_n hx hb dX4_copyOf_26 rfl (lv_at hl 0 rfl) ?_
  refine lv_aload_n hx hb dX4_copyOf_27 rfl (lv_at hl 1 rfl) ?_
  refine va_get (D := G) (ci := 4) (v := .int n14_3) (C := RX4) (T := TX4) (N := 4) hx hb hts (by decide +kernel) hown hK.1 hP 14 rfl rfl 3 (by decide) (hts (.fieldLink RX4 44 "CardHolder$Play" "acts" "I") (by decide +kernel)) (fun _ h9 => h9) rfl dX4_copyOf_28 ?_
  refine wj_callv (wr := [(a4, .inl (ct 0, 8, .inl (ur8.2.1 1))), (a5, .inl (ct 0, 8, .inl (ur8.2.1 2))), (a6, .inl (ct 0, 8, .inl (ur8.2.1 3))), (a14, .inr (4, [.ref a15, .ref a22, .ref a27, .int n14_3])), (a15, .inr (9, [.ref a16, .ref a18, .ref a19, .ref a20, .ref a21, .int n15_5, .int n15_6])), (a16, .inr (0, [.ref a17, .int n16_1])), (a17, .inl (ct 0, 8, .inl f17)), (a18, .inl (ct 0, 8, .inl f18)), (a19, .inl (ct 0, 8, .inl f19)), (a20, .inl (ct 0, 8, .inl f20)), (a21, .inl (ct 0, 8, .inl f21)), (a27, .inl (ct 0, 40, .inl f27))]) (w1 := (fun u : SU => [(a0, .inr (4, [.ref a1, .ref a8, .ref a13, .int (u.1 0)])), (a1, .inr (9, [.ref a2, .ref a4, .ref a5, .ref a6, .ref a7, .int (ur8.1 0), .int (ur8.1 1)])), (a2, .inr (0, [.ref a3, .int (ur8.1 2)])), (a3, .inl (ct 0, 8, .inl (ur8.2.1 0))), (a7, .inl (ct 0, 8, .inl (ur8.2.1 4))), (a8, .inr (2, [.ref a1, .ref a9, .ref a11, .ref a12, .int (u.1 1), .int (u.1 2), .int (u.1 3), .int (u.1 4)])), (a9, .inr (0, [.ref a10, .int (u.1 5)])), (a10, .inl (ct 0, 8, .inl (u.2.1 0))), (a11, .inl (ct 0, 8, .inl (u.2.1 1))), (a12, .inl (ct 0, 8, .inl (u.2.1 2))), (a13, .inl (ct 0, 40, .inl (va_cpy f27 f13 (0 : Int32).toNatClampNeg (0 : Int32).toNatClampNeg (40 : Int32).toNatClampNeg)))])) (va_runV (As := [.int n14_3]) (rest := []) ⟨hx, hb, hml, hown, hts⟩ (a_X4_replay l G ct a0 a1 a8 a13 n0_3 a2 a4 a5 a6 a7 (ur8.1 0) (ur8.1 1) a3 (ur8.1 2) (ur8.2.1 0) (ur8.2.1 4) a9 a11 a12 n8_4 n8_5 n8_6 n8_7 a10 n9_1 f10 f11 f12 (va_cpy f27 f13 (0 : Int32).toNatClampNeg (0 : Int32).toNatClampNeg (40 : Int32).toNatClampNeg) n14_3 p_1 hp_n9_1) (cwV 1 hts gX4_copyOf_X4_replay rfl rfl rfl (by decide +kernel) ⟨Nat.le_of_ble_eq_true rfl, Nat.le_of_ble_eq_true rfl⟩) (wr_preV 4 0 hK (hP.sub [0, 1, 2, 3, 7, 8, 9, 10, 11, 12, 13] rfl) (hD.sub [0, 1, 2, 3, 7, 8, 9, 10, 11, 12, 13] (by decide) rfl) rfl rfl) rfl rfl hl.1 rfl (lv_room (Nat.le_of_ble_eq_true rfl)) dX4_copyOf_31 ⟨Nat.zero_le _, Nat.zero_le _⟩) hS hP hD [0, 1, 2, 3, 7, 8, 9, 10, 11, 12, 13] [4, 5, 6, 14, 15, 16, 17, 18, 19, 20, 21, 22] rfl rfl (by decide) (fun _ => rfl) (fun ur31 H locs wr31 hP hD hS => ?_)
  have hP : va_P G vwCl [(a0, .inr (4, [.ref a1, .ref a8, .ref a13, .int (ur31.1 0)])), (a1, .inr (9, [.ref a2, .ref a4, .ref a5, .ref a6, .ref a7, .int (ur8.1 0), .int (ur8.1 1)])), (a2, .inr (0, [.ref a3, .int (ur8.1 2)])), (a3, .inl (ct 0, 8, .inl (ur8.2.1 0))), (a4, .inl (ct 0, 8, .inl (ur8.2.1 1))), (a5, .inl (ct 0, 8, .inl (ur8.2.1 2))), (a6, .inl (ct 0, 8, .inl (ur8.2.1 3))), (a7, .inl (ct 0, 8, .inl (ur8.2.1 4))), (a8, .inr (2, [.ref a1, .ref a9, .ref a11, .ref a12, .int (ur31.1 1), .int (ur31.1 2), .int (ur31.1 3), .int (ur31.1 4)])), (a9, .inr (0, [.ref a10, .int (ur31.1 5)])), (a10, .inl (ct 0, 8, .inl (ur31.2.1 0))), (a11, .inl (ct 0, 8, .inl (ur31.2.1 1))), (a12, .inl (ct 0, 8, .inl (ur31.2.1 2))), (a13, .inl (ct 0, 40, .inl (va_cpy f27 f13 (0 : Int32).toNatClampNeg (0 : Int32).toNatClampNeg (40 : Int32).toNatClampNeg))), (a14, .inr (4, [.ref a15, .ref a22, .ref a27, .int n14_3])), (a15, .inr (9, [.ref a16, .ref a18, .ref a19, .ref a20, .ref a21, .int n15_5, .int n15_6])), (a16, .inr (0, [.ref a17, .int n16_1])), (a17, .inl (ct 0, 8, .inl f17)), (a18, .inl (ct 0, 8, .inl f18)), (a19, .inl (ct 0, 8, .inl f19)), (a20, .inl (ct 0, 8, .inl f20)), (a21, .inl (ct 0, 8, .inl f21)), (a27, .inl (ct 0, 40, .inl f27))] H := hP.sub [12, 13, 14, 15, 0, 1, 2, 16, 17, 18, 19, 20, 21, 22, 3, 4, 5, 6, 7, 8, 9, 10, 11] rfl
  have hD : va_D A [(a0, .inr (4, [.ref a1, .ref a8, .ref a13, .int (ur31.1 0)])), (a1, .inr (9, [.ref a2, .ref a4, .ref a5, .ref a6, .ref a7, .int (ur8.1 0), .int (ur8.1 1)])), (a2, .inr (0, [.ref a3, .int (ur8.1 2)])), (a3, .inl (ct 0, 8, .inl (ur8.2.1 0))), (a4, .inl (ct 0, 8, .inl (ur8.2.1 1))), (a5, .inl (ct 0, 8, .inl (ur8.2.1 2))), (a6, .inl (ct 0, 8, .inl (ur8.2.1 3))), (a7, .inl (ct 0, 8, .inl (ur8.2.1 4))), (a8, .inr (2, [.ref a1, .ref a9, .ref a11, .ref a12, .int (ur31.1 1), .int (ur31.1 2), .int (ur31.1 3), .int (ur31.1 4)])), (a9, .inr (0, [.ref a10, .int (ur31.1 5)])), (a10, .inl (ct 0, 8, .inl (ur31.2.1 0))), (a11, .inl (ct 0, 8, .inl (ur31.2.1 1))), (a12, .inl (ct 0, 8, .inl (ur31.2.1 2))), (a13, .inl (ct 0, 40, .inl (va_cpy f27 f13 (0 : Int32).toNatClampNeg (0 : Int32).toNatClampNeg (40 : Int32).toNatClampNeg))), (a14, .inr (4, [.ref a15, .ref a22, .ref a27, .int n14_3])), (a15, .inr (9, [.ref a16, .ref a18, .ref a19, .ref a20, .ref a21, .int n15_5, .int n15_6])), (a16, .inr (0, [.ref a17, .int n16_1])), (a17, .inl (ct 0, 8, .inl f17)), (a18, .inl (ct 0, 8, .inl f18)), (a19, .inl (ct 0, 8, .inl f19)), (a20, .inl (ct 0, 8, .inl f20)), (a21, .inl (ct 0, 8, .inl f21)), (a27, .inl (ct 0, 40, .inl f27))] := hD.sub [12, 13, 14, 15, 0, 1, 2, 16, 17, 18, 19, 20, 21, 22, 3, 4, 5, 6, 7, 8, 9, 10, 11] (by decide) rfl
  obtain ⟨p_2, -⟩ := wr31
  exact W.vret hx hb hr (fun t ht hW => ⟨⟨(fun k => ([ur31.1 0, ur8.1 0, ur8.1 1, ur8.1 2, ur31.1 1, ur31.1 2, ur31.1 3, ur31.1 4, ur31.1 5] : List Int32).getD k 0, fun k => ([ur8.2.1 0, ur8.2.1 1, ur8.2.1 2, ur8.2.1 3, ur8.2.1 4, ur31.2.1 0, ur31.2.1 1, ur31.2.1 2, va_cpy f27 f13 (0 : Int32).toNatClampNeg (0 : Int32).toNatClampNeg (40 : Int32).toNatClampNeg] : List (Nat → Int32)).getD k (fun _ => 0), fun k => ([] : List (Nat → Int64)).getD k (fun _ => 0)), rfl, ⟨p_1, p_2, trivial⟩, hp_at ht hP⟩, hS.F ht⟩) hS.2.2 dX4_copyOf_34

set_option maxHeartbeats 4000000 in
set_option maxRecDepth 100000 in
theorem a_X4_hasRoom (l : Launch) (G : va_G) (ct : Nat → ClassId) (a0 : Nat) (a1 : Nat) (a8 : Nat) (a13 : Nat) (n0_3 : Int32)  : Met l yX4_hasRoom wsX4_hasRoom ({ frames := 0, cells := 0, slots := 0, locals := 0 }) (va_Pc [.ref a0] (roP G ct [(a0, .inr (4, [.ref a1, .ref a8, .ref a13, .int n0_3]))])) (roQ (fun r => rg 0 1 r ∧ (¬ r = 0 → rg (-2147483648) 39 n0_3) ∧ (r = 0 → rg 40 2147483647 n0_3) ∧ True)) 0 0 no := by
  refine Met.ofW (cc := cX4_hasRoom) (maxL := 1) (ret := (some .boolean)) (by decide) rfl ?_
  intro p e s m args below meth c s₁ B hml hv
  obtain ⟨rfl, hP, hK⟩ := hv
  have hx := B.exec
  have hb := B.bytes
  have hr := B.returns
  have hts := atoms_spec (ws := wsX4_hasRoom) B.pre
  have hown : s.vm.findClass RX4 = some m.cls := findClass_of_methodNamed B.named
  have hlocks := B.notSynchronized
  have hS : va_S no s.heap s.heap [] := va_S.rf
  have hl := lv_entry ([.ref a0]) (n := 1) (Nat.le_of_ble_eq_true rfl)
  rw [lg_entry_eq]
  generalize (lg_sl ([.ref a0]) ++ List.replicate (1 - (lg_sl ([.ref a0])).length) Slot.unset).toArray = ls at hl ⊢
  have hl : lv_has ls 1 [(0, .ref a0)] := hl
  refine lv_aload_n hx hb dX4_hasRoom_0 rfl (lv_at hl 0 rfl) ?_
  refine va_get (D := G) (ci := 4) (v := .int n0_3) (C := RX4) (T := TX4) (N := 4) hx hb hts (by decide +kernel) hown hK.1 hP 0 rfl rfl 3 (by decide) (hts (.fieldLink RX4 44 "CardHolder$Play" "acts" "I") (by decide +kernel)) (fun _ h9 => h9) rfl dX4_hasRoom_1 ?_
  refine lv_bipush (v := 40) hx hb dX4_hasRoom_4 (by decide) ?_
  refine lv_icmp_ge (tgt := 13) hx hb dX4_hasRoom_6 (by decide) (fun c6 => ?_) (fun c6 => ?_)
  · have h_1 : rg 40 2147483647 n0_3 := r_le_r_i c6 (rgn 40 (x := 40) (by decide)) (rg_t n0_3)
    refine lv_iconst (v := 0) hx hb dX4_hasRoom_13 (by decide) ?_
    exact W.zret (v := 0) (ty := .boolean) hx hb hr (rfl) (fun t ht hW => ⟨⟨0, (), rfl, ⟨(rg_w (c := 0) (d := 1) (rgn 0 (x := 0) (by decide)) (by decide)), (fun hq => absurd (req (rgn 0 (x := 0) (by decide)) (y := 0) (by decide)) hq), (fun _ => h_1), trivial⟩, trivial⟩, hS.F ht⟩) hS.2.2 dX4_hasRoom_14
  · have h_2 : rg (-2147483648) 39 n0_3 := r_lt_l_i (nle_i c6) (rg_t n0_3) (rgn 40 (x := 40) (by decide)) (by decide)
    refine lv_iconst (v := 1) hx hb dX4_hasRoom_9 (by decide) ?_
    refine lv_goto (tgt := 14) hx hb dX4_hasRoom_10 (by decide) ?_
    exact W.zret (v := 1) (ty := .boolean) hx hb hr (rfl) (fun t ht hW => ⟨⟨1, (), rfl, ⟨(rg_w (c := 0) (d := 1) (rgn 1 (x := 1) (by decide)) (by decide)), (fun _ => h_2), (fun hq => absurd hq (rne (rgn 1 (x := 1) (by decide)) (y := 0) (c := 0) (by decide) (by decide))), trivial⟩, trivial⟩, hS.F ht⟩) hS.2.2 dX4_hasRoom_14

set_option maxHeartbeats 4000000 in
set_option maxRecDepth 100000 in
theorem a_X4_act (l : Launch) (G : va_G) (ct : Nat → ClassId) (a0 : Nat) (a1 : Nat) (a8 : Nat) (a13 : Nat) (n0_3 : Int32) (a2 : Nat) (a4 : Nat) (a5 : Nat) (a6 : Nat) (a7 : Nat) (n1_5 : Int32) (n1_6 : Int32) (a3 : Nat) (n2_1 : Int32) (f7 : Nat → Int32) (a9 : Nat) (a11 : Nat) (a12 : Nat) (n8_4 : Int32) (n8_5 : Int32) (n8_6 : Int32) (n8_7 : Int32) (a10 : Nat) (n9_1 : Int32) (f10 : Nat → Int32) (f11 : Nat → Int32) (f12 : Nat → Int32) (f13 : Nat → Int32) (p0 : Int32) (p1 : Int32) (p2 : Int32) (p3 : Int32) (p4 : Int32) (hp_n2_1 : rg 0 8 n2_1) (hp_n9_1 : rg 0 8 n9_1) : Met l yX4_act wsX4_act ({ frames := 4, cells := 0, slots := 0, locals := 89 }) (va_Pc [.ref a0, .int p0, .int p1, .int p2, .int p3, .int p4] (wrP G ct [(a0, .inr (4, [.ref a1, .ref a8, .ref a13, .int n0_3])), (a1, .inr (9, [.ref a2, .ref a4, .ref a5, .ref a6, .ref a7, .int n1_5, .int n1_6])), (a2, .inr (0, [.ref a3, .int n2_1])), (a7, .inl (ct 0, 8, .inl f7)), (a8, .inr (2, [.ref a1, .ref a9, .ref a11, .ref a12, .int n8_4, .int n8_5, .int n8_6, .int n8_7])), (a9, .inr (0, [.ref a10, .int n9_1])), (a10, .inl (ct 0, 8, .inl f10)), (a11, .inl (ct 0, 8, .inl f11)), (a12, .inl (ct 0, 8, .inl f12)), (a13, .inl (ct 0, 40, .inl f13))])) (va_Qv (fun u : SU => True) (fun u t => va_P G vwCl ((fun u : SU => [(a0, .inr (4, [.ref a1, .ref a8, .ref a13, .int (u.1 0)])), (a1, .inr (9, [.ref a2, .ref a4, .ref a5, .ref a6, .ref a7, .int n1_5, .int n1_6])), (a2, .inr (0, [.ref a3, .int n2_1])), (a7, .inl (ct 0, 8, .inl f7)), (a8, .inr (2, [.ref a1, .ref a9, .ref a11, .ref a12, .int (u.1 1), .int (u.1 2), .int (u.1 3), .int (u.1 4)])), (a9, .inr (0, [.ref a10, .int n9_1])), (a10, .inl (ct 0, 8, .inl (u.2.1 0))), (a11, .inl (ct 0, 8, .inl (u.2.1 1))), (a12, .inl (ct 0, 8, .inl (u.2.1 2))), (a13, .inl (ct 0, 40, .inl (u.2.1 3)))]) u) t.heap) (aset [(a0, .inr (4, [.ref a1, .ref a8, .ref a13, .int n0_3])), (a1, .inr (9, [.ref a2, .ref a4, .ref a5, .ref a6, .ref a7, .int n1_5, .int n1_6])), (a2, .inr (0, [.ref a3, .int n2_1])), (a7, .inl (ct 0, 8, .inl f7)), (a8, .inr (2, [.ref a1, .ref a9, .ref a11, .ref a12, .int n8_4, .int n8_5, .int n8_6, .int n8_7])), (a9, .inr (0, [.ref a10, .int n9_1])), (a10, .inl (ct 0, 8, .inl f10)), (a11, .inl (ct 0, 8, .inl f11)), (a12, .inl (ct 0, 8, .inl f12)), (a13, .inl (ct 0, 40, .inl f13))])) 0 0 (aset [(a0, .inr (4, [.ref a1, .ref a8, .ref a13, .int n0_3])), (a1, .inr (9, [.ref a2, .ref a4, .ref a5, .ref a6, .ref a7, .int n1_5, .int n1_6])), (a2, .inr (0, [.ref a3, .int n2_1])), (a7, .inl (ct 0, 8, .inl f7)), (a8, .inr (2, [.ref a1, .ref a9, .ref a11, .ref a12, .int n8_4, .int n8_5, .int n8_6, .int n8_7])), (a9, .inr (0, [.ref a10, .int n9_1])), (a10, .inl (ct 0, 8, .inl f10)), (a11, .inl (ct 0, 8, .inl f11)), (a12, .inl (ct 0, 8, .inl f12)), (a13, .inl (ct 0, 40, .inl f13))]) := by
  refine Met.ofW (cc := cX4_act) (maxL := 6) (ret := none) (by decide) rfl ?_
  intro p e s m args below meth c s₁ B hml hv
  obtain ⟨rfl, hP, hK, hD0⟩ := hv
  have hx := B.exec
  have hb := B.bytes
  have hr := B.returns
  have hts := atoms_spec (ws := wsX4_act) B.pre
  have hown : s.vm.findClass RX4 = some m.cls := findClass_of_methodNamed B.named
  have hlocks := B.notSynchronized
  have hD := hD0.aself
  generalize hAe : aset [(a0, .inr (4, [.ref a1, .ref a8, .ref a13, .int n0_3])), (a1, .inr (9, [.ref a2, .ref a4, .ref a5, .ref a6, .ref a7, .int n1_5, .int n1_6])), (a2, .inr (0, [.ref a3, .int n2_1])), (a7, .inl (ct 0, 8, .inl f7)), (a8, .inr (2, [.ref a1, .ref a9, .ref a11, .ref a12, .int n8_4, .int n8_5, .int n8_6, .int n8_7])), (a9, .inr (0, [.ref a10, .int n9_1])), (a10, .inl (ct 0, 8, .inl f10)), (a11, .inl (ct 0, 8, .inl f11)), (a12, .inl (ct 0, 8, .inl f12)), (a13, .inl (ct 0, 40, .inl f13))] = A at hD ⊢
  have hS : va_S A s.heap s.heap [] := va_S.rf
  have hl := lv_entry ([.ref a0, .int p0, .int p1, .int p2, .int p3, .int p4]) (n := 6) (Nat.le_of_ble_eq_true rfl)
  rw [lg_entry_eq]
  generalize (lg_sl ([.ref a0, .int p0, .int p1, .int p2, .int p3, .int p4]) ++ List.replicate (6 - (lg_sl ([.ref a0, .int p0, .int p1, .int p2, .int p3, .int p4])).length) Slot.unset).toArray = ls at hl ⊢
  have hl : lv_has ls 6 [(0, .ref a0), (1, .int p0), (2, .int p1), (3, .int p2), (4, .int p3), (5, .int p4)] := hl
  refine lv_aload_n hx hb dX4_act_0 rfl (lv_at hl 0 rfl) ?_
  refine va_get (D := G) (ci := 4) (v := .int n0_3) (C := RX4) (T := TX4) (N := 4) hx hb hts (by decide +kernel) hown hK.1 hP 0 rfl rfl 3 (by decide) (hts (.fieldLink RX4 44 "CardHolder$Play" "acts" "I") (by decide +kernel)) (fun _ h9 => h9) rfl dX4_act_1 ?_
  refine lv_if_lt (tgt := 16) hx hb dX4_act_4 (by decide) (fun c4 => ?_) (fun c4 => ?_)
  · have h_1 : rg (-2147483648) (-1) n0_3 := r_lt_l_i c4 (rg_t n0_3) (rgn 0 (x := 0) (by decide)) (by decide)
    exact W.vret hx hb hr (fun t ht hW => ⟨⟨(fun k => ([n0_3, n8_4, n8_5, n8_6, n8_7] : List Int32).getD k 0, fun k => ([f10, f11, f12, f13] : List (Nat → Int32)).getD k (fun _ => 0), fun k => ([] : List (Nat → Int64)).getD k (fun _ => 0)), rfl, trivial, hp_at ht hP⟩, hS.F ht⟩) hS.2.2 dX4_act_16
  · have h_2 : rg 0 2147483647 n0_3 := r_le_r_i (nlt_i c4) (rgn 0 (x := 0) (by decide)) (rg_t n0_3)
    refine lv_aload_n hx hb dX4_act_7 rfl (lv_at hl 0 rfl) ?_
    refine va_get (D := G) (ci := 4) (v := .int n0_3) (C := RX4) (T := TX4) (N := 4) hx hb hts (by decide +kernel) hown hK.1 hP 0 rfl rfl 3 (by decide) (hts (.fieldLink RX4 44 "CardHolder$Play" "acts" "I") (by decide +kernel)) (fun _ h9 => h9) rfl dX4_act_8 ?_
    refine lv_bipush (v := 40) hx hb dX4_act_11 (by decide) ?_
    refine lv_icmp_lt (tgt := 17) hx hb dX4_act_13 (by decide) (fun c13 => ?_) (fun c13 => ?_)
    · have h_3 : rg 0 39 n0_3 := r_lt_l_i c13 h_2 (rgn 40 (x := 40) (by decide)) (by decide)
      refine lv_aload_n hx hb dX4_act_17 rfl (lv_at hl 0 rfl) ?_
      refine va_get (D := G) (ci := 4) (v := .ref a13) (C := RX4) (T := TX4) (N := 4) hx hb hts (by decide +kernel) hown hK.1 hP 0 rfl rfl 2 (by decide) (hts (.fieldLink RX4 27 "CardHolder$Play" "log" "[I") (by decide +kernel)) (fun _ h9 => h9) rfl dX4_act_18 ?_
      refine lv_aload_n hx hb dX4_act_21 rfl (lv_at hl 0 rfl) ?_
      refine va_get (D := G) (ci := 4) (v := .int n0_3) (C := RX4) (T := TX4) (N := 4) hx hb hts (by decide +kernel) hown hK.1 hP 0 rfl rfl 3 (by decide) (hts (.fieldLink RX4 44 "CardHolder$Play" "acts" "I") (by decide +kernel)) (fun _ h9 => h9) rfl dX4_act_22 ?_
      refine lv_iload_n hx hb dX4_act_25 rfl (lv_at hl 1 rfl) ?_
      refine lv_iload_n hx hb dX4_act_26 rfl (lv_at hl 2 rfl) ?_
      refine lv_iconst (v := 3) hx hb dX4_act_27 (by decide) ?_
      refine lv_ishl hx hb dX4_act_28 ?_
      refine nm_0 (fun z28 => ?_)
      refine lv_ior hx hb dX4_act_29 ?_
      refine nm_0 (fun z29 => ?_)
      refine lv_iload_n hx hb dX4_act_30 rfl (lv_at hl 3 rfl) ?_
      refine lv_bipush (v := 6) hx hb dX4_act_31 (by decide) ?_
      refine lv_ishl hx hb dX4_act_33 ?_
      refine nm_0 (fun z33 => ?_)
      refine lv_ior hx hb dX4_act_34 ?_
      refine nm_0 (fun z34 => ?_)
      refine lv_iload hx hb dX4_act_35 (lv_at hl 4 rfl) ?_
      refine lv_bipush (v := 9) hx hb dX4_act_37 (by decide) ?_
      refine lv_ishl hx hb dX4_act_39 ?_
      refine nm_0 (fun z39 => ?_)
      refine lv_ior hx hb dX4_act_40 ?_
      refine nm_0 (fun z40 => ?_)
      refine lv_iload hx hb dX4_act_41 (lv_at hl 5 rfl) ?_
      refine lv_bipush (v := 12) hx hb dX4_act_43 (by decide) ?_
      refine lv_ishl hx hb dX4_act_45 ?_
      refine nm_0 (fun z45 => ?_)
      refine lv_ior hx hb dX4_act_46 ?_
      refine nm_0 (fun z46 => ?_)
      refine va_iast hx hb hK.1 hP hD hS 9 0 rfl rfl (in_rg h_3 (by decide)) dX4_act_47 (fun H locs hP hD hS => ?_)
      refine lv_aload_n hx hb dX4_act_48 rfl (lv_at hl 0 rfl) ?_
      refine lv_aload_n hx hb dX4_act_49 rfl (lv_at hl 0 rfl) ?_
      refine va_get (D := G) (ci := 4) (v := .ref a13) (C := RX4) (T := TX4) (N := 4) hx hb hts (by decide +kernel) hown hK.1 hP 0 rfl rfl 2 (by decide) (hts (.fieldLink RX4 27 "CardHolder$Play" "log" "[I") (by decide +kernel)) (fun _ h9 => h9) rfl dX4_act_50 ?_
      refine lv_aload_n hx hb dX4_act_53 rfl (lv_at hl 0 rfl) ?_
      refine va_get (D := G) (ci := 4) (v := .int n0_3) (C := RX4) (T := TX4) (N := 4) hx hb hts (by decide +kernel) hown hK.1 hP 0 rfl rfl 3 (by decide) (hts (.fieldLink RX4 44 "CardHolder$Play" "acts" "I") (by decide +kernel)) (fun _ h9 => h9) rfl dX4_act_54 ?_
      refine va_iald hx hb hK.1 hP 9 0 rfl rfl (in_rg h_3 (by decide)) dX4_act_57 ?_
      refine lv_topi (fun z57 gz57 => ?_)
      refine wj_callv (wr := [(a13, .inl (ct 0, 40, .inl (upd f13 n0_3.toNatClampNeg z46)))]) (w1 := (fun u : SU => [(a0, .inr (4, [.ref a1, .ref a8, .ref a13, .int n0_3])), (a1, .inr (9, [.ref a2, .ref a4, .ref a5, .ref a6, .ref a7, .int n1_5, .int n1_6])), (a2, .inr (0, [.ref a3, .int n2_1])), (a7, .inl (ct 0, 8, .inl f7)), (a8, .inr (2, [.ref a1, .ref a9, .ref a11, .ref a12, .int (u.1 0), .int (u.1 1), .int (u.1 2), .int (u.1 3)])), (a9, .inr (0, [.ref a10, .int n9_1])), (a10, .inl (ct 0, 8, .inl (u.2.1 0))), (a11, .inl (ct 0, 8, .inl (u.2.1 1))), (a12, .inl (ct 0, 8, .inl (u.2.1 2)))])) (va_runV (As := [.int z57]) (rest := []) ⟨hx, hb, hml, hown, hts⟩ (a_X4_perform l G ct a0 a1 a8 a13 n0_3 a2 a4 a5 a6 a7 n1_5 n1_6 a3 n2_1 f7 a9 a11 a12 n8_4 n8_5 n8_6 n8_7 a10 n9_1 f10 f11 f12 z57 hp_n2_1 hp_n9_1) (cwV 1 hts gX4_act_X4_perform rfl rfl rfl (by decide +kernel) ⟨Nat.le_of_ble_eq_true rfl, Nat.le_of_ble_eq_true rfl⟩) (wr_preV 4 0 hK (hP.sub [0, 1, 2, 3, 4, 5, 6, 7, 8] rfl) (hD.sub [0, 1, 2, 3, 4, 5, 6, 7, 8] (by decide) rfl) rfl rfl) rfl rfl hl.1 rfl (lv_room (Nat.le_of_ble_eq_true rfl)) dX4_act_58 ⟨Nat.zero_le _, Nat.zero_le _⟩) hS hP hD [0, 1, 2, 3, 4, 5, 6, 7, 8] [9] rfl rfl (by decide) (fun _ => rfl) (fun ur58 H locs wr58 hP hD hS => ?_)
      have hP : va_P G vwCl [(a0, .inr (4, [.ref a1, .ref a8, .ref a13, .int n0_3])), (a1, .inr (9, [.ref a2, .ref a4, .ref a5, .ref a6, .ref a7, .int n1_5, .int n1_6])), (a2, .inr (0, [.ref a3, .int n2_1])), (a7, .inl (ct 0, 8, .inl f7)), (a8, .inr (2, [.ref a1, .ref a9, .ref a11, .ref a12, .int (ur58.1 0), .int (ur58.1 1), .int (ur58.1 2), .int (ur58.1 3)])), (a9, .inr (0, [.ref a10, .int n9_1])), (a10, .inl (ct 0, 8, .inl (ur58.2.1 0))), (a11, .inl (ct 0, 8, .inl (ur58.2.1 1))), (a12, .inl (ct 0, 8, .inl (ur58.2.1 2))), (a13, .inl (ct 0, 40, .inl (upd f13 n0_3.toNatClampNeg z46)))] H := hP.sub [1, 2, 3, 4, 5, 6, 7, 8, 9, 0] rfl
      have hD : va_D A [(a0, .inr (4, [.ref a1, .ref a8, .ref a13, .int n0_3])), (a1, .inr (9, [.ref a2, .ref a4, .ref a5, .ref a6, .ref a7, .int n1_5, .int n1_6])), (a2, .inr (0, [.ref a3, .int n2_1])), (a7, .inl (ct 0, 8, .inl f7)), (a8, .inr (2, [.ref a1, .ref a9, .ref a11, .ref a12, .int (ur58.1 0), .int (ur58.1 1), .int (ur58.1 2), .int (ur58.1 3)])), (a9, .inr (0, [.ref a10, .int n9_1])), (a10, .inl (ct 0, 8, .inl (ur58.2.1 0))), (a11, .inl (ct 0, 8, .inl (ur58.2.1 1))), (a12, .inl (ct 0, 8, .inl (ur58.2.1 2))), (a13, .inl (ct 0, 40, .inl (upd f13 n0_3.toNatClampNeg z46)))] := hD.sub [1, 2, 3, 4, 5, 6, 7, 8, 9, 0] (by decide) rfl
      refine lv_aload_n hx hb dX4_act_61 rfl (lv_at hl 0 rfl) ?_
      refine lv_dup hx hb dX4_act_62 rfl ?_
      refine va_get (D := G) (ci := 4) (v := .int n0_3) (C := RX4) (T := TX4) (N := 4) hx hb hts (by decide +kernel) hown hK.1 hP 0 rfl rfl 3 (by decide) (hts (.fieldLink RX4 44 "CardHolder$Play" "acts" "I") (by decide +kernel)) (fun _ h9 => h9) rfl dX4_act_63 ?_
      refine lv_iconst (v := 1) hx hb dX4_act_66 (by decide) ?_
      refine lv_iadd hx hb dX4_act_67 ?_
      refine nm_add (e1 := 1) (f := 40) h_3 (rgn 1 (x := 1) (by decide)) (by decide) (fun z67 hz67 ez67 => ?_)
      replace ez67 := eqc_r ez67 (c := 1) (by decide)
      refine va_put (D := G) (ci := 4) (v := .int z67) (ty := .int) (C := RX4) (T := TX4) (N := 4) hx hb hts (by decide +kernel) tyX4 tyX4_ok nmX4 hown hK.1 hP hD hS 0 rfl rfl 3 (by decide) (hts (.fieldLink RX4 44 "CardHolder$Play" "acts" "I") (by decide +kernel)) (fun _ h9 => h9) rfl (by decide +kernel) rfl rfl (Nat.le_of_ble_eq_true rfl) dX4_act_68 (fun H locs hP hD hS => ?_)
      exact W.vret hx hb hr (fun t ht hW => ⟨⟨(fun k => ([z67, ur58.1 0, ur58.1 1, ur58.1 2, ur58.1 3] : List Int32).getD k 0, fun k => ([ur58.2.1 0, ur58.2.1 1, ur58.2.1 2, upd f13 n0_3.toNatClampNeg z46] : List (Nat → Int32)).getD k (fun _ => 0), fun k => ([] : List (Nat → Int64)).getD k (fun _ => 0)), rfl, trivial, hp_at ht hP⟩, hS.F ht⟩) hS.2.2 dX4_act_71
    · have h_4 : rg 40 2147483647 n0_3 := r_le_r_i (nlt_i c13) (rgn 40 (x := 40) (by decide)) h_2
      exact W.vret hx hb hr (fun t ht hW => ⟨⟨(fun k => ([n0_3, n8_4, n8_5, n8_6, n8_7] : List Int32).getD k 0, fun k => ([f10, f11, f12, f13] : List (Nat → Int32)).getD k (fun _ => 0), fun k => ([] : List (Nat → Int64)).getD k (fun _ => 0)), rfl, trivial, hp_at ht hP⟩, hS.F ht⟩) hS.2.2 dX4_act_16

set_option maxHeartbeats 4000000 in
set_option maxRecDepth 100000 in
theorem a_X4_timeTo (l : Launch) (G : va_G) (ct : Nat → ClassId) (a0 : Nat) (a1 : Nat) (a8 : Nat) (a13 : Nat) (n0_3 : Int32) (a2 : Nat) (a4 : Nat) (a5 : Nat) (a6 : Nat) (a7 : Nat) (n1_5 : Int32) (n1_6 : Int32) (a3 : Nat) (n2_1 : Int32) (f7 : Nat → Int32) (a9 : Nat) (a11 : Nat) (a12 : Nat) (n8_4 : Int32) (n8_5 : Int32) (n8_6 : Int32) (n8_7 : Int32) (a10 : Nat) (n9_1 : Int32) (f10 : Nat → Int32) (p0 : Int32) (p1 : Int32) (hp_n2_1 : rg 0 8 n2_1) (hp_n9_1 : rg 0 8 n9_1) : Met l yX4_timeTo wsX4_timeTo ({ frames := 3, cells := 0, slots := 0, locals := 66 }) (va_Pc [.ref a0, .int p0, .int p1] (roP G ct [(a0, .inr (4, [.ref a1, .ref a8, .ref a13, .int n0_3])), (a1, .inr (9, [.ref a2, .ref a4, .ref a5, .ref a6, .ref a7, .int n1_5, .int n1_6])), (a2, .inr (0, [.ref a3, .int n2_1])), (a7, .inl (ct 0, 8, .inl f7)), (a8, .inr (2, [.ref a1, .ref a9, .ref a11, .ref a12, .int n8_4, .int n8_5, .int n8_6, .int n8_7])), (a9, .inr (0, [.ref a10, .int n9_1])), (a10, .inl (ct 0, 8, .inl f10))])) (roQ (fun r => True)) 0 0 no := by
  refine Met.ofW (cc := cX4_timeTo) (maxL := 7) (ret := (some .int)) (by decide) rfl ?_
  intro p e s m args below meth c s₁ B hml hv
  obtain ⟨rfl, hP, hK⟩ := hv
  have hx := B.exec
  have hb := B.bytes
  have hr := B.returns
  have hts := atoms_spec (ws := wsX4_timeTo) B.pre
  have hown : s.vm.findClass RX4 = some m.cls := findClass_of_methodNamed B.named
  have hlocks := B.notSynchronized
  have hS : va_S no s.heap s.heap [] := va_S.rf
  have hl := lv_entry ([.ref a0, .int p0, .int p1]) (n := 7) (Nat.le_of_ble_eq_true rfl)
  rw [lg_entry_eq]
  generalize (lg_sl ([.ref a0, .int p0, .int p1]) ++ List.replicate (7 - (lg_sl ([.ref a0, .int p0, .int p1])).length) Slot.unset).toArray = ls at hl ⊢
  have hl : lv_has ls 7 [(0, .ref a0), (1, .int p0), (2, .int p1)] := hl
  refine lv_aload_n hx hb dX4_timeTo_0 rfl (lv_at hl 0 rfl) ?_
  refine va_get (D := G) (ci := 4) (v := .ref a8) (C := RX4) (T := TX4) (N := 4) hx hb hts (by decide +kernel) hown hK.1 hP 0 rfl rfl 1 (by decide) (hts (.fieldLink RX4 23 "CardHolder$Play" "hands" "LCardHolder$Hands;") (by decide +kernel)) (fun _ h9 => h9) rfl dX4_timeTo_1 ?_
  refine va_get (D := G) (ci := 2) (v := .ref a9) (C := RX2) (T := TX2) (N := 8) hx hb hts (by decide +kernel) hown hK.1 hP 4 rfl rfl 1 (by decide) (hts (.fieldLink RX4 60 "CardHolder$Hands" "bonds" "LCardHolder$Bonds;") (by decide +kernel)) (fun _ h9 => h9) rfl dX4_timeTo_4 ?_
  refine lv_iload_n hx hb dX4_timeTo_7 rfl (lv_at hl 1 rfl) ?_
  refine lv_iload_n hx hb dX4_timeTo_8 rfl (lv_at hl 2 rfl) ?_
  refine ro_calli (va_runV (As := [.int p0, .int p1]) (rest := []) ⟨hx, hb, hml, hown, hts⟩ (a_X0_stepsTo l G ct a9 a10 n9_1 f10 p0 p1 hp_n9_1) (cwV 2 hts gX4_timeTo_X0_stepsTo rfl rfl rfl (by decide +kernel) ⟨Nat.le_of_ble_eq_true rfl, Nat.le_of_ble_eq_true rfl⟩) (ro_preV 0 0 hK (hP.sub [5, 6] rfl) rfl rfl) rfl rfl hl.1 rfl (lv_room (Nat.le_of_ble_eq_true rfl)) dX4_timeTo_9 ⟨Nat.zero_le _, Nat.zero_le _⟩) hS hP (fun r9 H locs wr9 hP hS => ?_)
  obtain ⟨p_1, -⟩ := wr9
  refine lv_istore_n (lv' := [(3, .int r9), (0, .ref a0), (1, .int p0), (2, .int p1)]) hx hb dX4_timeTo_12 rfl hl (by decide) rfl (fun ls hl => ?_)
  refine lv_iload_n hx hb dX4_timeTo_13 rfl (lv_at hl 0 rfl) ?_
  refine lv_iconst (v := (-1)) hx hb dX4_timeTo_14 (by decide) ?_
  refine lv_icmp_ne (tgt := 20) hx hb dX4_timeTo_15 (by decide) (fun c15 => ?_) (fun c15 => ?_)
  · have h_2 : rg 0 8 r9 := r_ne_lo_i c15 p_1 (by decide) (by decide)
    refine lv_iload_n hx hb dX4_timeTo_20 rfl (lv_at hl 0 rfl) ?_
    refine lv_istore (lv' := [(4, .int r9), (3, .int r9), (0, .ref a0), (1, .int p0), (2, .int p1)]) hx hb dX4_timeTo_21 hl (by decide) rfl (fun ls hl => ?_)
    refine lv_iload_n hx hb dX4_timeTo_23 rfl (lv_at hl 4 rfl) ?_
    refine lv_istore (lv' := [(5, .int p1), (4, .int r9), (3, .int r9), (0, .ref a0), (1, .int p0), (2, .int p1)]) hx hb dX4_timeTo_24 hl (by decide) rfl (fun ls hl => ?_)
    refine lv_iconst (v := 0) hx hb dX4_timeTo_26 (by decide) ?_
    refine lv_istore (lv' := [(6, .int 0), (5, .int p1), (4, .int r9), (3, .int r9), (0, .ref a0), (1, .int p0), (2, .int p1)]) hx hb dX4_timeTo_27 hl (by decide) rfl (fun ls hl => ?_)
    have j29 : ∀ (n : Nat) (x29_4 : Int32) (x29_5 : Int32) (x29_6 : Int32) (H : Heap) (locs : List Loc) (ls : Array Slot), 2147483648 ≤ x29_6.toInt + (n : Int) → rg 0 8 x29_6 → va_P G vwCl [(a0, .inr (4, [.ref a1, .ref a8, .ref a13, .int n0_3])), (a1, .inr (9, [.ref a2, .ref a4, .ref a5, .ref a6, .ref a7, .int n1_5, .int n1_6])), (a2, .inr (0, [.ref a3, .int n2_1])), (a7, .inl (ct 0, 8, .inl f7)), (a8, .inr (2, [.ref a1, .ref a9, .ref a11, .ref a12, .int n8_4, .int n8_5, .int n8_6, .int n8_7])), (a9, .inr (0, [.ref a10, .int n9_1])), (a10, .inl (ct 0, 8, .inl f10))] H → va_S no s.heap H locs → lv_has ls 7 [(0, .ref a0), (1, .int p0), (2, .int p1), (3, .int r9), (4, .int x29_4), (5, .int x29_5), (6, .int x29_6)] → W p l e (headSpec wsX4_timeTo ({ frames := 3, cells := 0, slots := 0, locals := 66 })).room s m ([.ref a0, .int p0, .int p1] : List Value).toArray below meth c H locs 0 0 (MQ below (roQ (fun r => True)) ([.ref a0, .int p0, .int p1] : List Value).toArray s 0 0 no) (F0 m 29 ls []) := by
      intro n
      induction n with
      | zero => intro x29_4 x29_5 x29_6 H locs ls hn29 hx29_6 hP hS hl; exact absurd hn29 (by have := Int32.toInt_lt x29_6; have := Int32.le_toInt x29_6; omega)
      | succ n ih29 =>
        intro x29_4 x29_5 x29_6 H locs ls hn29 hx29_6 hP hS hl
        refine lv_iload hx hb dX4_timeTo_29 (lv_at hl 6 rfl) ?_
        refine lv_iload_n hx hb dX4_timeTo_31 rfl (lv_at hl 3 rfl) ?_
        refine lv_icmp_ge (tgt := 69) hx hb dX4_timeTo_32 (by decide) (fun c32 => ?_) (fun c32 => ?_)
        · refine lv_iload hx hb dX4_timeTo_69 (lv_at hl 4 rfl) ?_
          exact W.iret (v := x29_4) hx hb hr (fun t ht hW => ⟨⟨x29_4, (), rfl, trivial, trivial⟩, hS.F ht⟩) hS.2.2 dX4_timeTo_71
        · have h_3 : rg 0 7 x29_6 := r_lt_l_i (nle_i c32) hx29_6 h_2 (by decide)
          have h_4 : rg 1 8 r9 := r_lt_r_i (nle_i c32) hx29_6 h_2 (by decide)
          refine lv_iload hx hb dX4_timeTo_35 (lv_at hl 4 rfl) ?_
          refine lv_aload_n hx hb dX4_timeTo_37 rfl (lv_at hl 0 rfl) ?_
          refine va_get (D := G) (ci := 4) (v := .ref a1) (C := RX4) (T := TX4) (N := 4) hx hb hts (by decide +kernel) hown hK.1 hP 0 rfl rfl 0 (by decide) (hts (.fieldLink RX4 12 "CardHolder$Play" "town" "LCardHolder$Town;") (by decide +kernel)) (fun _ h9 => h9) rfl dX4_timeTo_38 ?_
          refine lv_iload hx hb dX4_timeTo_41 (lv_at hl 5 rfl) ?_
          refine ro_calli (va_runV (As := [.int x29_5]) (rest := [.int x29_4]) ⟨hx, hb, hml, hown, hts⟩ (a_X9_forgedOf l G ct a1 a2 a4 a5 a6 a7 n1_5 n1_6 a3 n2_1 f7 x29_5 hp_n2_1) (cwV 1 hts gX4_timeTo_X9_forgedOf rfl rfl rfl (by decide +kernel) ⟨Nat.le_of_ble_eq_true rfl, Nat.le_of_ble_eq_true rfl⟩) (ro_preV 9 0 hK (hP.sub [1, 2, 3] rfl) rfl rfl) rfl rfl hl.1 rfl (lv_room (Nat.le_of_ble_eq_true rfl)) dX4_timeTo_43 ⟨Nat.zero_le _, Nat.zero_le _⟩) hS hP (fun r43 H locs wr43 hP hS => ?_)
          obtain ⟨p_5, p_6, p_7, p_8, -⟩ := wr43
          refine lv_iadd hx hb dX4_timeTo_46 ?_
          refine nm_0 (fun z46 => ?_)
          refine lv_istore (lv' := [(4, .int z46), (0, .ref a0), (1, .int p0), (2, .int p1), (3, .int r9), (5, .int x29_5), (6, .int x29_6)]) hx hb dX4_timeTo_47 hl (by decide) rfl (fun ls hl => ?_)
          refine lv_aload_n hx hb dX4_timeTo_49 rfl (lv_at hl 1 rfl) ?_
          refine va_get (D := G) (ci := 4) (v := .ref a8) (C := RX4) (T := TX4) (N := 4) hx hb hts (by decide +kernel) hown hK.1 hP 0 rfl rfl 1 (by decide) (hts (.fieldLink RX4 23 "CardHolder$Play" "hands" "LCardHolder$Hands;") (by decide +kernel)) (fun _ h9 => h9) rfl dX4_timeTo_50 ?_
          refine va_get (D := G) (ci := 2) (v := .ref a9) (C := RX2) (T := TX2) (N := 8) hx hb hts (by decide +kernel) hown hK.1 hP 4 rfl rfl 1 (by decide) (hts (.fieldLink RX4 60 "CardHolder$Hands" "bonds" "LCardHolder$Bonds;") (by decide +kernel)) (fun _ h9 => h9) rfl dX4_timeTo_53 ?_
          refine lv_iload hx hb dX4_timeTo_56 (lv_at hl 5 rfl) ?_
          refine ro_calli (va_runV (As := [.int x29_5]) (rest := []) ⟨hx, hb, hml, hown, hts⟩ (a_X0_holderOf l G ct a9 a10 n9_1 f10 x29_5 hp_n9_1) (cwV 1 hts gX4_timeTo_X0_holderOf rfl rfl rfl (by decide +kernel) ⟨Nat.le_of_ble_eq_true rfl, Nat.le_of_ble_eq_true rfl⟩) (ro_preV 0 0 hK (hP.sub [5, 6] rfl) rfl rfl) rfl rfl hl.1 rfl (lv_room (Nat.le_of_ble_eq_true rfl)) dX4_timeTo_58 ⟨Nat.zero_le _, Nat.zero_le _⟩) hS hP (fun r58 H locs wr58 hP hS => ?_)
          obtain ⟨p_9, p_10, p_11, p_12, -⟩ := wr58
          refine lv_istore (lv' := [(5, .int r58), (4, .int z46), (0, .ref a0), (1, .int p0), (2, .int p1), (3, .int r9), (6, .int x29_6)]) hx hb dX4_timeTo_61 hl (by decide) rfl (fun ls hl => ?_)
          obtain ⟨z63, qz63⟩ : ∃ y : Int32, y = x29_6 + Int32.ofInt 1 := ⟨_, rfl⟩
          obtain ⟨hz63, ez63⟩ := inc_z (e := 1) (f := 8) h_3 qz63 (by decide)
          refine lv_iinc (v := z63) (lv' := [(6, .int z63), (5, .int r58), (4, .int z46), (0, .ref a0), (1, .int p0), (2, .int p1), (3, .int r9)]) hx hb dX4_timeTo_63 hl (k := 6) rfl (qz63.symm) (by decide) rfl (fun ls hl => ?_)
          refine lv_goto (tgt := 29) hx hb dX4_timeTo_66 (by decide) ?_
          exact ih29 z46 r58 z63 _ _ ls (by have q := hn29; have := ez63; omega) (rg_w (c := 0) (d := 8) hz63 (by decide)) hP hS (lv_sub hl [3, 4, 5, 6, 2, 1, 0] rfl)
    exact j29 4294967296 r9 p1 (0 : Int32) _ _ ls (ms_e (0 : Int32)) (rg_w (c := 0) (d := 8) (rgn 0 (x := 0) (by decide)) (by decide)) hP hS (lv_sub hl [4, 5, 6, 3, 2, 1, 0] rfl)
  · have h_13 : rg (-1) (-1) r9 := r_eq_l_i (e := (-1)) (f := (-1)) c15 p_1 (rgn (-1) (x := (-1)) (by decide)) (by decide)
    refine lv_iconst (v := (-1)) hx hb dX4_timeTo_18 (by decide) ?_
    exact W.iret (v := (-1)) hx hb hr (fun t ht hW => ⟨⟨(-1), (), rfl, trivial, trivial⟩, hS.F ht⟩) hS.2.2 dX4_timeTo_19

set_option maxHeartbeats 4000000 in
set_option maxRecDepth 100000 in
theorem a_X4_quickestDoer (l : Launch) (G : va_G) (ct : Nat → ClassId) (a0 : Nat) (a1 : Nat) (a8 : Nat) (a13 : Nat) (n0_3 : Int32) (a2 : Nat) (a4 : Nat) (a5 : Nat) (a6 : Nat) (a7 : Nat) (n1_5 : Int32) (n1_6 : Int32) (a3 : Nat) (n2_1 : Int32) (f5 : Nat → Int32) (f7 : Nat → Int32) (a9 : Nat) (a11 : Nat) (a12 : Nat) (n8_4 : Int32) (n8_5 : Int32) (n8_6 : Int32) (n8_7 : Int32) (a10 : Nat) (n9_1 : Int32) (f10 : Nat → Int32) (p0 : Int32) (p1 : Int32) (hp_n2_1 : rg 0 8 n2_1) (hp_n9_1 : rg 0 8 n9_1) : Met l yX4_quickestDoer wsX4_quickestDoer ({ frames := 4, cells := 0, slots := 0, locals := 92 }) (va_Pc [.ref a0, .int p0, .int p1] (roP G ct [(a0, .inr (4, [.ref a1, .ref a8, .ref a13, .int n0_3])), (a1, .inr (9, [.ref a2, .ref a4, .ref a5, .ref a6, .ref a7, .int n1_5, .int n1_6])), (a2, .inr (0, [.ref a3, .int n2_1])), (a5, .inl (ct 0, 8, .inl f5)), (a7, .inl (ct 0, 8, .inl f7)), (a8, .inr (2, [.ref a1, .ref a9, .ref a11, .ref a12, .int n8_4, .int n8_5, .int n8_6, .int n8_7])), (a9, .inr (0, [.ref a10, .int n9_1])), (a10, .inl (ct 0, 8, .inl f10))])) (roQ (fun r => rg (-1) 7 r ∧ True)) 0 0 no := by
  refine Met.ofW (cc := cX4_quickestDoer) (maxL := 8) (ret := (some .int)) (by decide) rfl ?_
  intro p e s m args below meth c s₁ B hml hv
  obtain ⟨rfl, hP, hK⟩ := hv
  have hx := B.exec
  have hb := B.bytes
  have hr := B.returns
  have hts := atoms_spec (ws := wsX4_quickestDoer) B.pre
  have hown : s.vm.findClass RX4 = some m.cls := findClass_of_methodNamed B.named
  have hlocks := B.notSynchronized
  have hS : va_S no s.heap s.heap [] := va_S.rf
  have hl := lv_entry ([.ref a0, .int p0, .int p1]) (n := 8) (Nat.le_of_ble_eq_true rfl)
  rw [lg_entry_eq]
  generalize (lg_sl ([.ref a0, .int p0, .int p1]) ++ List.replicate (8 - (lg_sl ([.ref a0, .int p0, .int p1])).length) Slot.unset).toArray = ls at hl ⊢
  have hl : lv_has ls 8 [(0, .ref a0), (1, .int p0), (2, .int p1)] := hl
  refine lv_iconst (v := (-1)) hx hb dX4_quickestDoer_0 (by decide) ?_
  refine lv_istore_n (lv' := [(3, .int (-1)), (0, .ref a0), (1, .int p0), (2, .int p1)]) hx hb dX4_quickestDoer_1 rfl hl (by decide) rfl (fun ls hl => ?_)
  refine lv_iconst (v := 0) hx hb dX4_quickestDoer_2 (by decide) ?_
  refine lv_istore (lv' := [(4, .int 0), (3, .int (-1)), (0, .ref a0), (1, .int p0), (2, .int p1)]) hx hb dX4_quickestDoer_3 hl (by decide) rfl (fun ls hl => ?_)
  refine lv_iconst (v := 0) hx hb dX4_quickestDoer_5 (by decide) ?_
  refine lv_istore (lv' := [(5, .int 0), (4, .int 0), (3, .int (-1)), (0, .ref a0), (1, .int p0), (2, .int p1)]) hx hb dX4_quickestDoer_6 hl (by decide) rfl (fun ls hl => ?_)
  have j8 : ∀ (n : Nat) (x8_3 : Int32) (x8_4 : Int32) (x8_5 : Int32) (H : Heap) (locs : List Loc) (ls : Array Slot), 2147483648 ≤ x8_5.toInt + (n : Int) → rg (-1) 7 x8_3 → rg 0 8 x8_5 → va_P G vwCl [(a0, .inr (4, [.ref a1, .ref a8, .ref a13, .int n0_3])), (a1, .inr (9, [.ref a2, .ref a4, .ref a5, .ref a6, .ref a7, .int n1_5, .int n1_6])), (a2, .inr (0, [.ref a3, .int n2_1])), (a5, .inl (ct 0, 8, .inl f5)), (a7, .inl (ct 0, 8, .inl f7)), (a8, .inr (2, [.ref a1, .ref a9, .ref a11, .ref a12, .int n8_4, .int n8_5, .int n8_6, .int n8_7])), (a9, .inr (0, [.ref a10, .int n9_1])), (a10, .inl (ct 0, 8, .inl f10))] H → va_S no s.heap H locs → lv_has ls 8 [(0, .ref a0), (1, .int p0), (2, .int p1), (3, .int x8_3), (4, .int x8_4), (5, .int x8_5)] → W p l e (headSpec wsX4_quickestDoer ({ frames := 4, cells := 0, slots := 0, locals := 92 })).room s m ([.ref a0, .int p0, .int p1] : List Value).toArray below meth c H locs 0 0 (MQ below (roQ (fun r => rg (-1) 7 r ∧ True)) ([.ref a0, .int p0, .int p1] : List Value).toArray s 0 0 no) (F0 m 8 ls []) := by
    intro n
    induction n with
    | zero => intro x8_3 x8_4 x8_5 H locs ls hn8 hx8_3 hx8_5 hP hS hl; exact absurd hn8 (by have := Int32.toInt_lt x8_5; have := Int32.le_toInt x8_5; omega)
    | succ n ih8 =>
      intro x8_3 x8_4 x8_5 H locs ls hn8 hx8_3 hx8_5 hP hS hl
      refine lv_iload hx hb dX4_quickestDoer_8 (lv_at hl 5 rfl) ?_
      refine lv_aload_n hx hb dX4_quickestDoer_10 rfl (lv_at hl 0 rfl) ?_
      refine va_get (D := G) (ci := 4) (v := .ref a8) (C := RX4) (T := TX4) (N := 4) hx hb hts (by decide +kernel) hown hK.1 hP 0 rfl rfl 1 (by decide) (hts (.fieldLink RX4 23 "CardHolder$Play" "hands" "LCardHolder$Hands;") (by decide +kernel)) (fun _ h9 => h9) rfl dX4_quickestDoer_11 ?_
      refine va_get (D := G) (ci := 2) (v := .ref a9) (C := RX2) (T := TX2) (N := 8) hx hb hts (by decide +kernel) hown hK.1 hP 5 rfl rfl 1 (by decide) (hts (.fieldLink RX4 60 "CardHolder$Hands" "bonds" "LCardHolder$Bonds;") (by decide +kernel)) (fun _ h9 => h9) rfl dX4_quickestDoer_14 ?_
      refine va_get (D := G) (ci := 0) (v := .int n9_1) (C := RX0) (T := TX0) (N := 2) hx hb hts (by decide +kernel) hown hK.1 hP 6 rfl rfl 1 (by decide) (hts (.fieldLink RX4 90 "CardHolder$Bonds" "persons" "I") (by decide +kernel)) (fun _ h9 => h9) rfl dX4_quickestDoer_17 ?_
      refine lv_icmp_ge (tgt := 92) hx hb dX4_quickestDoer_20 (by decide) (fun c20 => ?_) (fun c20 => ?_)
      · refine lv_iload_n hx hb dX4_quickestDoer_92 rfl (lv_at hl 3 rfl) ?_
        exact W.iret (v := x8_3) hx hb hr (fun t ht hW => ⟨⟨x8_3, (), rfl, ⟨hx8_3, trivial⟩, trivial⟩, hS.F ht⟩) hS.2.2 dX4_quickestDoer_93
      · have h_1 : rg 0 7 x8_5 := r_lt_l_i (nle_i c20) hx8_5 hp_n9_1 (by decide)
        have h_2 : rg 1 8 n9_1 := r_lt_r_i (nle_i c20) hx8_5 hp_n9_1 (by decide)
        refine lv_aload_n hx hb dX4_quickestDoer_23 rfl (lv_at hl 0 rfl) ?_
        refine lv_iload_n hx hb dX4_quickestDoer_24 rfl (lv_at hl 1 rfl) ?_
        refine lv_iload hx hb dX4_quickestDoer_25 (lv_at hl 5 rfl) ?_
        refine ro_calli (va_runV (As := [.int p0, .int x8_5]) (rest := []) ⟨hx, hb, hml, hown, hts⟩ (a_X4_timeTo l G ct a0 a1 a8 a13 n0_3 a2 a4 a5 a6 a7 n1_5 n1_6 a3 n2_1 f7 a9 a11 a12 n8_4 n8_5 n8_6 n8_7 a10 n9_1 f10 p0 x8_5 hp_n2_1 (rg_w (c := 0) (d := 8) h_2 (by decide))) (cwV 2 hts gX4_quickestDoer_X4_timeTo rfl rfl rfl (by decide +kernel) ⟨Nat.le_of_ble_eq_true rfl, Nat.le_of_ble_eq_true rfl⟩) (ro_preV 4 0 hK (hP.sub [0, 1, 2, 4, 5, 6, 7] rfl) rfl rfl) rfl rfl hl.1 rfl (lv_room (Nat.le_of_ble_eq_true rfl)) dX4_quickestDoer_27 ⟨Nat.zero_le _, Nat.zero_le _⟩) hS hP (fun r27 H locs wr27 hP hS => ?_)
        refine lv_istore (lv' := [(6, .int r27), (0, .ref a0), (1, .int p0), (2, .int p1), (3, .int x8_3), (4, .int x8_4), (5, .int x8_5)]) hx hb dX4_quickestDoer_30 hl (by decide) rfl (fun ls hl => ?_)
        refine lv_iload hx hb dX4_quickestDoer_32 (lv_at hl 0 rfl) ?_
        refine lv_iconst (v := (-1)) hx hb dX4_quickestDoer_34 (by decide) ?_
        have j60 : ∀ (y60_0 : Int32) (H : Heap) (locs : List Loc) (ls : Array Slot), rg 0 1 y60_0 → va_P G vwCl [(a0, .inr (4, [.ref a1, .ref a8, .ref a13, .int n0_3])), (a1, .inr (9, [.ref a2, .ref a4, .ref a5, .ref a6, .ref a7, .int n1_5, .int n1_6])), (a2, .inr (0, [.ref a3, .int n2_1])), (a5, .inl (ct 0, 8, .inl f5)), (a7, .inl (ct 0, 8, .inl f7)), (a8, .inr (2, [.ref a1, .ref a9, .ref a11, .ref a12, .int n8_4, .int n8_5, .int n8_6, .int n8_7])), (a9, .inr (0, [.ref a10, .int n9_1])), (a10, .inl (ct 0, 8, .inl f10))] H → va_S no s.heap H locs → lv_has ls 8 [(0, .ref a0), (1, .int p0), (2, .int p1), (3, .int x8_3), (4, .int x8_4), (5, .int x8_5), (6, .int r27)] → W p l e (headSpec wsX4_quickestDoer ({ frames := 4, cells := 0, slots := 0, locals := 92 })).room s m ([.ref a0, .int p0, .int p1] : List Value).toArray below meth c H locs 0 0 (MQ below (roQ (fun r => rg (-1) 7 r ∧ True)) ([.ref a0, .int p0, .int p1] : List Value).toArray s 0 0 no) (F0 m 60 ls [.int y60_0]) := by
          intro y60_0 H locs ls hy60_0 hP hS hl
          refine lv_istore (lv' := [(7, .int y60_0), (0, .ref a0), (1, .int p0), (2, .int p1), (3, .int x8_3), (4, .int x8_4), (5, .int x8_5), (6, .int r27)]) hx hb dX4_quickestDoer_60 hl (by decide) rfl (fun ls hl => ?_)
          refine lv_iload hx hb dX4_quickestDoer_62 (lv_at hl 0 rfl) ?_
          have j86 : ∀ (x86_3 : Int32) (x86_4 : Int32) (H : Heap) (locs : List Loc) (ls : Array Slot), rg (-1) 7 x86_3 → va_P G vwCl [(a0, .inr (4, [.ref a1, .ref a8, .ref a13, .int n0_3])), (a1, .inr (9, [.ref a2, .ref a4, .ref a5, .ref a6, .ref a7, .int n1_5, .int n1_6])), (a2, .inr (0, [.ref a3, .int n2_1])), (a5, .inl (ct 0, 8, .inl f5)), (a7, .inl (ct 0, 8, .inl f7)), (a8, .inr (2, [.ref a1, .ref a9, .ref a11, .ref a12, .int n8_4, .int n8_5, .int n8_6, .int n8_7])), (a9, .inr (0, [.ref a10, .int n9_1])), (a10, .inl (ct 0, 8, .inl f10))] H → va_S no s.heap H locs → lv_has ls 8 [(0, .ref a0), (1, .int p0), (2, .int p1), (3, .int x86_3), (4, .int x86_4), (5, .int x8_5), (6, .int r27), (7, .int y60_0)] → W p l e (headSpec wsX4_quickestDoer ({ frames := 4, cells := 0, slots := 0, locals := 92 })).room s m ([.ref a0, .int p0, .int p1] : List Value).toArray below meth c H locs 0 0 (MQ below (roQ (fun r => rg (-1) 7 r ∧ True)) ([.ref a0, .int p0, .int p1] : List Value).toArray s 0 0 no) (F0 m 86 ls []) := by
            intro x86_3 x86_4 H locs ls hx86_3 hP hS hl
            obtain ⟨z86, qz86⟩ : ∃ y : Int32, y = x8_5 + Int32.ofInt 1 := ⟨_, rfl⟩
            obtain ⟨hz86, ez86⟩ := inc_z (e := 1) (f := 8) h_1 qz86 (by decide)
            refine lv_iinc (v := z86) (lv' := [(5, .int z86), (0, .ref a0), (1, .int p0), (2, .int p1), (3, .int x86_3), (4, .int x86_4), (6, .int r27), (7, .int y60_0)]) hx hb dX4_quickestDoer_86 hl (k := 5) rfl (qz86.symm) (by decide) rfl (fun ls hl => ?_)
            refine lv_goto (tgt := 8) hx hb dX4_quickestDoer_89 (by decide) ?_
            exact ih8 x86_3 x86_4 z86 _ _ ls (by have q := hn8; have := ez86; omega) hx86_3 (rg_w (c := 0) (d := 8) hz86 (by decide)) hP hS (lv_sub hl [1, 2, 3, 4, 5, 0] rfl)
          refine lv_if_eq (tgt := 86) hx hb dX4_quickestDoer_64 (by decide) (fun c64 => ?_) (fun c64 => ?_)
          · have h_3 : rg 0 0 y60_0 := r_eq_l_i (e := 0) (f := 0) c64 hy60_0 (rgn 0 (x := 0) (by decide)) (by decide)
            exact j86 x8_3 x8_4 _ _ ls hx8_3 hP hS (lv_sub hl [1, 2, 3, 4, 5, 6, 7, 0] rfl)
          · have h_4 : rg 1 1 y60_0 := r_ne_lo_i c64 hy60_0 (by decide) (by decide)
            refine lv_iload_n hx hb dX4_quickestDoer_67 rfl (lv_at hl 4 rfl) ?_
            refine lv_iconst (v := (-1)) hx hb dX4_quickestDoer_68 (by decide) ?_
            have j79 : ∀ (H : Heap) (locs : List Loc) (ls : Array Slot), va_P G vwCl [(a0, .inr (4, [.ref a1, .ref a8, .ref a13, .int n0_3])), (a1, .inr (9, [.ref a2, .ref a4, .ref a5, .ref a6, .ref a7, .int n1_5, .int n1_6])), (a2, .inr (0, [.ref a3, .int n2_1])), (a5, .inl (ct 0, 8, .inl f5)), (a7, .inl (ct 0, 8, .inl f7)), (a8, .inr (2, [.ref a1, .ref a9, .ref a11, .ref a12, .int n8_4, .int n8_5, .int n8_6, .int n8_7])), (a9, .inr (0, [.ref a10, .int n9_1])), (a10, .inl (ct 0, 8, .inl f10))] H → va_S no s.heap H locs → lv_has ls 8 [(0, .ref a0), (1, .int p0), (2, .int p1), (3, .int x8_3), (4, .int x8_4), (5, .int x8_5), (6, .int r27), (7, .int y60_0)] → W p l e (headSpec wsX4_quickestDoer ({ frames := 4, cells := 0, slots := 0, locals := 92 })).room s m ([.ref a0, .int p0, .int p1] : List Value).toArray below meth c H locs 0 0 (MQ below (roQ (fun r => rg (-1) 7 r ∧ True)) ([.ref a0, .int p0, .int p1] : List Value).toArray s 0 0 no) (F0 m 79 ls []) := by
              intro  H locs ls  hP hS hl
              refine lv_iload hx hb dX4_quickestDoer_79 (lv_at hl 5 rfl) ?_
              refine lv_istore_n (lv' := [(3, .int x8_5), (0, .ref a0), (1, .int p0), (2, .int p1), (4, .int x8_4), (5, .int x8_5), (6, .int r27), (7, .int y60_0)]) hx hb dX4_quickestDoer_81 rfl hl (by decide) rfl (fun ls hl => ?_)
              refine lv_iload hx hb dX4_quickestDoer_82 (lv_at hl 6 rfl) ?_
              refine lv_istore (lv' := [(4, .int r27), (3, .int x8_5), (0, .ref a0), (1, .int p0), (2, .int p1), (5, .int x8_5), (6, .int r27), (7, .int y60_0)]) hx hb dX4_quickestDoer_84 hl (by decide) rfl (fun ls hl => ?_)
              exact j86 x8_5 r27 _ _ ls (rg_w (c := (-1)) (d := 7) h_1 (by decide)) hP hS (lv_sub hl [2, 3, 4, 1, 0, 5, 6, 7] rfl)
            refine lv_icmp_eq (tgt := 79) hx hb dX4_quickestDoer_69 (by decide) (fun c69 => ?_) (fun c69 => ?_)
            · have h_5 : rg (-1) (-1) x8_3 := r_eq_l_i (e := (-1)) (f := (-1)) c69 hx8_3 (rgn (-1) (x := (-1)) (by decide)) (by decide)
              exact j79 _ _ ls hP hS (lv_sub hl [1, 2, 3, 4, 5, 6, 7, 0] rfl)
            · have h_6 : rg 0 7 x8_3 := r_ne_lo_i c69 hx8_3 (by decide) (by decide)
              refine lv_iload hx hb dX4_quickestDoer_72 (lv_at hl 7 rfl) ?_
              refine lv_iload hx hb dX4_quickestDoer_74 (lv_at hl 5 rfl) ?_
              refine lv_icmp_ge (tgt := 86) hx hb dX4_quickestDoer_76 (by decide) (fun c76 => ?_) (fun c76 => ?_)
              · exact j86 x8_3 x8_4 _ _ ls (rg_w (c := (-1)) (d := 7) h_6 (by decide)) hP hS (lv_sub hl [1, 2, 3, 4, 5, 6, 7, 0] rfl)
              · have h_7 : rg (-2147483648) 2147483646 r27 := r_lt_l_i (nle_i c76) (rg_t r27) (rg_t x8_4) (by decide)
                have h_8 : rg (-2147483647) 2147483647 x8_4 := r_lt_r_i (nle_i c76) (rg_t r27) (rg_t x8_4) (by decide)
                exact j79 _ _ ls hP hS (lv_sub hl [1, 2, 3, 4, 5, 6, 7, 0] rfl)
        have j59 : ∀ (H : Heap) (locs : List Loc) (ls : Array Slot), va_P G vwCl [(a0, .inr (4, [.ref a1, .ref a8, .ref a13, .int n0_3])), (a1, .inr (9, [.ref a2, .ref a4, .ref a5, .ref a6, .ref a7, .int n1_5, .int n1_6])), (a2, .inr (0, [.ref a3, .int n2_1])), (a5, .inl (ct 0, 8, .inl f5)), (a7, .inl (ct 0, 8, .inl f7)), (a8, .inr (2, [.ref a1, .ref a9, .ref a11, .ref a12, .int n8_4, .int n8_5, .int n8_6, .int n8_7])), (a9, .inr (0, [.ref a10, .int n9_1])), (a10, .inl (ct 0, 8, .inl f10))] H → va_S no s.heap H locs → lv_has ls 8 [(0, .ref a0), (1, .int p0), (2, .int p1), (3, .int x8_3), (4, .int x8_4), (5, .int x8_5), (6, .int r27)] → W p l e (headSpec wsX4_quickestDoer ({ frames := 4, cells := 0, slots := 0, locals := 92 })).room s m ([.ref a0, .int p0, .int p1] : List Value).toArray below meth c H locs 0 0 (MQ below (roQ (fun r => rg (-1) 7 r ∧ True)) ([.ref a0, .int p0, .int p1] : List Value).toArray s 0 0 no) (F0 m 59 ls []) := by
          intro  H locs ls  hP hS hl
          refine lv_iconst (v := 0) hx hb dX4_quickestDoer_59 (by decide) ?_
          exact j60 (0 : Int32) _ _ ls (rg_w (c := 0) (d := 1) (rgn 0 (x := 0) (by decide)) (by decide)) hP hS (lv_sub hl [0, 1, 2, 3, 4, 5, 6] rfl)
        refine lv_icmp_eq (tgt := 59) hx hb dX4_quickestDoer_35 (by decide) (fun c35 => ?_) (fun c35 => ?_)
        · have h_9 : rg (-1) (-1) r27 := r_eq_l_i (e := (-1)) (f := (-1)) c35 (rg_t r27) (rgn (-1) (x := (-1)) (by decide)) (by decide)
          exact j59 _ _ ls hP hS (lv_sub hl [1, 2, 3, 4, 5, 6, 0] rfl)
        · refine lv_aload_n hx hb dX4_quickestDoer_38 rfl (lv_at hl 1 rfl) ?_
          refine va_get (D := G) (ci := 4) (v := .ref a1) (C := RX4) (T := TX4) (N := 4) hx hb hts (by decide +kernel) hown hK.1 hP 0 rfl rfl 0 (by decide) (hts (.fieldLink RX4 12 "CardHolder$Play" "town" "LCardHolder$Town;") (by decide +kernel)) (fun _ h9 => h9) rfl dX4_quickestDoer_39 ?_
          refine lv_iload hx hb dX4_quickestDoer_42 (lv_at hl 6 rfl) ?_
          refine ro_calli (va_runV (As := [.int x8_5]) (rest := []) ⟨hx, hb, hml, hown, hts⟩ (a_X9_deedsOf l G ct a1 a2 a4 a5 a6 a7 n1_5 n1_6 a3 n2_1 f5 x8_5 hp_n2_1) (cwV 1 hts gX4_quickestDoer_X9_deedsOf rfl rfl rfl (by decide +kernel) ⟨Nat.le_of_ble_eq_true rfl, Nat.le_of_ble_eq_true rfl⟩) (ro_preV 9 0 hK (hP.sub [1, 2, 3] rfl) rfl rfl) rfl rfl hl.1 rfl (lv_room (Nat.le_of_ble_eq_true rfl)) dX4_quickestDoer_44 ⟨Nat.zero_le _, Nat.zero_le _⟩) hS hP (fun r44 H locs wr44 hP hS => ?_)
          obtain ⟨p_10, p_11, p_12, p_13, -⟩ := wr44
          refine lv_iload_n hx hb dX4_quickestDoer_47 rfl (lv_at hl 3 rfl) ?_
          refine ro_calli (va_runSN (As := [.int r44, .int p1]) (rest := []) ⟨hx, hb, hml, hown, hts⟩ (a_X10_bitOf l G ct r44 p1) ⟨va_cnB 2 hts gX4_quickestDoer_X10_bitOf_n99 rfl rfl rfl (hK.2.1 (RX4, 99, yX10_bitOf, "CardHolder") (by decide +kernel)) (hts (.initialized RX10) (by decide +kernel)) (by decide +kernel) ⟨Nat.le_of_ble_eq_true rfl, Nat.le_of_ble_eq_true rfl⟩, hts (.static yX10_bitOf) (by decide +kernel), trivial⟩ (ro_pre hK (hP.sub [] rfl)) rfl rfl hl.1 rfl (lv_room (Nat.le_of_ble_eq_true rfl)) dX4_quickestDoer_48 ⟨Nat.zero_le _, Nat.zero_le _⟩) hS hP (fun r48 H locs wr48 hP hS => ?_)
          obtain ⟨p_14, -⟩ := wr48
          refine lv_iconst (v := 1) hx hb dX4_quickestDoer_51 (by decide) ?_
          refine lv_icmp_ne (tgt := 59) hx hb dX4_quickestDoer_52 (by decide) (fun c52 => ?_) (fun c52 => ?_)
          · have h_15 : rg 0 0 r48 := r_ne_hi_i c52 p_14 (by decide) (by decide)
            exact j59 _ _ ls hP hS (lv_sub hl [1, 2, 3, 4, 5, 6, 0] rfl)
          · have h_16 : rg 1 1 r48 := r_eq_l_i (e := 1) (f := 1) c52 p_14 (rgn 1 (x := 1) (by decide)) (by decide)
            refine lv_iconst (v := 1) hx hb dX4_quickestDoer_55 (by decide) ?_
            refine lv_goto (tgt := 60) hx hb dX4_quickestDoer_56 (by decide) ?_
            exact j60 (1 : Int32) _ _ ls (rg_w (c := 0) (d := 1) (rgn 1 (x := 1) (by decide)) (by decide)) hP hS (lv_sub hl [1, 2, 3, 4, 5, 6, 0] rfl)
  exact j8 4294967296 ((-1) : Int32) (0 : Int32) (0 : Int32) _ _ ls (ms_e (0 : Int32)) (rg_w (c := (-1)) (d := 7) (rgn (-1) (x := (-1)) (by decide)) (by decide)) (rg_w (c := 0) (d := 8) (rgn 0 (x := 0) (by decide)) (by decide)) hP hS (lv_sub hl [3, 4, 5, 2, 1, 0] rfl)

set_option maxHeartbeats 4000000 in
set_option maxRecDepth 100000 in
theorem a_X4_cheapestBetween (l : Launch) (G : va_G) (ct : Nat → ClassId) (a0 : Nat) (a1 : Nat) (a8 : Nat) (a13 : Nat) (n0_3 : Int32) (a2 : Nat) (a4 : Nat) (a5 : Nat) (a6 : Nat) (a7 : Nat) (n1_5 : Int32) (n1_6 : Int32) (a3 : Nat) (n2_1 : Int32) (f4 : Nat → Int32) (a9 : Nat) (a11 : Nat) (a12 : Nat) (n8_4 : Int32) (n8_5 : Int32) (n8_6 : Int32) (n8_7 : Int32) (a10 : Nat) (n9_1 : Int32) (f10 : Nat → Int32) (p0 : Int32) (p1 : Int32) (hp_n2_1 : rg 0 8 n2_1) (hp_n9_1 : rg 0 8 n9_1) : Met l yX4_cheapestBetween wsX4_cheapestBetween ({ frames := 3, cells := 0, slots := 0, locals := 66 }) (va_Pc [.ref a0, .int p0, .int p1] (roP G ct [(a0, .inr (4, [.ref a1, .ref a8, .ref a13, .int n0_3])), (a1, .inr (9, [.ref a2, .ref a4, .ref a5, .ref a6, .ref a7, .int n1_5, .int n1_6])), (a2, .inr (0, [.ref a3, .int n2_1])), (a4, .inl (ct 0, 8, .inl f4)), (a8, .inr (2, [.ref a1, .ref a9, .ref a11, .ref a12, .int n8_4, .int n8_5, .int n8_6, .int n8_7])), (a9, .inr (0, [.ref a10, .int n9_1])), (a10, .inl (ct 0, 8, .inl f10))])) (roQ (fun r => True)) 0 0 no := by
  refine Met.ofW (cc := cX4_cheapestBetween) (maxL := 8) (ret := (some .int)) (by decide) rfl ?_
  intro p e s m args below meth c s₁ B hml hv
  obtain ⟨rfl, hP, hK⟩ := hv
  have hx := B.exec
  have hb := B.bytes
  have hr := B.returns
  have hts := atoms_spec (ws := wsX4_cheapestBetween) B.pre
  have hown : s.vm.findClass RX4 = some m.cls := findClass_of_methodNamed B.named
  have hlocks := B.notSynchronized
  have hS : va_S no s.heap s.heap [] := va_S.rf
  have hl := lv_entry ([.ref a0, .int p0, .int p1]) (n := 8) (Nat.le_of_ble_eq_true rfl)
  rw [lg_entry_eq]
  generalize (lg_sl ([.ref a0, .int p0, .int p1]) ++ List.replicate (8 - (lg_sl ([.ref a0, .int p0, .int p1])).length) Slot.unset).toArray = ls at hl ⊢
  have hl : lv_has ls 8 [(0, .ref a0), (1, .int p0), (2, .int p1)] := hl
  refine lv_aload_n hx hb dX4_cheapestBetween_0 rfl (lv_at hl 0 rfl) ?_
  refine va_get (D := G) (ci := 4) (v := .ref a8) (C := RX4) (T := TX4) (N := 4) hx hb hts (by decide +kernel) hown hK.1 hP 0 rfl rfl 1 (by decide) (hts (.fieldLink RX4 23 "CardHolder$Play" "hands" "LCardHolder$Hands;") (by decide +kernel)) (fun _ h9 => h9) rfl dX4_cheapestBetween_1 ?_
  refine va_get (D := G) (ci := 2) (v := .ref a9) (C := RX2) (T := TX2) (N := 8) hx hb hts (by decide +kernel) hown hK.1 hP 4 rfl rfl 1 (by decide) (hts (.fieldLink RX4 60 "CardHolder$Hands" "bonds" "LCardHolder$Bonds;") (by decide +kernel)) (fun _ h9 => h9) rfl dX4_cheapestBetween_4 ?_
  refine lv_iload_n hx hb dX4_cheapestBetween_7 rfl (lv_at hl 1 rfl) ?_
  refine lv_iload_n hx hb dX4_cheapestBetween_8 rfl (lv_at hl 2 rfl) ?_
  refine ro_calli (va_runV (As := [.int p0, .int p1]) (rest := []) ⟨hx, hb, hml, hown, hts⟩ (a_X0_stepsTo l G ct a9 a10 n9_1 f10 p0 p1 hp_n9_1) (cwV 2 hts gX4_cheapestBetween_X0_stepsTo rfl rfl rfl (by decide +kernel) ⟨Nat.le_of_ble_eq_true rfl, Nat.le_of_ble_eq_true rfl⟩) (ro_preV 0 0 hK (hP.sub [5, 6] rfl) rfl rfl) rfl rfl hl.1 rfl (lv_room (Nat.le_of_ble_eq_true rfl)) dX4_cheapestBetween_9 ⟨Nat.zero_le _, Nat.zero_le _⟩) hS hP (fun r9 H locs wr9 hP hS => ?_)
  obtain ⟨p_1, -⟩ := wr9
  refine lv_istore_n (lv' := [(3, .int r9), (0, .ref a0), (1, .int p0), (2, .int p1)]) hx hb dX4_cheapestBetween_12 rfl hl (by decide) rfl (fun ls hl => ?_)
  refine lv_iload_n hx hb dX4_cheapestBetween_13 rfl (lv_at hl 0 rfl) ?_
  refine lv_iconst (v := (-1)) hx hb dX4_cheapestBetween_14 (by decide) ?_
  refine lv_icmp_ne (tgt := 20) hx hb dX4_cheapestBetween_15 (by decide) (fun c15 => ?_) (fun c15 => ?_)
  · have h_2 : rg 0 8 r9 := r_ne_lo_i c15 p_1 (by decide) (by decide)
    refine lv_iload_n hx hb dX4_cheapestBetween_20 rfl (lv_at hl 3 rfl) ?_
    refine lv_istore (lv' := [(4, .int p1), (3, .int r9), (0, .ref a0), (1, .int p0), (2, .int p1)]) hx hb dX4_cheapestBetween_21 hl (by decide) rfl (fun ls hl => ?_)
    refine lv_iload_n hx hb dX4_cheapestBetween_23 rfl (lv_at hl 4 rfl) ?_
    refine lv_istore (lv' := [(5, .int p1), (4, .int p1), (3, .int r9), (0, .ref a0), (1, .int p0), (2, .int p1)]) hx hb dX4_cheapestBetween_24 hl (by decide) rfl (fun ls hl => ?_)
    refine lv_iconst (v := 1) hx hb dX4_cheapestBetween_26 (by decide) ?_
    refine lv_istore (lv' := [(6, .int 1), (5, .int p1), (4, .int p1), (3, .int r9), (0, .ref a0), (1, .int p0), (2, .int p1)]) hx hb dX4_cheapestBetween_27 hl (by decide) rfl (fun ls hl => ?_)
    have j29 : ∀ (n : Nat) (x29_4 : Int32) (x29_5 : Int32) (x29_6 : Int32) (H : Heap) (locs : List Loc) (ls : Array Slot), 2147483648 ≤ x29_6.toInt + (n : Int) → rg 1 8 x29_6 → va_P G vwCl [(a0, .inr (4, [.ref a1, .ref a8, .ref a13, .int n0_3])), (a1, .inr (9, [.ref a2, .ref a4, .ref a5, .ref a6, .ref a7, .int n1_5, .int n1_6])), (a2, .inr (0, [.ref a3, .int n2_1])), (a4, .inl (ct 0, 8, .inl f4)), (a8, .inr (2, [.ref a1, .ref a9, .ref a11, .ref a12, .int n8_4, .int n8_5, .int n8_6, .int n8_7])), (a9, .inr (0, [.ref a10, .int n9_1])), (a10, .inl (ct 0, 8, .inl f10))] H → va_S no s.heap H locs → lv_has ls 8 [(0, .ref a0), (1, .int p0), (2, .int p1), (3, .int r9), (4, .int x29_4), (5, .int x29_5), (6, .int x29_6)] → W p l e (headSpec wsX4_cheapestBetween ({ frames := 3, cells := 0, slots := 0, locals := 66 })).room s m ([.ref a0, .int p0, .int p1] : List Value).toArray below meth c H locs 0 0 (MQ below (roQ (fun r => True)) ([.ref a0, .int p0, .int p1] : List Value).toArray s 0 0 no) (F0 m 29 ls []) := by
      intro n
      induction n with
      | zero => intro x29_4 x29_5 x29_6 H locs ls hn29 hx29_6 hP hS hl; exact absurd hn29 (by have := Int32.toInt_lt x29_6; have := Int32.le_toInt x29_6; omega)
      | succ n ih29 =>
        intro x29_4 x29_5 x29_6 H locs ls hn29 hx29_6 hP hS hl
        refine lv_iload hx hb dX4_cheapestBetween_29 (lv_at hl 6 rfl) ?_
        refine lv_iload_n hx hb dX4_cheapestBetween_31 rfl (lv_at hl 3 rfl) ?_
        refine lv_icmp_ge (tgt := 120) hx hb dX4_cheapestBetween_32 (by decide) (fun c32 => ?_) (fun c32 => ?_)
        · refine lv_iload hx hb dX4_cheapestBetween_120 (lv_at hl 4 rfl) ?_
          exact W.iret (v := x29_4) hx hb hr (fun t ht hW => ⟨⟨x29_4, (), rfl, trivial, trivial⟩, hS.F ht⟩) hS.2.2 dX4_cheapestBetween_122
        · have h_3 : rg 1 7 x29_6 := r_lt_l_i (nle_i c32) hx29_6 h_2 (by decide)
          have h_4 : rg 2 8 r9 := r_lt_r_i (nle_i c32) hx29_6 h_2 (by decide)
          refine lv_aload_n hx hb dX4_cheapestBetween_35 rfl (lv_at hl 0 rfl) ?_
          refine va_get (D := G) (ci := 4) (v := .ref a8) (C := RX4) (T := TX4) (N := 4) hx hb hts (by decide +kernel) hown hK.1 hP 0 rfl rfl 1 (by decide) (hts (.fieldLink RX4 23 "CardHolder$Play" "hands" "LCardHolder$Hands;") (by decide +kernel)) (fun _ h9 => h9) rfl dX4_cheapestBetween_36 ?_
          refine va_get (D := G) (ci := 2) (v := .ref a9) (C := RX2) (T := TX2) (N := 8) hx hb hts (by decide +kernel) hown hK.1 hP 4 rfl rfl 1 (by decide) (hts (.fieldLink RX4 60 "CardHolder$Hands" "bonds" "LCardHolder$Bonds;") (by decide +kernel)) (fun _ h9 => h9) rfl dX4_cheapestBetween_39 ?_
          refine lv_iload hx hb dX4_cheapestBetween_42 (lv_at hl 5 rfl) ?_
          refine ro_calli (va_runV (As := [.int x29_5]) (rest := []) ⟨hx, hb, hml, hown, hts⟩ (a_X0_holderOf l G ct a9 a10 n9_1 f10 x29_5 hp_n9_1) (cwV 1 hts gX4_cheapestBetween_X0_holderOf rfl rfl rfl (by decide +kernel) ⟨Nat.le_of_ble_eq_true rfl, Nat.le_of_ble_eq_true rfl⟩) (ro_preV 0 0 hK (hP.sub [5, 6] rfl) rfl rfl) rfl rfl hl.1 rfl (lv_room (Nat.le_of_ble_eq_true rfl)) dX4_cheapestBetween_44 ⟨Nat.zero_le _, Nat.zero_le _⟩) hS hP (fun r44 H locs wr44 hP hS => ?_)
          obtain ⟨p_5, p_6, p_7, p_8, -⟩ := wr44
          refine lv_istore (lv' := [(5, .int r44), (0, .ref a0), (1, .int p0), (2, .int p1), (3, .int r9), (4, .int x29_4), (6, .int x29_6)]) hx hb dX4_cheapestBetween_47 hl (by decide) rfl (fun ls hl => ?_)
          refine lv_aload_n hx hb dX4_cheapestBetween_49 rfl (lv_at hl 1 rfl) ?_
          refine va_get (D := G) (ci := 4) (v := .ref a1) (C := RX4) (T := TX4) (N := 4) hx hb hts (by decide +kernel) hown hK.1 hP 0 rfl rfl 0 (by decide) (hts (.fieldLink RX4 12 "CardHolder$Play" "town" "LCardHolder$Town;") (by decide +kernel)) (fun _ h9 => h9) rfl dX4_cheapestBetween_50 ?_
          refine lv_iload hx hb dX4_cheapestBetween_53 (lv_at hl 0 rfl) ?_
          refine ro_calli (va_runV (As := [.int r44]) (rest := []) ⟨hx, hb, hml, hown, hts⟩ (a_X9_worthOf l G ct a1 a2 a4 a5 a6 a7 n1_5 n1_6 a3 n2_1 f4 r44 hp_n2_1) (cwV 1 hts gX4_cheapestBetween_X9_worthOf rfl rfl rfl (by decide +kernel) ⟨Nat.le_of_ble_eq_true rfl, Nat.le_of_ble_eq_true rfl⟩) (ro_preV 9 0 hK (hP.sub [1, 2, 3] rfl) rfl rfl) rfl rfl hl.1 rfl (lv_room (Nat.le_of_ble_eq_true rfl)) dX4_cheapestBetween_55 ⟨Nat.zero_le _, Nat.zero_le _⟩) hS hP (fun r55 H locs wr55 hP hS => ?_)
          obtain ⟨p_9, p_10, p_11, p_12, -⟩ := wr55
          refine lv_aload_n hx hb dX4_cheapestBetween_58 rfl (lv_at hl 1 rfl) ?_
          refine va_get (D := G) (ci := 4) (v := .ref a1) (C := RX4) (T := TX4) (N := 4) hx hb hts (by decide +kernel) hown hK.1 hP 0 rfl rfl 0 (by decide) (hts (.fieldLink RX4 12 "CardHolder$Play" "town" "LCardHolder$Town;") (by decide +kernel)) (fun _ h9 => h9) rfl dX4_cheapestBetween_59 ?_
          refine lv_iload hx hb dX4_cheapestBetween_62 (lv_at hl 5 rfl) ?_
          refine ro_calli (va_runV (As := [.int x29_4]) (rest := [.int r55]) ⟨hx, hb, hml, hown, hts⟩ (a_X9_worthOf l G ct a1 a2 a4 a5 a6 a7 n1_5 n1_6 a3 n2_1 f4 x29_4 hp_n2_1) (cwV 1 hts gX4_cheapestBetween_X9_worthOf rfl rfl rfl (by decide +kernel) ⟨Nat.le_of_ble_eq_true rfl, Nat.le_of_ble_eq_true rfl⟩) (ro_preV 9 0 hK (hP.sub [1, 2, 3] rfl) rfl rfl) rfl rfl hl.1 rfl (lv_room (Nat.le_of_ble_eq_true rfl)) dX4_cheapestBetween_64 ⟨Nat.zero_le _, Nat.zero_le _⟩) hS hP (fun r64 H locs wr64 hP hS => ?_)
          obtain ⟨p_13, p_14, p_15, p_16, -⟩ := wr64
          have j75 : ∀ (y75_0 : Int32) (H : Heap) (locs : List Loc) (ls : Array Slot), rg 0 1 y75_0 → va_P G vwCl [(a0, .inr (4, [.ref a1, .ref a8, .ref a13, .int n0_3])), (a1, .inr (9, [.ref a2, .ref a4, .ref a5, .ref a6, .ref a7, .int n1_5, .int n1_6])), (a2, .inr (0, [.ref a3, .int n2_1])), (a4, .inl (ct 0, 8, .inl f4)), (a8, .inr (2, [.ref a1, .ref a9, .ref a11, .ref a12, .int n8_4, .int n8_5, .int n8_6, .int n8_7])), (a9, .inr (0, [.ref a10, .int n9_1])), (a10, .inl (ct 0, 8, .inl f10))] H → va_S no s.heap H locs → lv_has ls 8 [(0, .ref a0), (1, .int p0), (2, .int p1), (3, .int r9), (4, .int x29_4), (5, .int r44), (6, .int x29_6)] → W p l e (headSpec wsX4_cheapestBetween ({ frames := 3, cells := 0, slots := 0, locals := 66 })).room s m ([.ref a0, .int p0, .int p1] : List Value).toArray below meth c H locs 0 0 (MQ below (roQ (fun r => True)) ([.ref a0, .int p0, .int p1] : List Value).toArray s 0 0 no) (F0 m 75 ls [.int y75_0]) := by
            intro y75_0 H locs ls hy75_0 hP hS hl
            refine lv_istore (lv' := [(7, .int y75_0), (0, .ref a0), (1, .int p0), (2, .int p1), (3, .int r9), (4, .int x29_4), (5, .int r44), (6, .int x29_6)]) hx hb dX4_cheapestBetween_75 hl (by decide) rfl (fun ls hl => ?_)
            refine lv_aload_n hx hb dX4_cheapestBetween_77 rfl (lv_at hl 1 rfl) ?_
            refine va_get (D := G) (ci := 4) (v := .ref a1) (C := RX4) (T := TX4) (N := 4) hx hb hts (by decide +kernel) hown hK.1 hP 0 rfl rfl 0 (by decide) (hts (.fieldLink RX4 12 "CardHolder$Play" "town" "LCardHolder$Town;") (by decide +kernel)) (fun _ h9 => h9) rfl dX4_cheapestBetween_78 ?_
            refine lv_iload hx hb dX4_cheapestBetween_81 (lv_at hl 6 rfl) ?_
            refine ro_calli (va_runV (As := [.int r44]) (rest := []) ⟨hx, hb, hml, hown, hts⟩ (a_X9_worthOf l G ct a1 a2 a4 a5 a6 a7 n1_5 n1_6 a3 n2_1 f4 r44 hp_n2_1) (cwV 1 hts gX4_cheapestBetween_X9_worthOf rfl rfl rfl (by decide +kernel) ⟨Nat.le_of_ble_eq_true rfl, Nat.le_of_ble_eq_true rfl⟩) (ro_preV 9 0 hK (hP.sub [1, 2, 3] rfl) rfl rfl) rfl rfl hl.1 rfl (lv_room (Nat.le_of_ble_eq_true rfl)) dX4_cheapestBetween_83 ⟨Nat.zero_le _, Nat.zero_le _⟩) hS hP (fun r83 H locs wr83 hP hS => ?_)
            obtain ⟨p_17, p_18, p_19, p_20, -⟩ := wr83
            refine lv_aload_n hx hb dX4_cheapestBetween_86 rfl (lv_at hl 1 rfl) ?_
            refine va_get (D := G) (ci := 4) (v := .ref a1) (C := RX4) (T := TX4) (N := 4) hx hb hts (by decide +kernel) hown hK.1 hP 0 rfl rfl 0 (by decide) (hts (.fieldLink RX4 12 "CardHolder$Play" "town" "LCardHolder$Town;") (by decide +kernel)) (fun _ h9 => h9) rfl dX4_cheapestBetween_87 ?_
            refine lv_iload hx hb dX4_cheapestBetween_90 (lv_at hl 5 rfl) ?_
            refine ro_calli (va_runV (As := [.int x29_4]) (rest := [.int r83]) ⟨hx, hb, hml, hown, hts⟩ (a_X9_worthOf l G ct a1 a2 a4 a5 a6 a7 n1_5 n1_6 a3 n2_1 f4 x29_4 hp_n2_1) (cwV 1 hts gX4_cheapestBetween_X9_worthOf rfl rfl rfl (by decide +kernel) ⟨Nat.le_of_ble_eq_true rfl, Nat.le_of_ble_eq_true rfl⟩) (ro_preV 9 0 hK (hP.sub [1, 2, 3] rfl) rfl rfl) rfl rfl hl.1 rfl (lv_room (Nat.le_of_ble_eq_true rfl)) dX4_cheapestBetween_92 ⟨Nat.zero_le _, Nat.zero_le _⟩) hS hP (fun r92 H locs wr92 hP hS => ?_)
            obtain ⟨p_21, p_22, p_23, p_24, -⟩ := wr92
            have j114 : ∀ (x114_4 : Int32) (H : Heap) (locs : List Loc) (ls : Array Slot), va_P G vwCl [(a0, .inr (4, [.ref a1, .ref a8, .ref a13, .int n0_3])), (a1, .inr (9, [.ref a2, .ref a4, .ref a5, .ref a6, .ref a7, .int n1_5, .int n1_6])), (a2, .inr (0, [.ref a3, .int n2_1])), (a4, .inl (ct 0, 8, .inl f4)), (a8, .inr (2, [.ref a1, .ref a9, .ref a11, .ref a12, .int n8_4, .int n8_5, .int n8_6, .int n8_7])), (a9, .inr (0, [.ref a10, .int n9_1])), (a10, .inl (ct 0, 8, .inl f10))] H → va_S no s.heap H locs → lv_has ls 8 [(0, .ref a0), (1, .int p0), (2, .int p1), (3, .int r9), (4, .int x114_4), (5, .int r44), (6, .int x29_6), (7, .int y75_0)] → W p l e (headSpec wsX4_cheapestBetween ({ frames := 3, cells := 0, slots := 0, locals := 66 })).room s m ([.ref a0, .int p0, .int p1] : List Value).toArray below meth c H locs 0 0 (MQ below (roQ (fun r => True)) ([.ref a0, .int p0, .int p1] : List Value).toArray s 0 0 no) (F0 m 114 ls []) := by
              intro x114_4 H locs ls  hP hS hl
              obtain ⟨z114, qz114⟩ : ∃ y : Int32, y = x29_6 + Int32.ofInt 1 := ⟨_, rfl⟩
              obtain ⟨hz114, ez114⟩ := inc_z (e := 2) (f := 8) h_3 qz114 (by decide)
              refine lv_iinc (v := z114) (lv' := [(6, .int z114), (0, .ref a0), (1, .int p0), (2, .int p1), (3, .int r9), (4, .int x114_4), (5, .int r44), (7, .int y75_0)]) hx hb dX4_cheapestBetween_114 hl (k := 6) rfl (qz114.symm) (by decide) rfl (fun ls hl => ?_)
              refine lv_goto (tgt := 29) hx hb dX4_cheapestBetween_117 (by decide) ?_
              exact ih29 x114_4 r44 z114 _ _ ls (by have q := hn29; have := ez114; omega) (rg_w (c := 1) (d := 8) hz114 (by decide)) hP hS (lv_sub hl [1, 2, 3, 4, 5, 6, 0] rfl)
            have j110 : ∀ (H : Heap) (locs : List Loc) (ls : Array Slot), va_P G vwCl [(a0, .inr (4, [.ref a1, .ref a8, .ref a13, .int n0_3])), (a1, .inr (9, [.ref a2, .ref a4, .ref a5, .ref a6, .ref a7, .int n1_5, .int n1_6])), (a2, .inr (0, [.ref a3, .int n2_1])), (a4, .inl (ct 0, 8, .inl f4)), (a8, .inr (2, [.ref a1, .ref a9, .ref a11, .ref a12, .int n8_4, .int n8_5, .int n8_6, .int n8_7])), (a9, .inr (0, [.ref a10, .int n9_1])), (a10, .inl (ct 0, 8, .inl f10))] H → va_S no s.heap H locs → lv_has ls 8 [(0, .ref a0), (1, .int p0), (2, .int p1), (3, .int r9), (4, .int x29_4), (5, .int r44), (6, .int x29_6), (7, .int y75_0)] → W p l e (headSpec wsX4_cheapestBetween ({ frames := 3, cells := 0, slots := 0, locals := 66 })).room s m ([.ref a0, .int p0, .int p1] : List Value).toArray below meth c H locs 0 0 (MQ below (roQ (fun r => True)) ([.ref a0, .int p0, .int p1] : List Value).toArray s 0 0 no) (F0 m 110 ls []) := by
              intro  H locs ls  hP hS hl
              refine lv_iload hx hb dX4_cheapestBetween_110 (lv_at hl 5 rfl) ?_
              refine lv_istore (lv' := [(4, .int r44), (0, .ref a0), (1, .int p0), (2, .int p1), (3, .int r9), (5, .int r44), (6, .int x29_6), (7, .int y75_0)]) hx hb dX4_cheapestBetween_112 hl (by decide) rfl (fun ls hl => ?_)
              exact j114 r44 _ _ ls hP hS (lv_sub hl [1, 2, 3, 4, 0, 5, 6, 7] rfl)
            refine lv_icmp_lt (tgt := 110) hx hb dX4_cheapestBetween_95 (by decide) (fun c95 => ?_) (fun c95 => ?_)
            · have h_25 : rg (-2147483648) 2147483646 r83 := r_lt_l_i c95 (rg_t r83) (rg_t r92) (by decide)
              have h_26 : rg (-2147483647) 2147483647 r92 := r_lt_r_i c95 (rg_t r83) (rg_t r92) (by decide)
              exact j110 _ _ ls hP hS (lv_sub hl [1, 2, 3, 4, 5, 6, 7, 0] rfl)
            · refine lv_iload hx hb dX4_cheapestBetween_98 (lv_at hl 0 rfl) ?_
              refine lv_if_eq (tgt := 114) hx hb dX4_cheapestBetween_100 (by decide) (fun c100 => ?_) (fun c100 => ?_)
              · have h_27 : rg 0 0 y75_0 := r_eq_l_i (e := 0) (f := 0) c100 hy75_0 (rgn 0 (x := 0) (by decide)) (by decide)
                exact j114 x29_4 _ _ ls hP hS (lv_sub hl [1, 2, 3, 4, 5, 6, 7, 0] rfl)
              · have h_28 : rg 1 1 y75_0 := r_ne_lo_i c100 hy75_0 (by decide) (by decide)
                refine lv_iload hx hb dX4_cheapestBetween_103 (lv_at hl 6 rfl) ?_
                refine lv_iload hx hb dX4_cheapestBetween_105 (lv_at hl 5 rfl) ?_
                refine lv_icmp_ge (tgt := 114) hx hb dX4_cheapestBetween_107 (by decide) (fun c107 => ?_) (fun c107 => ?_)
                · exact j114 x29_4 _ _ ls hP hS (lv_sub hl [1, 2, 3, 4, 5, 6, 7, 0] rfl)
                · have h_29 : rg (-2147483648) 2147483646 r44 := r_lt_l_i (nle_i c107) (rg_t r44) (rg_t x29_4) (by decide)
                  have h_30 : rg (-2147483647) 2147483647 x29_4 := r_lt_r_i (nle_i c107) (rg_t r44) (rg_t x29_4) (by decide)
                  exact j110 _ _ ls hP hS (lv_sub hl [1, 2, 3, 4, 5, 6, 7, 0] rfl)
          refine lv_icmp_ne (tgt := 74) hx hb dX4_cheapestBetween_67 (by decide) (fun c67 => ?_) (fun c67 => ?_)
          · refine lv_iconst (v := 0) hx hb dX4_cheapestBetween_74 (by decide) ?_
            exact j75 (0 : Int32) _ _ ls (rg_w (c := 0) (d := 1) (rgn 0 (x := 0) (by decide)) (by decide)) hP hS (lv_sub hl [1, 2, 3, 4, 5, 0, 6] rfl)
          · refine lv_iconst (v := 1) hx hb dX4_cheapestBetween_70 (by decide) ?_
            refine lv_goto (tgt := 75) hx hb dX4_cheapestBetween_71 (by decide) ?_
            exact j75 (1 : Int32) _ _ ls (rg_w (c := 0) (d := 1) (rgn 1 (x := 1) (by decide)) (by decide)) hP hS (lv_sub hl [1, 2, 3, 4, 5, 0, 6] rfl)
    exact j29 4294967296 p1 p1 (1 : Int32) _ _ ls (ms_e (1 : Int32)) (rg_w (c := 1) (d := 8) (rgn 1 (x := 1) (by decide)) (by decide)) hP hS (lv_sub hl [4, 5, 6, 3, 2, 1, 0] rfl)
  · have h_31 : rg (-1) (-1) r9 := r_eq_l_i (e := (-1)) (f := (-1)) c15 p_1 (rgn (-1) (x := (-1)) (by decide)) (by decide)
    refine lv_iconst (v := (-1)) hx hb dX4_cheapestBetween_18 (by decide) ?_
    exact W.iret (v := (-1)) hx hb hr (fun t ht hW => ⟨⟨(-1), (), rfl, trivial, trivial⟩, hS.F ht⟩) hS.2.2 dX4_cheapestBetween_19

set_option maxHeartbeats 4000000 in
set_option maxRecDepth 100000 in
theorem a_X4_askable (l : Launch) (G : va_G) (ct : Nat → ClassId) (a0 : Nat) (a1 : Nat) (a8 : Nat) (a13 : Nat) (n0_3 : Int32) (a9 : Nat) (a11 : Nat) (a12 : Nat) (n8_4 : Int32) (n8_5 : Int32) (n8_6 : Int32) (n8_7 : Int32) (a10 : Nat) (n9_1 : Int32) (f10 : Nat → Int32) (p0 : Int32) (hp_n9_1 : rg 0 8 n9_1) : Met l yX4_askable wsX4_askable ({ frames := 3, cells := 0, slots := 0, locals := 65 }) (va_Pc [.ref a0, .int p0] (roP G ct [(a0, .inr (4, [.ref a1, .ref a8, .ref a13, .int n0_3])), (a8, .inr (2, [.ref a1, .ref a9, .ref a11, .ref a12, .int n8_4, .int n8_5, .int n8_6, .int n8_7])), (a9, .inr (0, [.ref a10, .int n9_1])), (a10, .inl (ct 0, 8, .inl f10))])) (roQ (fun r => rg 0 255 r ∧ True)) 0 0 no := by
  refine Met.ofW (cc := cX4_askable) (maxL := 2) (ret := (some .int)) (by decide) rfl ?_
  intro p e s m args below meth c s₁ B hml hv
  obtain ⟨rfl, hP, hK⟩ := hv
  have hx := B.exec
  have hb := B.bytes
  have hr := B.returns
  have hts := atoms_spec (ws := wsX4_askable) B.pre
  have hown : s.vm.findClass RX4 = some m.cls := findClass_of_methodNamed B.named
  have hlocks := B.notSynchronized
  have hS : va_S no s.heap s.heap [] := va_S.rf
  have hl := lv_entry ([.ref a0, .int p0]) (n := 2) (Nat.le_of_ble_eq_true rfl)
  rw [lg_entry_eq]
  generalize (lg_sl ([.ref a0, .int p0]) ++ List.replicate (2 - (lg_sl ([.ref a0, .int p0])).length) Slot.unset).toArray = ls at hl ⊢
  have hl : lv_has ls 2 [(0, .ref a0), (1, .int p0)] := hl
  refine lv_aload_n hx hb dX4_askable_0 rfl (lv_at hl 0 rfl) ?_
  refine va_get (D := G) (ci := 4) (v := .ref a8) (C := RX4) (T := TX4) (N := 4) hx hb hts (by decide +kernel) hown hK.1 hP 0 rfl rfl 1 (by decide) (hts (.fieldLink RX4 23 "CardHolder$Play" "hands" "LCardHolder$Hands;") (by decide +kernel)) (fun _ h9 => h9) rfl dX4_askable_1 ?_
  refine va_get (D := G) (ci := 2) (v := .ref a9) (C := RX2) (T := TX2) (N := 8) hx hb hts (by decide +kernel) hown hK.1 hP 1 rfl rfl 1 (by decide) (hts (.fieldLink RX4 60 "CardHolder$Hands" "bonds" "LCardHolder$Bonds;") (by decide +kernel)) (fun _ h9 => h9) rfl dX4_askable_4 ?_
  refine lv_iload_n hx hb dX4_askable_7 rfl (lv_at hl 1 rfl) ?_
  refine ro_calli (va_runV (As := [.int p0]) (rest := []) ⟨hx, hb, hml, hown, hts⟩ (a_X0_handOf l G ct a9 a10 n9_1 f10 p0 hp_n9_1) (cwV 1 hts gX4_askable_X0_handOf rfl rfl rfl (by decide +kernel) ⟨Nat.le_of_ble_eq_true rfl, Nat.le_of_ble_eq_true rfl⟩) (ro_preV 0 0 hK (hP.sub [2, 3] rfl) rfl rfl) rfl rfl hl.1 rfl (lv_room (Nat.le_of_ble_eq_true rfl)) dX4_askable_8 ⟨Nat.zero_le _, Nat.zero_le _⟩) hS hP (fun r8 H locs wr8 hP hS => ?_)
  obtain ⟨p_1, -⟩ := wr8
  refine lv_aload_n hx hb dX4_askable_11 rfl (lv_at hl 0 rfl) ?_
  refine va_get (D := G) (ci := 4) (v := .ref a8) (C := RX4) (T := TX4) (N := 4) hx hb hts (by decide +kernel) hown hK.1 hP 0 rfl rfl 1 (by decide) (hts (.fieldLink RX4 23 "CardHolder$Play" "hands" "LCardHolder$Hands;") (by decide +kernel)) (fun _ h9 => h9) rfl dX4_askable_12 ?_
  refine va_get (D := G) (ci := 2) (v := .int n8_4) (C := RX2) (T := TX2) (N := 8) hx hb hts (by decide +kernel) hown hK.1 hP 1 rfl rfl 4 (by decide) (hts (.fieldLink RX4 108 "CardHolder$Hands" "askedToday" "I") (by decide +kernel)) (fun _ h9 => h9) rfl dX4_askable_15 ?_
  refine lv_iconst (v := (-1)) hx hb dX4_askable_18 (by decide) ?_
  refine lv_ixor hx hb dX4_askable_19 ?_
  refine nm_0 (fun z19 => ?_)
  refine lv_iand hx hb dX4_askable_20 ?_
  refine nm_andl p_1 (by decide) (fun z20 hz20 => ?_)
  exact W.iret (v := z20) hx hb hr (fun t ht hW => ⟨⟨z20, (), rfl, ⟨hz20, trivial⟩, trivial⟩, hS.F ht⟩) hS.2.2 dX4_askable_21

set_option maxHeartbeats 4000000 in
set_option maxRecDepth 100000 in
theorem a_X4_doersIn (l : Launch) (G : va_G) (ct : Nat → ClassId) (a0 : Nat) (a1 : Nat) (a8 : Nat) (a13 : Nat) (n0_3 : Int32) (a2 : Nat) (a4 : Nat) (a5 : Nat) (a6 : Nat) (a7 : Nat) (n1_5 : Int32) (n1_6 : Int32) (a3 : Nat) (n2_1 : Int32) (f5 : Nat → Int32) (a9 : Nat) (a11 : Nat) (a12 : Nat) (n8_4 : Int32) (n8_5 : Int32) (n8_6 : Int32) (n8_7 : Int32) (a10 : Nat) (n9_1 : Int32) (p0 : Int32) (p1 : Int32) (hp_n2_1 : rg 0 8 n2_1) (hp_n9_1 : rg 0 8 n9_1) : Met l yX4_doersIn wsX4_doersIn ({ frames := 2, cells := 0, slots := 0, locals := 42 }) (va_Pc [.ref a0, .int p0, .int p1] (roP G ct [(a0, .inr (4, [.ref a1, .ref a8, .ref a13, .int n0_3])), (a1, .inr (9, [.ref a2, .ref a4, .ref a5, .ref a6, .ref a7, .int n1_5, .int n1_6])), (a2, .inr (0, [.ref a3, .int n2_1])), (a5, .inl (ct 0, 8, .inl f5)), (a8, .inr (2, [.ref a1, .ref a9, .ref a11, .ref a12, .int n8_4, .int n8_5, .int n8_6, .int n8_7])), (a9, .inr (0, [.ref a10, .int n9_1]))])) (roQ (fun r => True)) 0 0 no := by
  refine Met.ofW (cc := cX4_doersIn) (maxL := 5) (ret := (some .int)) (by decide) rfl ?_
  intro p e s m args below meth c s₁ B hml hv
  obtain ⟨rfl, hP, hK⟩ := hv
  have hx := B.exec
  have hb := B.bytes
  have hr := B.returns
  have hts := atoms_spec (ws := wsX4_doersIn) B.pre
  have hown : s.vm.findClass RX4 = some m.cls := findClass_of_methodNamed B.named
  have hlocks := B.notSynchronized
  have hS : va_S no s.heap s.heap [] := va_S.rf
  have hl := lv_entry ([.ref a0, .int p0, .int p1]) (n := 5) (Nat.le_of_ble_eq_true rfl)
  rw [lg_entry_eq]
  generalize (lg_sl ([.ref a0, .int p0, .int p1]) ++ List.replicate (5 - (lg_sl ([.ref a0, .int p0, .int p1])).length) Slot.unset).toArray = ls at hl ⊢
  have hl : lv_has ls 5 [(0, .ref a0), (1, .int p0), (2, .int p1)] := hl
  refine lv_iconst (v := 0) hx hb dX4_doersIn_0 (by decide) ?_
  refine lv_istore_n (lv' := [(3, .int 0), (0, .ref a0), (1, .int p0), (2, .int p1)]) hx hb dX4_doersIn_1 rfl hl (by decide) rfl (fun ls hl => ?_)
  refine lv_iconst (v := 0) hx hb dX4_doersIn_2 (by decide) ?_
  refine lv_istore (lv' := [(4, .int 0), (3, .int 0), (0, .ref a0), (1, .int p0), (2, .int p1)]) hx hb dX4_doersIn_3 hl (by decide) rfl (fun ls hl => ?_)
  have j5 : ∀ (n : Nat) (x5_3 : Int32) (x5_4 : Int32) (H : Heap) (locs : List Loc) (ls : Array Slot), 2147483648 ≤ x5_4.toInt + (n : Int) → rg 0 8 x5_4 → va_P G vwCl [(a0, .inr (4, [.ref a1, .ref a8, .ref a13, .int n0_3])), (a1, .inr (9, [.ref a2, .ref a4, .ref a5, .ref a6, .ref a7, .int n1_5, .int n1_6])), (a2, .inr (0, [.ref a3, .int n2_1])), (a5, .inl (ct 0, 8, .inl f5)), (a8, .inr (2, [.ref a1, .ref a9, .ref a11, .ref a12, .int n8_4, .int n8_5, .int n8_6, .int n8_7])), (a9, .inr (0, [.ref a10, .int n9_1]))] H → va_S no s.heap H locs → lv_has ls 5 [(0, .ref a0), (1, .int p0), (2, .int p1), (3, .int x5_3), (4, .int x5_4)] → W p l e (headSpec wsX4_doersIn ({ frames := 2, cells := 0, slots := 0, locals := 42 })).room s m ([.ref a0, .int p0, .int p1] : List Value).toArray below meth c H locs 0 0 (MQ below (roQ (fun r => True)) ([.ref a0, .int p0, .int p1] : List Value).toArray s 0 0 no) (F0 m 5 ls []) := by
    intro n
    induction n with
    | zero => intro x5_3 x5_4 H locs ls hn5 hx5_4 hP hS hl; exact absurd hn5 (by have := Int32.toInt_lt x5_4; have := Int32.le_toInt x5_4; omega)
    | succ n ih5 =>
      intro x5_3 x5_4 H locs ls hn5 hx5_4 hP hS hl
      refine lv_iload hx hb dX4_doersIn_5 (lv_at hl 4 rfl) ?_
      refine lv_aload_n hx hb dX4_doersIn_7 rfl (lv_at hl 0 rfl) ?_
      refine va_get (D := G) (ci := 4) (v := .ref a8) (C := RX4) (T := TX4) (N := 4) hx hb hts (by decide +kernel) hown hK.1 hP 0 rfl rfl 1 (by decide) (hts (.fieldLink RX4 23 "CardHolder$Play" "hands" "LCardHolder$Hands;") (by decide +kernel)) (fun _ h9 => h9) rfl dX4_doersIn_8 ?_
      refine va_get (D := G) (ci := 2) (v := .ref a9) (C := RX2) (T := TX2) (N := 8) hx hb hts (by decide +kernel) hown hK.1 hP 4 rfl rfl 1 (by decide) (hts (.fieldLink RX4 60 "CardHolder$Hands" "bonds" "LCardHolder$Bonds;") (by decide +kernel)) (fun _ h9 => h9) rfl dX4_doersIn_11 ?_
      refine va_get (D := G) (ci := 0) (v := .int n9_1) (C := RX0) (T := TX0) (N := 2) hx hb hts (by decide +kernel) hown hK.1 hP 5 rfl rfl 1 (by decide) (hts (.fieldLink RX4 90 "CardHolder$Bonds" "persons" "I") (by decide +kernel)) (fun _ h9 => h9) rfl dX4_doersIn_14 ?_
      refine lv_icmp_ge (tgt := 53) hx hb dX4_doersIn_17 (by decide) (fun c17 => ?_) (fun c17 => ?_)
      · refine lv_iload_n hx hb dX4_doersIn_53 rfl (lv_at hl 3 rfl) ?_
        exact W.iret (v := x5_3) hx hb hr (fun t ht hW => ⟨⟨x5_3, (), rfl, trivial, trivial⟩, hS.F ht⟩) hS.2.2 dX4_doersIn_54
      · have h_1 : rg 0 7 x5_4 := r_lt_l_i (nle_i c17) hx5_4 hp_n9_1 (by decide)
        have h_2 : rg 1 8 n9_1 := r_lt_r_i (nle_i c17) hx5_4 hp_n9_1 (by decide)
        refine lv_iload_n hx hb dX4_doersIn_20 rfl (lv_at hl 1 rfl) ?_
        refine lv_iload hx hb dX4_doersIn_21 (lv_at hl 4 rfl) ?_
        refine ro_calli (va_runSN (As := [.int p0, .int x5_4]) (rest := []) ⟨hx, hb, hml, hown, hts⟩ (a_X10_bitOf l G ct p0 x5_4) ⟨va_cnB 2 hts gX4_doersIn_X10_bitOf_n99 rfl rfl rfl (hK.2.1 (RX4, 99, yX10_bitOf, "CardHolder") (by decide +kernel)) (hts (.initialized RX10) (by decide +kernel)) (by decide +kernel) ⟨Nat.le_of_ble_eq_true rfl, Nat.le_of_ble_eq_true rfl⟩, hts (.static yX10_bitOf) (by decide +kernel), trivial⟩ (ro_pre hK (hP.sub [] rfl)) rfl rfl hl.1 rfl (lv_room (Nat.le_of_ble_eq_true rfl)) dX4_doersIn_23 ⟨Nat.zero_le _, Nat.zero_le _⟩) hS hP (fun r23 H locs wr23 hP hS => ?_)
        obtain ⟨p_3, -⟩ := wr23
        refine lv_iconst (v := 1) hx hb dX4_doersIn_26 (by decide) ?_
        have j47 : ∀ (x47_3 : Int32) (H : Heap) (locs : List Loc) (ls : Array Slot), va_P G vwCl [(a0, .inr (4, [.ref a1, .ref a8, .ref a13, .int n0_3])), (a1, .inr (9, [.ref a2, .ref a4, .ref a5, .ref a6, .ref a7, .int n1_5, .int n1_6])), (a2, .inr (0, [.ref a3, .int n2_1])), (a5, .inl (ct 0, 8, .inl f5)), (a8, .inr (2, [.ref a1, .ref a9, .ref a11, .ref a12, .int n8_4, .int n8_5, .int n8_6, .int n8_7])), (a9, .inr (0, [.ref a10, .int n9_1]))] H → va_S no s.heap H locs → lv_has ls 5 [(0, .ref a0), (1, .int p0), (2, .int p1), (3, .int x47_3), (4, .int x5_4)] → W p l e (headSpec wsX4_doersIn ({ frames := 2, cells := 0, slots := 0, locals := 42 })).room s m ([.ref a0, .int p0, .int p1] : List Value).toArray below meth c H locs 0 0 (MQ below (roQ (fun r => True)) ([.ref a0, .int p0, .int p1] : List Value).toArray s 0 0 no) (F0 m 47 ls []) := by
          intro x47_3 H locs ls  hP hS hl
          obtain ⟨z47, qz47⟩ : ∃ y : Int32, y = x5_4 + Int32.ofInt 1 := ⟨_, rfl⟩
          obtain ⟨hz47, ez47⟩ := inc_z (e := 1) (f := 8) h_1 qz47 (by decide)
          refine lv_iinc (v := z47) (lv' := [(4, .int z47), (0, .ref a0), (1, .int p0), (2, .int p1), (3, .int x47_3)]) hx hb dX4_doersIn_47 hl (k := 4) rfl (qz47.symm) (by decide) rfl (fun ls hl => ?_)
          refine lv_goto (tgt := 5) hx hb dX4_doersIn_50 (by decide) ?_
          exact ih5 x47_3 z47 _ _ ls (by have q := hn5; have := ez47; omega) (rg_w (c := 0) (d := 8) hz47 (by decide)) hP hS (lv_sub hl [1, 2, 3, 4, 0] rfl)
        refine lv_icmp_ne (tgt := 47) hx hb dX4_doersIn_27 (by decide) (fun c27 => ?_) (fun c27 => ?_)
        · have h_4 : rg 0 0 r23 := r_ne_hi_i c27 p_3 (by decide) (by decide)
          exact j47 x5_3 _ _ ls hP hS (lv_sub hl [0, 1, 2, 3, 4] rfl)
        · have h_5 : rg 1 1 r23 := r_eq_l_i (e := 1) (f := 1) c27 p_3 (rgn 1 (x := 1) (by decide)) (by decide)
          refine lv_aload_n hx hb dX4_doersIn_30 rfl (lv_at hl 0 rfl) ?_
          refine va_get (D := G) (ci := 4) (v := .ref a1) (C := RX4) (T := TX4) (N := 4) hx hb hts (by decide +kernel) hown hK.1 hP 0 rfl rfl 0 (by decide) (hts (.fieldLink RX4 12 "CardHolder$Play" "town" "LCardHolder$Town;") (by decide +kernel)) (fun _ h9 => h9) rfl dX4_doersIn_31 ?_
          refine lv_iload hx hb dX4_doersIn_34 (lv_at hl 4 rfl) ?_
          refine ro_calli (va_runV (As := [.int x5_4]) (rest := []) ⟨hx, hb, hml, hown, hts⟩ (a_X9_deedsOf l G ct a1 a2 a4 a5 a6 a7 n1_5 n1_6 a3 n2_1 f5 x5_4 hp_n2_1) (cwV 1 hts gX4_doersIn_X9_deedsOf rfl rfl rfl (by decide +kernel) ⟨Nat.le_of_ble_eq_true rfl, Nat.le_of_ble_eq_true rfl⟩) (ro_preV 9 0 hK (hP.sub [1, 2, 3] rfl) rfl rfl) rfl rfl hl.1 rfl (lv_room (Nat.le_of_ble_eq_true rfl)) dX4_doersIn_36 ⟨Nat.zero_le _, Nat.zero_le _⟩) hS hP (fun r36 H locs wr36 hP hS => ?_)
          obtain ⟨p_6, p_7, p_8, p_9, -⟩ := wr36
          refine lv_iload_n hx hb dX4_doersIn_39 rfl (lv_at hl 2 rfl) ?_
          refine lv_iand hx hb dX4_doersIn_40 ?_
          refine nm_0 (fun z40 => ?_)
          refine lv_if_eq (tgt := 47) hx hb dX4_doersIn_41 (by decide) (fun c41 => ?_) (fun c41 => ?_)
          · have h_10 : rg 0 0 z40 := r_eq_l_i (e := 0) (f := 0) c41 (rg_t z40) (rgn 0 (x := 0) (by decide)) (by decide)
            exact j47 x5_3 _ _ ls hP hS (lv_sub hl [0, 1, 2, 3, 4] rfl)
          · obtain ⟨z44, qz44⟩ : ∃ y : Int32, y = x5_3 + Int32.ofInt 1 := ⟨_, rfl⟩
            refine lv_iinc (v := z44) (lv' := [(3, .int z44), (0, .ref a0), (1, .int p0), (2, .int p1), (4, .int x5_4)]) hx hb dX4_doersIn_44 hl (k := 3) rfl (qz44.symm) (by decide) rfl (fun ls hl => ?_)
            exact j47 z44 _ _ ls hP hS (lv_sub hl [1, 2, 3, 0, 4] rfl)
  exact j5 4294967296 (0 : Int32) (0 : Int32) _ _ ls (ms_e (0 : Int32)) (rg_w (c := 0) (d := 8) (rgn 0 (x := 0) (by decide)) (by decide)) hP hS (lv_sub hl [2, 3, 4, 1, 0] rfl)

set_option maxHeartbeats 4000000 in
set_option maxRecDepth 100000 in
theorem a_X4_mostWishes (l : Launch) (G : va_G) (ct : Nat → ClassId) (a0 : Nat) (a1 : Nat) (a8 : Nat) (a13 : Nat) (n0_3 : Int32) (a2 : Nat) (a4 : Nat) (a5 : Nat) (a6 : Nat) (a7 : Nat) (n1_5 : Int32) (n1_6 : Int32) (a3 : Nat) (n2_1 : Int32) (f5 : Nat → Int32) (a9 : Nat) (a11 : Nat) (a12 : Nat) (n8_4 : Int32) (n8_5 : Int32) (n8_6 : Int32) (n8_7 : Int32) (a10 : Nat) (n9_1 : Int32) (p0 : Int32) (p1 : Int32) (hp_n2_1 : rg 0 8 n2_1) (hp_n9_1 : rg 0 8 n9_1) : Met l yX4_mostWishes wsX4_mostWishes ({ frames := 3, cells := 0, slots := 0, locals := 66 }) (va_Pc [.ref a0, .int p0, .int p1] (roP G ct [(a0, .inr (4, [.ref a1, .ref a8, .ref a13, .int n0_3])), (a1, .inr (9, [.ref a2, .ref a4, .ref a5, .ref a6, .ref a7, .int n1_5, .int n1_6])), (a2, .inr (0, [.ref a3, .int n2_1])), (a5, .inl (ct 0, 8, .inl f5)), (a8, .inr (2, [.ref a1, .ref a9, .ref a11, .ref a12, .int n8_4, .int n8_5, .int n8_6, .int n8_7])), (a9, .inr (0, [.ref a10, .int n9_1]))])) (roQ (fun r => rg (-2147483648) 63 r ∧ True)) 0 0 no := by
  refine Met.ofW (cc := cX4_mostWishes) (maxL := 6) (ret := (some .int)) (by decide) rfl ?_
  intro p e s m args below meth c s₁ B hml hv
  obtain ⟨rfl, hP, hK⟩ := hv
  have hx := B.exec
  have hb := B.bytes
  have hr := B.returns
  have hts := atoms_spec (ws := wsX4_mostWishes) B.pre
  have hown : s.vm.findClass RX4 = some m.cls := findClass_of_methodNamed B.named
  have hlocks := B.notSynchronized
  have hS : va_S no s.heap s.heap [] := va_S.rf
  have hl := lv_entry ([.ref a0, .int p0, .int p1]) (n := 6) (Nat.le_of_ble_eq_true rfl)
  rw [lg_entry_eq]
  generalize (lg_sl ([.ref a0, .int p0, .int p1]) ++ List.replicate (6 - (lg_sl ([.ref a0, .int p0, .int p1])).length) Slot.unset).toArray = ls at hl ⊢
  have hl : lv_has ls 6 [(0, .ref a0), (1, .int p0), (2, .int p1)] := hl
  refine lv_iload_n hx hb dX4_mostWishes_0 rfl (lv_at hl 1 rfl) ?_
  refine ro_calli (va_runS (As := [.int p0]) (rest := []) ⟨hx, hb, hml, hown, hts⟩ (a_J6_bitCount_0f7a4 l G ct p0) (va_cwS 1 hts gX4_mostWishes_J6_bitCount_0f7a4 rfl rfl rfl (by decide +kernel) ⟨Nat.le_of_ble_eq_true rfl, Nat.le_of_ble_eq_true rfl⟩) (ro_pre hK (hP.sub [] rfl)) rfl rfl hl.1 rfl (lv_room (Nat.le_of_ble_eq_true rfl)) dX4_mostWishes_1 ⟨Nat.zero_le _, Nat.zero_le _⟩) hS hP (fun r1 H locs wr1 hP hS => ?_)
  obtain ⟨p_1, -⟩ := wr1
  refine lv_istore_n (lv' := [(3, .int r1), (0, .ref a0), (1, .int p0), (2, .int p1)]) hx hb dX4_mostWishes_4 rfl hl (by decide) rfl (fun ls hl => ?_)
  refine lv_iconst (v := 0) hx hb dX4_mostWishes_5 (by decide) ?_
  refine lv_istore (lv' := [(4, .int 0), (3, .int r1), (0, .ref a0), (1, .int p0), (2, .int p1)]) hx hb dX4_mostWishes_6 hl (by decide) rfl (fun ls hl => ?_)
  have j8 : ∀ (n : Nat) (x8_3 : Int32) (x8_4 : Int32) (H : Heap) (locs : List Loc) (ls : Array Slot), 2147483648 ≤ x8_4.toInt + (n : Int) → rg (-2147483648) 63 x8_3 → rg 0 64 x8_4 → va_P G vwCl [(a0, .inr (4, [.ref a1, .ref a8, .ref a13, .int n0_3])), (a1, .inr (9, [.ref a2, .ref a4, .ref a5, .ref a6, .ref a7, .int n1_5, .int n1_6])), (a2, .inr (0, [.ref a3, .int n2_1])), (a5, .inl (ct 0, 8, .inl f5)), (a8, .inr (2, [.ref a1, .ref a9, .ref a11, .ref a12, .int n8_4, .int n8_5, .int n8_6, .int n8_7])), (a9, .inr (0, [.ref a10, .int n9_1]))] H → va_S no s.heap H locs → lv_has ls 6 [(0, .ref a0), (1, .int p0), (2, .int p1), (3, .int x8_3), (4, .int x8_4)] → W p l e (headSpec wsX4_mostWishes ({ frames := 3, cells := 0, slots := 0, locals := 66 })).room s m ([.ref a0, .int p0, .int p1] : List Value).toArray below meth c H locs 0 0 (MQ below (roQ (fun r => rg (-2147483648) 63 r ∧ True)) ([.ref a0, .int p0, .int p1] : List Value).toArray s 0 0 no) (F0 m 8 ls []) := by
    intro n
    induction n with
    | zero => intro x8_3 x8_4 H locs ls hn8 hx8_3 hx8_4 hP hS hl; exact absurd hn8 (by have := Int32.toInt_lt x8_4; have := Int32.le_toInt x8_4; omega)
    | succ n ih8 =>
      intro x8_3 x8_4 H locs ls hn8 hx8_3 hx8_4 hP hS hl
      refine lv_iload hx hb dX4_mostWishes_8 (lv_at hl 4 rfl) ?_
      refine lv_bipush (v := 64) hx hb dX4_mostWishes_10 (by decide) ?_
      refine lv_icmp_ge (tgt := 60) hx hb dX4_mostWishes_12 (by decide) (fun c12 => ?_) (fun c12 => ?_)
      · have h_2 : rg 64 64 x8_4 := r_le_r_i c12 (rgn 64 (x := 64) (by decide)) hx8_4
        refine lv_iload_n hx hb dX4_mostWishes_60 rfl (lv_at hl 3 rfl) ?_
        exact W.iret (v := x8_3) hx hb hr (fun t ht hW => ⟨⟨x8_3, (), rfl, ⟨hx8_3, trivial⟩, trivial⟩, hS.F ht⟩) hS.2.2 dX4_mostWishes_61
      · have h_3 : rg 0 63 x8_4 := r_lt_l_i (nle_i c12) hx8_4 (rgn 64 (x := 64) (by decide)) (by decide)
        refine lv_iload_n hx hb dX4_mostWishes_15 rfl (lv_at hl 1 rfl) ?_
        refine lv_if_eq (tgt := 60) hx hb dX4_mostWishes_16 (by decide) (fun c16 => ?_) (fun c16 => ?_)
        · have h_4 : rg 0 0 p0 := r_eq_l_i (e := 0) (f := 0) c16 (rg_t p0) (rgn 0 (x := 0) (by decide)) (by decide)
          refine lv_iload_n hx hb dX4_mostWishes_60 rfl (lv_at hl 3 rfl) ?_
          exact W.iret (v := x8_3) hx hb hr (fun t ht hW => ⟨⟨x8_3, (), rfl, ⟨hx8_3, trivial⟩, trivial⟩, hS.F ht⟩) hS.2.2 dX4_mostWishes_61
        · refine lv_iload hx hb dX4_mostWishes_19 (lv_at hl 4 rfl) ?_
          refine lv_iload_n hx hb dX4_mostWishes_21 rfl (lv_at hl 2 rfl) ?_
          refine lv_iconst (v := (-1)) hx hb dX4_mostWishes_22 (by decide) ?_
          refine lv_ixor hx hb dX4_mostWishes_23 ?_
          refine nm_0 (fun z23 => ?_)
          refine lv_iand hx hb dX4_mostWishes_24 ?_
          refine nm_andl h_3 (by decide) (fun z24 hz24 => ?_)
          have j54 : ∀ (x54_3 : Int32) (H : Heap) (locs : List Loc) (ls : Array Slot), rg (-2147483648) 63 x54_3 → va_P G vwCl [(a0, .inr (4, [.ref a1, .ref a8, .ref a13, .int n0_3])), (a1, .inr (9, [.ref a2, .ref a4, .ref a5, .ref a6, .ref a7, .int n1_5, .int n1_6])), (a2, .inr (0, [.ref a3, .int n2_1])), (a5, .inl (ct 0, 8, .inl f5)), (a8, .inr (2, [.ref a1, .ref a9, .ref a11, .ref a12, .int n8_4, .int n8_5, .int n8_6, .int n8_7])), (a9, .inr (0, [.ref a10, .int n9_1]))] H → va_S no s.heap H locs → lv_has ls 6 [(0, .ref a0), (1, .int p0), (2, .int p1), (3, .int x54_3), (4, .int x8_4)] → W p l e (headSpec wsX4_mostWishes ({ frames := 3, cells := 0, slots := 0, locals := 66 })).room s m ([.ref a0, .int p0, .int p1] : List Value).toArray below meth c H locs 0 0 (MQ below (roQ (fun r => rg (-2147483648) 63 r ∧ True)) ([.ref a0, .int p0, .int p1] : List Value).toArray s 0 0 no) (F0 m 54 ls []) := by
            intro x54_3 H locs ls hx54_3 hP hS hl
            obtain ⟨z54, qz54⟩ : ∃ y : Int32, y = x8_4 + Int32.ofInt 1 := ⟨_, rfl⟩
            obtain ⟨hz54, ez54⟩ := inc_z (e := 1) (f := 64) h_3 qz54 (by decide)
            refine lv_iinc (v := z54) (lv' := [(4, .int z54), (0, .ref a0), (1, .int p0), (2, .int p1), (3, .int x54_3)]) hx hb dX4_mostWishes_54 hl (k := 4) rfl (qz54.symm) (by decide) rfl (fun ls hl => ?_)
            refine lv_goto (tgt := 8) hx hb dX4_mostWishes_57 (by decide) ?_
            exact ih8 x54_3 z54 _ _ ls (by have q := hn8; have := ez54; omega) hx54_3 (rg_w (c := 0) (d := 64) hz54 (by decide)) hP hS (lv_sub hl [1, 2, 3, 4, 0] rfl)
          refine lv_if_ne (tgt := 54) hx hb dX4_mostWishes_25 (by decide) (fun c25 => ?_) (fun c25 => ?_)
          · have h_5 : rg 1 63 z24 := r_ne_lo_i c25 hz24 (by decide) (by decide)
            exact j54 x8_3 _ _ ls hx8_3 hP hS (lv_sub hl [0, 1, 2, 3, 4] rfl)
          · have h_6 : rg 0 0 z24 := r_eq_l_i (e := 0) (f := 0) c25 hz24 (rgn 0 (x := 0) (by decide)) (by decide)
            refine lv_aload_n hx hb dX4_mostWishes_28 rfl (lv_at hl 0 rfl) ?_
            refine lv_iload_n hx hb dX4_mostWishes_29 rfl (lv_at hl 1 rfl) ?_
            refine lv_iload_n hx hb dX4_mostWishes_30 rfl (lv_at hl 2 rfl) ?_
            refine lv_iload hx hb dX4_mostWishes_31 (lv_at hl 4 rfl) ?_
            refine lv_iconst (v := (-1)) hx hb dX4_mostWishes_33 (by decide) ?_
            refine lv_ixor hx hb dX4_mostWishes_34 ?_
            refine nm_0 (fun z34 => ?_)
            refine lv_iand hx hb dX4_mostWishes_35 ?_
            refine nm_0 (fun z35 => ?_)
            refine ro_calli (va_runV (As := [.int p0, .int z35]) (rest := []) ⟨hx, hb, hml, hown, hts⟩ (a_X4_doersIn l G ct a0 a1 a8 a13 n0_3 a2 a4 a5 a6 a7 n1_5 n1_6 a3 n2_1 f5 a9 a11 a12 n8_4 n8_5 n8_6 n8_7 a10 n9_1 p0 z35 hp_n2_1 hp_n9_1) (cwV 2 hts gX4_mostWishes_X4_doersIn rfl rfl rfl (by decide +kernel) ⟨Nat.le_of_ble_eq_true rfl, Nat.le_of_ble_eq_true rfl⟩) (ro_preV 4 0 hK (hP.sub [0, 1, 2, 3, 4, 5] rfl) rfl rfl) rfl rfl hl.1 rfl (lv_room (Nat.le_of_ble_eq_true rfl)) dX4_mostWishes_36 ⟨Nat.zero_le _, Nat.zero_le _⟩) hS hP (fun r36 H locs wr36 hP hS => ?_)
            refine lv_istore (lv' := [(5, .int r36), (0, .ref a0), (1, .int p0), (2, .int p1), (3, .int x8_3), (4, .int x8_4)]) hx hb dX4_mostWishes_39 hl (by decide) rfl (fun ls hl => ?_)
            refine lv_iload_n hx hb dX4_mostWishes_41 rfl (lv_at hl 4 rfl) ?_
            refine lv_iload hx hb dX4_mostWishes_42 (lv_at hl 5 rfl) ?_
            refine ro_calli (va_runS (As := [.int x8_4]) (rest := [.int x8_3]) ⟨hx, hb, hml, hown, hts⟩ (a_J6_bitCount_0f7a4 l G ct x8_4) (va_cwS 1 hts gX4_mostWishes_J6_bitCount_0f7a4 rfl rfl rfl (by decide +kernel) ⟨Nat.le_of_ble_eq_true rfl, Nat.le_of_ble_eq_true rfl⟩) (ro_pre hK (hP.sub [] rfl)) rfl rfl hl.1 rfl (lv_room (Nat.le_of_ble_eq_true rfl)) dX4_mostWishes_44 ⟨Nat.zero_le _, Nat.zero_le _⟩) hS hP (fun r44 H locs wr44 hP hS => ?_)
            obtain ⟨p_7, -⟩ := wr44
            refine lv_iload hx hb dX4_mostWishes_47 (lv_at hl 0 rfl) ?_
            refine lv_iadd hx hb dX4_mostWishes_49 ?_
            refine nm_0 (fun z49 => ?_)
            refine va_mmin hx hb (hml.trans hl.1.symm) hown (hts (.methodLink RX4 119 Lib.Math.min.name) (by decide +kernel)) (hts (.static Lib.Math.min.name) (by decide +kernel)) (hts (.initialized "java/lang/Math") (by decide +kernel)) (hts (.code Lib.Math.min.name Lib.Math.min.code 2 (some .int)) (List.mem_of_getElem? (i := 4) rfl)) (Nat.le_of_ble_eq_true rfl) (Nat.le_of_ble_eq_true rfl) (Nat.zero_le _) (Nat.zero_le _) dX4_mostWishes_50 ?_
            refine nm_min (e1 := (-2147483648)) (f := 63) hx8_3 (rg_t z49) (by decide) (fun z50 hz50 => ?_)
            refine lv_istore_n (lv' := [(3, .int z50), (5, .int r36), (0, .ref a0), (1, .int p0), (2, .int p1), (4, .int x8_4)]) hx hb dX4_mostWishes_53 rfl hl (by decide) rfl (fun ls hl => ?_)
            exact j54 z50 _ _ ls hz50 hP hS (lv_sub hl [2, 3, 4, 0, 5] rfl)
  exact j8 4294967296 r1 (0 : Int32) _ _ ls (ms_e (0 : Int32)) (rg_w (c := (-2147483648)) (d := 63) p_1 (by decide)) (rg_w (c := 0) (d := 64) (rgn 0 (x := 0) (by decide)) (by decide)) hP hS (lv_sub hl [2, 3, 4, 1, 0] rfl)

set_option maxHeartbeats 4000000 in
set_option maxRecDepth 100000 in
theorem a_X4_leastWork (l : Launch) (G : va_G) (ct : Nat → ClassId) (a0 : Nat) (a1 : Nat) (a8 : Nat) (a13 : Nat) (n0_3 : Int32) (a2 : Nat) (a4 : Nat) (a5 : Nat) (a6 : Nat) (a7 : Nat) (n1_5 : Int32) (n1_6 : Int32) (a3 : Nat) (n2_1 : Int32) (f5 : Nat → Int32) (a9 : Nat) (a11 : Nat) (a12 : Nat) (n8_4 : Int32) (n8_5 : Int32) (n8_6 : Int32) (n8_7 : Int32) (a10 : Nat) (n9_1 : Int32) (p0 : Int32) (p1 : Int32) (p2 : Int32) (hp_n2_1 : rg 0 8 n2_1) (hp_n9_1 : rg 0 8 n9_1) : Met l yX4_leastWork wsX4_leastWork ({ frames := 4, cells := 0, slots := 0, locals := 91 }) (va_Pc [.ref a0, .int p0, .int p1, .int p2] (roP G ct [(a0, .inr (4, [.ref a1, .ref a8, .ref a13, .int n0_3])), (a1, .inr (9, [.ref a2, .ref a4, .ref a5, .ref a6, .ref a7, .int n1_5, .int n1_6])), (a2, .inr (0, [.ref a3, .int n2_1])), (a5, .inl (ct 0, 8, .inl f5)), (a8, .inr (2, [.ref a1, .ref a9, .ref a11, .ref a12, .int n8_4, .int n8_5, .int n8_6, .int n8_7])), (a9, .inr (0, [.ref a10, .int n9_1]))])) (roQ (fun r => rg (-1) 5 r ∧ True)) 0 0 no := by
  refine Met.ofW (cc := cX4_leastWork) (maxL := 7) (ret := (some .int)) (by decide) rfl ?_
  intro p e s m args below meth c s₁ B hml hv
  obtain ⟨rfl, hP, hK⟩ := hv
  have hx := B.exec
  have hb := B.bytes
  have hr := B.returns
  have hts := atoms_spec (ws := wsX4_leastWork) B.pre
  have hown : s.vm.findClass RX4 = some m.cls := findClass_of_methodNamed B.named
  have hlocks := B.notSynchronized
  have hS : va_S no s.heap s.heap [] := va_S.rf
  have hl := lv_entry ([.ref a0, .int p0, .int p1, .int p2]) (n := 7) (Nat.le_of_ble_eq_true rfl)
  rw [lg_entry_eq]
  generalize (lg_sl ([.ref a0, .int p0, .int p1, .int p2]) ++ List.replicate (7 - (lg_sl ([.ref a0, .int p0, .int p1, .int p2])).length) Slot.unset).toArray = ls at hl ⊢
  have hl : lv_has ls 7 [(0, .ref a0), (1, .int p0), (2, .int p1), (3, .int p2)] := hl
  refine lv_aload_n hx hb dX4_leastWork_0 rfl (lv_at hl 0 rfl) ?_
  refine lv_iload_n hx hb dX4_leastWork_1 rfl (lv_at hl 2 rfl) ?_
  refine lv_iconst (v := 1) hx hb dX4_leastWork_2 (by decide) ?_
  refine lv_iload_n hx hb dX4_leastWork_3 rfl (lv_at hl 1 rfl) ?_
  refine lv_ishl hx hb dX4_leastWork_4 ?_
  refine nm_0 (fun z4 => ?_)
  refine lv_ior hx hb dX4_leastWork_5 ?_
  refine nm_0 (fun z5 => ?_)
  refine lv_iload_n hx hb dX4_leastWork_6 rfl (lv_at hl 3 rfl) ?_
  refine ro_calli (va_runV (As := [.int z5, .int p2]) (rest := []) ⟨hx, hb, hml, hown, hts⟩ (a_X4_mostWishes l G ct a0 a1 a8 a13 n0_3 a2 a4 a5 a6 a7 n1_5 n1_6 a3 n2_1 f5 a9 a11 a12 n8_4 n8_5 n8_6 n8_7 a10 n9_1 z5 p2 hp_n2_1 hp_n9_1) (cwV 2 hts gX4_leastWork_X4_mostWishes rfl rfl rfl (by decide +kernel) ⟨Nat.le_of_ble_eq_true rfl, Nat.le_of_ble_eq_true rfl⟩) (ro_preV 4 0 hK (hP.sub [0, 1, 2, 3, 4, 5] rfl) rfl rfl) rfl rfl hl.1 rfl (lv_room (Nat.le_of_ble_eq_true rfl)) dX4_leastWork_7 ⟨Nat.zero_le _, Nat.zero_le _⟩) hS hP (fun r7 H locs wr7 hP hS => ?_)
  obtain ⟨p_1, -⟩ := wr7
  refine lv_istore (lv' := [(4, .int r7), (0, .ref a0), (1, .int p0), (2, .int p1), (3, .int p2)]) hx hb dX4_leastWork_10 hl (by decide) rfl (fun ls hl => ?_)
  refine lv_iconst (v := 0) hx hb dX4_leastWork_12 (by decide) ?_
  refine lv_istore (lv' := [(5, .int 0), (4, .int r7), (0, .ref a0), (1, .int p0), (2, .int p1), (3, .int p2)]) hx hb dX4_leastWork_13 hl (by decide) rfl (fun ls hl => ?_)
  have j15 : ∀ (n : Nat) (x15_5 : Int32) (H : Heap) (locs : List Loc) (ls : Array Slot), 2147483648 ≤ x15_5.toInt + (n : Int) → rg 0 6 x15_5 → va_P G vwCl [(a0, .inr (4, [.ref a1, .ref a8, .ref a13, .int n0_3])), (a1, .inr (9, [.ref a2, .ref a4, .ref a5, .ref a6, .ref a7, .int n1_5, .int n1_6])), (a2, .inr (0, [.ref a3, .int n2_1])), (a5, .inl (ct 0, 8, .inl f5)), (a8, .inr (2, [.ref a1, .ref a9, .ref a11, .ref a12, .int n8_4, .int n8_5, .int n8_6, .int n8_7])), (a9, .inr (0, [.ref a10, .int n9_1]))] H → va_S no s.heap H locs → lv_has ls 7 [(0, .ref a0), (1, .int p0), (2, .int p1), (3, .int p2), (4, .int r7), (5, .int x15_5)] → W p l e (headSpec wsX4_leastWork ({ frames := 4, cells := 0, slots := 0, locals := 91 })).room s m ([.ref a0, .int p0, .int p1, .int p2] : List Value).toArray below meth c H locs 0 0 (MQ below (roQ (fun r => rg (-1) 5 r ∧ True)) ([.ref a0, .int p0, .int p1, .int p2] : List Value).toArray s 0 0 no) (F0 m 15 ls []) := by
    intro n
    induction n with
    | zero => intro x15_5 H locs ls hn15 hx15_5 hP hS hl; exact absurd hn15 (by have := Int32.toInt_lt x15_5; have := Int32.le_toInt x15_5; omega)
    | succ n ih15 =>
      intro x15_5 H locs ls hn15 hx15_5 hP hS hl
      refine lv_iload hx hb dX4_leastWork_15 (lv_at hl 5 rfl) ?_
      refine lv_bipush (v := 6) hx hb dX4_leastWork_17 (by decide) ?_
      refine lv_icmp_ge (tgt := 82) hx hb dX4_leastWork_19 (by decide) (fun c19 => ?_) (fun c19 => ?_)
      · have h_2 : rg 6 6 x15_5 := r_le_r_i c19 (rgn 6 (x := 6) (by decide)) hx15_5
        refine lv_iconst (v := (-1)) hx hb dX4_leastWork_82 (by decide) ?_
        exact W.iret (v := (-1)) hx hb hr (fun t ht hW => ⟨⟨(-1), (), rfl, ⟨(rg_w (c := (-1)) (d := 5) (rgn (-1) (x := (-1)) (by decide)) (by decide)), trivial⟩, trivial⟩, hS.F ht⟩) hS.2.2 dX4_leastWork_83
      · have h_3 : rg 0 5 x15_5 := r_lt_l_i (nle_i c19) hx15_5 (rgn 6 (x := 6) (by decide)) (by decide)
        refine lv_aload_n hx hb dX4_leastWork_22 rfl (lv_at hl 0 rfl) ?_
        refine va_get (D := G) (ci := 4) (v := .ref a1) (C := RX4) (T := TX4) (N := 4) hx hb hts (by decide +kernel) hown hK.1 hP 0 rfl rfl 0 (by decide) (hts (.fieldLink RX4 12 "CardHolder$Play" "town" "LCardHolder$Town;") (by decide +kernel)) (fun _ h9 => h9) rfl dX4_leastWork_23 ?_
        refine lv_iload_n hx hb dX4_leastWork_26 rfl (lv_at hl 1 rfl) ?_
        refine ro_calli (va_runV (As := [.int p0]) (rest := []) ⟨hx, hb, hml, hown, hts⟩ (a_X9_deedsOf l G ct a1 a2 a4 a5 a6 a7 n1_5 n1_6 a3 n2_1 f5 p0 hp_n2_1) (cwV 1 hts gX4_leastWork_X9_deedsOf rfl rfl rfl (by decide +kernel) ⟨Nat.le_of_ble_eq_true rfl, Nat.le_of_ble_eq_true rfl⟩) (ro_preV 9 0 hK (hP.sub [1, 2, 3] rfl) rfl rfl) rfl rfl hl.1 rfl (lv_room (Nat.le_of_ble_eq_true rfl)) dX4_leastWork_27 ⟨Nat.zero_le _, Nat.zero_le _⟩) hS hP (fun r27 H locs wr27 hP hS => ?_)
        obtain ⟨p_4, p_5, p_6, p_7, -⟩ := wr27
        refine lv_iload_n hx hb dX4_leastWork_30 rfl (lv_at hl 3 rfl) ?_
        refine lv_iand hx hb dX4_leastWork_31 ?_
        refine nm_0 (fun z31 => ?_)
        refine lv_iload hx hb dX4_leastWork_32 (lv_at hl 5 rfl) ?_
        refine ro_calli (va_runSN (As := [.int z31, .int x15_5]) (rest := []) ⟨hx, hb, hml, hown, hts⟩ (a_X10_bitOf l G ct z31 x15_5) ⟨va_cnB 2 hts gX4_leastWork_X10_bitOf_n99 rfl rfl rfl (hK.2.1 (RX4, 99, yX10_bitOf, "CardHolder") (by decide +kernel)) (hts (.initialized RX10) (by decide +kernel)) (by decide +kernel) ⟨Nat.le_of_ble_eq_true rfl, Nat.le_of_ble_eq_true rfl⟩, hts (.static yX10_bitOf) (by decide +kernel), trivial⟩ (ro_pre hK (hP.sub [] rfl)) rfl rfl hl.1 rfl (lv_room (Nat.le_of_ble_eq_true rfl)) dX4_leastWork_34 ⟨Nat.zero_le _, Nat.zero_le _⟩) hS hP (fun r34 H locs wr34 hP hS => ?_)
        obtain ⟨p_8, -⟩ := wr34
        refine lv_iconst (v := 1) hx hb dX4_leastWork_37 (by decide) ?_
        have j46 : ∀ (y46_0 : Int32) (H : Heap) (locs : List Loc) (ls : Array Slot), rg 0 1 y46_0 → va_P G vwCl [(a0, .inr (4, [.ref a1, .ref a8, .ref a13, .int n0_3])), (a1, .inr (9, [.ref a2, .ref a4, .ref a5, .ref a6, .ref a7, .int n1_5, .int n1_6])), (a2, .inr (0, [.ref a3, .int n2_1])), (a5, .inl (ct 0, 8, .inl f5)), (a8, .inr (2, [.ref a1, .ref a9, .ref a11, .ref a12, .int n8_4, .int n8_5, .int n8_6, .int n8_7])), (a9, .inr (0, [.ref a10, .int n9_1]))] H → va_S no s.heap H locs → lv_has ls 7 [(0, .ref a0), (1, .int p0), (2, .int p1), (3, .int p2), (4, .int r7), (5, .int x15_5)] → W p l e (headSpec wsX4_leastWork ({ frames := 4, cells := 0, slots := 0, locals := 91 })).room s m ([.ref a0, .int p0, .int p1, .int p2] : List Value).toArray below meth c H locs 0 0 (MQ below (roQ (fun r => rg (-1) 5 r ∧ True)) ([.ref a0, .int p0, .int p1, .int p2] : List Value).toArray s 0 0 no) (F0 m 46 ls [.int y46_0]) := by
          intro y46_0 H locs ls hy46_0 hP hS hl
          refine lv_istore (lv' := [(6, .int y46_0), (0, .ref a0), (1, .int p0), (2, .int p1), (3, .int p2), (4, .int r7), (5, .int x15_5)]) hx hb dX4_leastWork_46 hl (by decide) rfl (fun ls hl => ?_)
          refine lv_iload hx hb dX4_leastWork_48 (lv_at hl 0 rfl) ?_
          have j76 : ∀ (H : Heap) (locs : List Loc) (ls : Array Slot), va_P G vwCl [(a0, .inr (4, [.ref a1, .ref a8, .ref a13, .int n0_3])), (a1, .inr (9, [.ref a2, .ref a4, .ref a5, .ref a6, .ref a7, .int n1_5, .int n1_6])), (a2, .inr (0, [.ref a3, .int n2_1])), (a5, .inl (ct 0, 8, .inl f5)), (a8, .inr (2, [.ref a1, .ref a9, .ref a11, .ref a12, .int n8_4, .int n8_5, .int n8_6, .int n8_7])), (a9, .inr (0, [.ref a10, .int n9_1]))] H → va_S no s.heap H locs → lv_has ls 7 [(0, .ref a0), (1, .int p0), (2, .int p1), (3, .int p2), (4, .int r7), (5, .int x15_5), (6, .int y46_0)] → W p l e (headSpec wsX4_leastWork ({ frames := 4, cells := 0, slots := 0, locals := 91 })).room s m ([.ref a0, .int p0, .int p1, .int p2] : List Value).toArray below meth c H locs 0 0 (MQ below (roQ (fun r => rg (-1) 5 r ∧ True)) ([.ref a0, .int p0, .int p1, .int p2] : List Value).toArray s 0 0 no) (F0 m 76 ls []) := by
            intro  H locs ls  hP hS hl
            obtain ⟨z76, qz76⟩ : ∃ y : Int32, y = x15_5 + Int32.ofInt 1 := ⟨_, rfl⟩
            obtain ⟨hz76, ez76⟩ := inc_z (e := 1) (f := 6) h_3 qz76 (by decide)
            refine lv_iinc (v := z76) (lv' := [(5, .int z76), (0, .ref a0), (1, .int p0), (2, .int p1), (3, .int p2), (4, .int r7), (6, .int y46_0)]) hx hb dX4_leastWork_76 hl (k := 5) rfl (qz76.symm) (by decide) rfl (fun ls hl => ?_)
            refine lv_goto (tgt := 15) hx hb dX4_leastWork_79 (by decide) ?_
            exact ih15 z76 _ _ ls (by have q := hn15; have := ez76; omega) (rg_w (c := 0) (d := 6) hz76 (by decide)) hP hS (lv_sub hl [1, 2, 3, 4, 5, 0] rfl)
          refine lv_if_eq (tgt := 76) hx hb dX4_leastWork_50 (by decide) (fun c50 => ?_) (fun c50 => ?_)
          · have h_9 : rg 0 0 y46_0 := r_eq_l_i (e := 0) (f := 0) c50 hy46_0 (rgn 0 (x := 0) (by decide)) (by decide)
            exact j76 _ _ ls hP hS (lv_sub hl [1, 2, 3, 4, 5, 6, 0] rfl)
          · have h_10 : rg 1 1 y46_0 := r_ne_lo_i c50 hy46_0 (by decide) (by decide)
            refine lv_aload_n hx hb dX4_leastWork_53 rfl (lv_at hl 1 rfl) ?_
            refine lv_iload_n hx hb dX4_leastWork_54 rfl (lv_at hl 3 rfl) ?_
            refine lv_iload_n hx hb dX4_leastWork_55 rfl (lv_at hl 4 rfl) ?_
            refine lv_iconst (v := 1) hx hb dX4_leastWork_56 (by decide) ?_
            refine lv_iload hx hb dX4_leastWork_57 (lv_at hl 6 rfl) ?_
            refine lv_ishl hx hb dX4_leastWork_59 ?_
            refine nm_shl (e1 := 1) (f := 32) h_3 (by decide) (fun z59 hz59 => ?_)
            refine lv_iconst (v := (-1)) hx hb dX4_leastWork_60 (by decide) ?_
            refine lv_ixor hx hb dX4_leastWork_61 ?_
            refine nm_0 (fun z61 => ?_)
            refine lv_iand hx hb dX4_leastWork_62 ?_
            refine nm_0 (fun z62 => ?_)
            refine ro_calli (va_runV (As := [.int p1, .int z62]) (rest := []) ⟨hx, hb, hml, hown, hts⟩ (a_X4_mostWishes l G ct a0 a1 a8 a13 n0_3 a2 a4 a5 a6 a7 n1_5 n1_6 a3 n2_1 f5 a9 a11 a12 n8_4 n8_5 n8_6 n8_7 a10 n9_1 p1 z62 hp_n2_1 hp_n9_1) (cwV 2 hts gX4_leastWork_X4_mostWishes rfl rfl rfl (by decide +kernel) ⟨Nat.le_of_ble_eq_true rfl, Nat.le_of_ble_eq_true rfl⟩) (ro_preV 4 0 hK (hP.sub [0, 1, 2, 3, 4, 5] rfl) rfl rfl) rfl rfl hl.1 rfl (lv_room (Nat.le_of_ble_eq_true rfl)) dX4_leastWork_63 ⟨Nat.zero_le _, Nat.zero_le _⟩) hS hP (fun r63 H locs wr63 hP hS => ?_)
            obtain ⟨p_11, -⟩ := wr63
            refine lv_iconst (v := 1) hx hb dX4_leastWork_66 (by decide) ?_
            refine lv_iadd hx hb dX4_leastWork_67 ?_
            refine nm_add (e1 := (-2147483647)) (f := 64) p_11 (rgn 1 (x := 1) (by decide)) (by decide) (fun z67 hz67 ez67 => ?_)
            replace ez67 := eqc_r ez67 (c := 1) (by decide)
            refine lv_iload hx hb dX4_leastWork_68 (lv_at hl 5 rfl) ?_
            refine lv_icmp_ne (tgt := 76) hx hb dX4_leastWork_70 (by decide) (fun c70 => ?_) (fun c70 => ?_)
            · exact j76 _ _ ls hP hS (lv_sub hl [1, 2, 3, 4, 5, 6, 0] rfl)
            · have h_12 : rg (-2147483647) 63 z67 := r_eq_l_i (e := (-2147483647)) (f := 63) c70 hz67 p_1 (by decide)
              have h_13 : rg (-2147483648) 62 r63 := bk_i (a := (-2147483648)) (b := 62) ez67 h_12 p_11 (by decide)
              have h_14 : rg (-2147483647) 63 r7 := r_eq_r_i (e := (-2147483647)) (f := 63) c70 hz67 p_1 (by decide)
              refine lv_iload hx hb dX4_leastWork_73 (lv_at hl 6 rfl) ?_
              exact W.iret (v := x15_5) hx hb hr (fun t ht hW => ⟨⟨x15_5, (), rfl, ⟨(rg_w (c := (-1)) (d := 5) h_3 (by decide)), trivial⟩, trivial⟩, hS.F ht⟩) hS.2.2 dX4_leastWork_75
        refine lv_icmp_ne (tgt := 45) hx hb dX4_leastWork_38 (by decide) (fun c38 => ?_) (fun c38 => ?_)
        · have h_15 : rg 0 0 r34 := r_ne_hi_i c38 p_8 (by decide) (by decide)
          refine lv_iconst (v := 0) hx hb dX4_leastWork_45 (by decide) ?_
          exact j46 (0 : Int32) _ _ ls (rg_w (c := 0) (d := 1) (rgn 0 (x := 0) (by decide)) (by decide)) hP hS (lv_sub hl [0, 1, 2, 3, 4, 5] rfl)
        · have h_16 : rg 1 1 r34 := r_eq_l_i (e := 1) (f := 1) c38 p_8 (rgn 1 (x := 1) (by decide)) (by decide)
          refine lv_iconst (v := 1) hx hb dX4_leastWork_41 (by decide) ?_
          refine lv_goto (tgt := 46) hx hb dX4_leastWork_42 (by decide) ?_
          exact j46 (1 : Int32) _ _ ls (rg_w (c := 0) (d := 1) (rgn 1 (x := 1) (by decide)) (by decide)) hP hS (lv_sub hl [0, 1, 2, 3, 4, 5] rfl)
  exact j15 4294967296 (0 : Int32) _ _ ls (ms_e (0 : Int32)) (rg_w (c := 0) (d := 6) (rgn 0 (x := 0) (by decide)) (by decide)) hP hS (lv_sub hl [2, 3, 4, 5, 1, 0] rfl)

set_option maxHeartbeats 4000000 in
set_option maxRecDepth 100000 in
theorem a_X4_workOf (l : Launch) (G : va_G) (ct : Nat → ClassId) (a0 : Nat) (a1 : Nat) (a8 : Nat) (a13 : Nat) (n0_3 : Int32) (a2 : Nat) (a4 : Nat) (a5 : Nat) (a6 : Nat) (a7 : Nat) (n1_5 : Int32) (n1_6 : Int32) (a3 : Nat) (n2_1 : Int32) (f5 : Nat → Int32) (f6 : Nat → Int32) (a9 : Nat) (a11 : Nat) (a12 : Nat) (n8_4 : Int32) (n8_5 : Int32) (n8_6 : Int32) (n8_7 : Int32) (a10 : Nat) (n9_1 : Int32) (f10 : Nat → Int32) (p0 : Int32) (hp_n2_1 : rg 0 8 n2_1) (hp_n9_1 : rg 0 8 n9_1) (hp_p0 : rg 0 7 p0) : Met l yX4_workOf wsX4_workOf ({ frames := 5, cells := 0, slots := 0, locals := 117 }) (va_Pc [.ref a0, .int p0] (roP G ct [(a0, .inr (4, [.ref a1, .ref a8, .ref a13, .int n0_3])), (a1, .inr (9, [.ref a2, .ref a4, .ref a5, .ref a6, .ref a7, .int n1_5, .int n1_6])), (a2, .inr (0, [.ref a3, .int n2_1])), (a5, .inl (ct 0, 8, .inl f5)), (a6, .inl (ct 0, 8, .inl f6)), (a8, .inr (2, [.ref a1, .ref a9, .ref a11, .ref a12, .int n8_4, .int n8_5, .int n8_6, .int n8_7])), (a9, .inr (0, [.ref a10, .int n9_1])), (a10, .inl (ct 0, 8, .inl f10))])) (roQ (fun r => rg (-1) 5 r ∧ True)) 0 0 no := by
  refine Met.ofW (cc := cX4_workOf) (maxL := 7) (ret := (some .int)) (by decide) rfl ?_
  intro p e s m args below meth c s₁ B hml hv
  obtain ⟨rfl, hP, hK⟩ := hv
  have hx := B.exec
  have hb := B.bytes
  have hr := B.returns
  have hts := atoms_spec (ws := wsX4_workOf) B.pre
  have hown : s.vm.findClass RX4 = some m.cls := findClass_of_methodNamed B.named
  have hlocks := B.notSynchronized
  have hS : va_S no s.heap s.heap [] := va_S.rf
  have hl := lv_entry ([.ref a0, .int p0]) (n := 7) (Nat.le_of_ble_eq_true rfl)
  rw [lg_entry_eq]
  generalize (lg_sl ([.ref a0, .int p0]) ++ List.replicate (7 - (lg_sl ([.ref a0, .int p0])).length) Slot.unset).toArray = ls at hl ⊢
  have hl : lv_has ls 7 [(0, .ref a0), (1, .int p0)] := hl
  refine lv_aload_n hx hb dX4_workOf_0 rfl (lv_at hl 0 rfl) ?_
  refine va_get (D := G) (ci := 4) (v := .ref a8) (C := RX4) (T := TX4) (N := 4) hx hb hts (by decide +kernel) hown hK.1 hP 0 rfl rfl 1 (by decide) (hts (.fieldLink RX4 23 "CardHolder$Play" "hands" "LCardHolder$Hands;") (by decide +kernel)) (fun _ h9 => h9) rfl dX4_workOf_1 ?_
  refine va_get (D := G) (ci := 2) (v := .ref a9) (C := RX2) (T := TX2) (N := 8) hx hb hts (by decide +kernel) hown hK.1 hP 5 rfl rfl 1 (by decide) (hts (.fieldLink RX4 60 "CardHolder$Hands" "bonds" "LCardHolder$Bonds;") (by decide +kernel)) (fun _ h9 => h9) rfl dX4_workOf_4 ?_
  refine lv_iload_n hx hb dX4_workOf_7 rfl (lv_at hl 1 rfl) ?_
  refine ro_calli (va_runV (As := [.int p0]) (rest := []) ⟨hx, hb, hml, hown, hts⟩ (a_X0_holderOf l G ct a9 a10 n9_1 f10 p0 hp_n9_1) (cwV 1 hts gX4_workOf_X0_holderOf rfl rfl rfl (by decide +kernel) ⟨Nat.le_of_ble_eq_true rfl, Nat.le_of_ble_eq_true rfl⟩) (ro_preV 0 0 hK (hP.sub [6, 7] rfl) rfl rfl) rfl rfl hl.1 rfl (lv_room (Nat.le_of_ble_eq_true rfl)) dX4_workOf_8 ⟨Nat.zero_le _, Nat.zero_le _⟩) hS hP (fun r8 H locs wr8 hP hS => ?_)
  obtain ⟨p_1, p_2, p_3, p_4, -⟩ := wr8
  refine lv_istore_n (lv' := [(2, .int r8), (0, .ref a0), (1, .int p0)]) hx hb dX4_workOf_11 rfl hl (by decide) rfl (fun ls hl => ?_)
  refine lv_iload_n hx hb dX4_workOf_12 rfl (lv_at hl 0 rfl) ?_
  refine lv_iconst (v := (-1)) hx hb dX4_workOf_13 (by decide) ?_
  have j26 : ∀ (y26_0 : Int32) (H : Heap) (locs : List Loc) (ls : Array Slot), rg 0 255 y26_0 → va_P G vwCl [(a0, .inr (4, [.ref a1, .ref a8, .ref a13, .int n0_3])), (a1, .inr (9, [.ref a2, .ref a4, .ref a5, .ref a6, .ref a7, .int n1_5, .int n1_6])), (a2, .inr (0, [.ref a3, .int n2_1])), (a5, .inl (ct 0, 8, .inl f5)), (a6, .inl (ct 0, 8, .inl f6)), (a8, .inr (2, [.ref a1, .ref a9, .ref a11, .ref a12, .int n8_4, .int n8_5, .int n8_6, .int n8_7])), (a9, .inr (0, [.ref a10, .int n9_1])), (a10, .inl (ct 0, 8, .inl f10))] H → va_S no s.heap H locs → lv_has ls 7 [(0, .ref a0), (1, .int p0), (2, .int r8)] → W p l e (headSpec wsX4_workOf ({ frames := 5, cells := 0, slots := 0, locals := 117 })).room s m ([.ref a0, .int p0] : List Value).toArray below meth c H locs 0 0 (MQ below (roQ (fun r => rg (-1) 5 r ∧ True)) ([.ref a0, .int p0] : List Value).toArray s 0 0 no) (F0 m 26 ls [.int y26_0]) := by
    intro y26_0 H locs ls hy26_0 hP hS hl
    refine lv_istore_n (lv' := [(3, .int y26_0), (0, .ref a0), (1, .int p0), (2, .int r8)]) hx hb dX4_workOf_26 rfl hl (by decide) rfl (fun ls hl => ?_)
    refine lv_aload_n hx hb dX4_workOf_27 rfl (lv_at hl 1 rfl) ?_
    refine va_get (D := G) (ci := 4) (v := .ref a1) (C := RX4) (T := TX4) (N := 4) hx hb hts (by decide +kernel) hown hK.1 hP 0 rfl rfl 0 (by decide) (hts (.fieldLink RX4 12 "CardHolder$Play" "town" "LCardHolder$Town;") (by decide +kernel)) (fun _ h9 => h9) rfl dX4_workOf_28 ?_
    refine lv_iload_n hx hb dX4_workOf_31 rfl (lv_at hl 3 rfl) ?_
    refine ro_calli (va_runV (As := [.int r8]) (rest := []) ⟨hx, hb, hml, hown, hts⟩ (a_X9_wishesOf l G ct a1 a2 a4 a5 a6 a7 n1_5 n1_6 a3 n2_1 f6 r8 hp_n2_1) (cwV 1 hts gX4_workOf_X9_wishesOf rfl rfl rfl (by decide +kernel) ⟨Nat.le_of_ble_eq_true rfl, Nat.le_of_ble_eq_true rfl⟩) (ro_preV 9 0 hK (hP.sub [1, 2, 4] rfl) rfl rfl) rfl rfl hl.1 rfl (lv_room (Nat.le_of_ble_eq_true rfl)) dX4_workOf_32 ⟨Nat.zero_le _, Nat.zero_le _⟩) hS hP (fun r32 H locs wr32 hP hS => ?_)
    obtain ⟨p_5, p_6, p_7, p_8, -⟩ := wr32
    refine lv_istore (lv' := [(4, .int r32), (3, .int y26_0), (0, .ref a0), (1, .int p0), (2, .int r8)]) hx hb dX4_workOf_35 hl (by decide) rfl (fun ls hl => ?_)
    refine lv_iconst (v := 0) hx hb dX4_workOf_37 (by decide) ?_
    refine lv_istore (lv' := [(5, .int 0), (4, .int r32), (3, .int y26_0), (0, .ref a0), (1, .int p0), (2, .int r8)]) hx hb dX4_workOf_38 hl (by decide) rfl (fun ls hl => ?_)
    have j40 : ∀ (n : Nat) (x40_3 : Int32) (x40_4 : Int32) (x40_5 : Int32) (H : Heap) (locs : List Loc) (ls : Array Slot), 2147483648 ≤ x40_5.toInt + (n : Int) → rg 0 255 x40_3 → rg 0 8 x40_5 → va_P G vwCl [(a0, .inr (4, [.ref a1, .ref a8, .ref a13, .int n0_3])), (a1, .inr (9, [.ref a2, .ref a4, .ref a5, .ref a6, .ref a7, .int n1_5, .int n1_6])), (a2, .inr (0, [.ref a3, .int n2_1])), (a5, .inl (ct 0, 8, .inl f5)), (a6, .inl (ct 0, 8, .inl f6)), (a8, .inr (2, [.ref a1, .ref a9, .ref a11, .ref a12, .int n8_4, .int n8_5, .int n8_6, .int n8_7])), (a9, .inr (0, [.ref a10, .int n9_1])), (a10, .inl (ct 0, 8, .inl f10))] H → va_S no s.heap H locs → lv_has ls 7 [(0, .ref a0), (1, .int p0), (2, .int r8), (3, .int x40_3), (4, .int x40_4), (5, .int x40_5)] → W p l e (headSpec wsX4_workOf ({ frames := 5, cells := 0, slots := 0, locals := 117 })).room s m ([.ref a0, .int p0] : List Value).toArray below meth c H locs 0 0 (MQ below (roQ (fun r => rg (-1) 5 r ∧ True)) ([.ref a0, .int p0] : List Value).toArray s 0 0 no) (F0 m 40 ls []) := by
      intro n
      induction n with
      | zero => intro x40_3 x40_4 x40_5 H locs ls hn40 hx40_3 hx40_5 hP hS hl; exact absurd hn40 (by have := Int32.toInt_lt x40_5; have := Int32.le_toInt x40_5; omega)
      | succ n ih40 =>
        intro x40_3 x40_4 x40_5 H locs ls hn40 hx40_3 hx40_5 hP hS hl
        refine lv_iload hx hb dX4_workOf_40 (lv_at hl 5 rfl) ?_
        refine lv_iload_n hx hb dX4_workOf_42 rfl (lv_at hl 1 rfl) ?_
        refine lv_icmp_gt (tgt := 113) hx hb dX4_workOf_43 (by decide) (fun c43 => ?_) (fun c43 => ?_)
        · have h_9 : rg 1 8 x40_5 := r_lt_r_i c43 hp_p0 hx40_5 (by decide)
          refine lv_iconst (v := (-1)) hx hb dX4_workOf_113 (by decide) ?_
          exact W.iret (v := (-1)) hx hb hr (fun t ht hW => ⟨⟨(-1), (), rfl, ⟨(rg_w (c := (-1)) (d := 5) (rgn (-1) (x := (-1)) (by decide)) (by decide)), trivial⟩, trivial⟩, hS.F ht⟩) hS.2.2 dX4_workOf_114
        · have h_10 : rg 0 7 x40_5 := r_le_l_i (nlt_i c43) hx40_5 hp_p0
          refine lv_iload_n hx hb dX4_workOf_46 rfl (lv_at hl 3 rfl) ?_
          refine lv_iload hx hb dX4_workOf_47 (lv_at hl 5 rfl) ?_
          refine ro_calli (va_runSN (As := [.int x40_3, .int x40_5]) (rest := []) ⟨hx, hb, hml, hown, hts⟩ (a_X10_bitOf l G ct x40_3 x40_5) ⟨va_cnB 2 hts gX4_workOf_X10_bitOf_n99 rfl rfl rfl (hK.2.1 (RX4, 99, yX10_bitOf, "CardHolder") (by decide +kernel)) (hts (.initialized RX10) (by decide +kernel)) (by decide +kernel) ⟨Nat.le_of_ble_eq_true rfl, Nat.le_of_ble_eq_true rfl⟩, hts (.static yX10_bitOf) (by decide +kernel), trivial⟩ (ro_pre hK (hP.sub [] rfl)) rfl rfl hl.1 rfl (lv_room (Nat.le_of_ble_eq_true rfl)) dX4_workOf_49 ⟨Nat.zero_le _, Nat.zero_le _⟩) hS hP (fun r49 H locs wr49 hP hS => ?_)
          obtain ⟨p_11, -⟩ := wr49
          refine lv_iconst (v := 1) hx hb dX4_workOf_52 (by decide) ?_
          have j107 : ∀ (x107_3 : Int32) (x107_4 : Int32) (H : Heap) (locs : List Loc) (ls : Array Slot), rg 0 255 x107_3 → va_P G vwCl [(a0, .inr (4, [.ref a1, .ref a8, .ref a13, .int n0_3])), (a1, .inr (9, [.ref a2, .ref a4, .ref a5, .ref a6, .ref a7, .int n1_5, .int n1_6])), (a2, .inr (0, [.ref a3, .int n2_1])), (a5, .inl (ct 0, 8, .inl f5)), (a6, .inl (ct 0, 8, .inl f6)), (a8, .inr (2, [.ref a1, .ref a9, .ref a11, .ref a12, .int n8_4, .int n8_5, .int n8_6, .int n8_7])), (a9, .inr (0, [.ref a10, .int n9_1])), (a10, .inl (ct 0, 8, .inl f10))] H → va_S no s.heap H locs → lv_has ls 7 [(0, .ref a0), (1, .int p0), (2, .int r8), (3, .int x107_3), (4, .int x107_4), (5, .int x40_5)] → W p l e (headSpec wsX4_workOf ({ frames := 5, cells := 0, slots := 0, locals := 117 })).room s m ([.ref a0, .int p0] : List Value).toArray below meth c H locs 0 0 (MQ below (roQ (fun r => rg (-1) 5 r ∧ True)) ([.ref a0, .int p0] : List Value).toArray s 0 0 no) (F0 m 107 ls []) := by
            intro x107_3 x107_4 H locs ls hx107_3 hP hS hl
            obtain ⟨z107, qz107⟩ : ∃ y : Int32, y = x40_5 + Int32.ofInt 1 := ⟨_, rfl⟩
            obtain ⟨hz107, ez107⟩ := inc_z (e := 1) (f := 8) h_10 qz107 (by decide)
            refine lv_iinc (v := z107) (lv' := [(5, .int z107), (0, .ref a0), (1, .int p0), (2, .int r8), (3, .int x107_3), (4, .int x107_4)]) hx hb dX4_workOf_107 hl (k := 5) rfl (qz107.symm) (by decide) rfl (fun ls hl => ?_)
            refine lv_goto (tgt := 40) hx hb dX4_workOf_110 (by decide) ?_
            exact ih40 x107_3 x107_4 z107 _ _ ls (by have q := hn40; have := ez107; omega) hx107_3 (rg_w (c := 0) (d := 8) hz107 (by decide)) hP hS (lv_sub hl [1, 2, 3, 4, 5, 0] rfl)
          refine lv_icmp_ne (tgt := 107) hx hb dX4_workOf_53 (by decide) (fun c53 => ?_) (fun c53 => ?_)
          · have h_12 : rg 0 0 r49 := r_ne_hi_i c53 p_11 (by decide) (by decide)
            exact j107 x40_3 x40_4 _ _ ls hx40_3 hP hS (lv_sub hl [0, 1, 2, 3, 4, 5] rfl)
          · have h_13 : rg 1 1 r49 := r_eq_l_i (e := 1) (f := 1) c53 p_11 (rgn 1 (x := 1) (by decide)) (by decide)
            refine lv_iload_n hx hb dX4_workOf_56 rfl (lv_at hl 3 rfl) ?_
            refine lv_iconst (v := 1) hx hb dX4_workOf_57 (by decide) ?_
            refine lv_iload hx hb dX4_workOf_58 (lv_at hl 5 rfl) ?_
            refine lv_ishl hx hb dX4_workOf_60 ?_
            refine nm_shl (e1 := 1) (f := 128) h_10 (by decide) (fun z60 hz60 => ?_)
            refine lv_iconst (v := (-1)) hx hb dX4_workOf_61 (by decide) ?_
            refine lv_ixor hx hb dX4_workOf_62 ?_
            refine nm_0 (fun z62 => ?_)
            refine lv_iand hx hb dX4_workOf_63 ?_
            refine nm_andl hx40_3 (by decide) (fun z63 hz63 => ?_)
            refine lv_istore_n (lv' := [(3, .int z63), (0, .ref a0), (1, .int p0), (2, .int r8), (4, .int x40_4), (5, .int x40_5)]) hx hb dX4_workOf_64 rfl hl (by decide) rfl (fun ls hl => ?_)
            refine lv_aload_n hx hb dX4_workOf_65 rfl (lv_at hl 1 rfl) ?_
            refine lv_iload hx hb dX4_workOf_66 (lv_at hl 5 rfl) ?_
            refine lv_iload_n hx hb dX4_workOf_68 rfl (lv_at hl 0 rfl) ?_
            refine lv_iload hx hb dX4_workOf_69 (lv_at hl 4 rfl) ?_
            refine ro_calli (va_runV (As := [.int x40_5, .int z63, .int x40_4]) (rest := []) ⟨hx, hb, hml, hown, hts⟩ (a_X4_leastWork l G ct a0 a1 a8 a13 n0_3 a2 a4 a5 a6 a7 n1_5 n1_6 a3 n2_1 f5 a9 a11 a12 n8_4 n8_5 n8_6 n8_7 a10 n9_1 x40_5 z63 x40_4 hp_n2_1 hp_n9_1) (cwV 3 hts gX4_workOf_X4_leastWork rfl rfl rfl (by decide +kernel) ⟨Nat.le_of_ble_eq_true rfl, Nat.le_of_ble_eq_true rfl⟩) (ro_preV 4 0 hK (hP.sub [0, 1, 2, 3, 5, 6] rfl) rfl rfl) rfl rfl hl.1 rfl (lv_room (Nat.le_of_ble_eq_true rfl)) dX4_workOf_71 ⟨Nat.zero_le _, Nat.zero_le _⟩) hS hP (fun r71 H locs wr71 hP hS => ?_)
            obtain ⟨p_14, -⟩ := wr71
            refine lv_istore (lv' := [(6, .int r71), (3, .int z63), (0, .ref a0), (1, .int p0), (2, .int r8), (4, .int x40_4), (5, .int x40_5)]) hx hb dX4_workOf_74 hl (by decide) rfl (fun ls hl => ?_)
            refine lv_iload hx hb dX4_workOf_76 (lv_at hl 6 rfl) ?_
            refine lv_iload_n hx hb dX4_workOf_78 rfl (lv_at hl 3 rfl) ?_
            refine lv_icmp_ne (tgt := 85) hx hb dX4_workOf_79 (by decide) (fun c79 => ?_) (fun c79 => ?_)
            · refine lv_iload hx hb dX4_workOf_85 (lv_at hl 5 rfl) ?_
              refine lv_iload hx hb dX4_workOf_87 (lv_at hl 0 rfl) ?_
              refine lv_iconst (v := (-1)) hx hb dX4_workOf_89 (by decide) ?_
              have j104 : ∀ (y104_0 : Int32) (H : Heap) (locs : List Loc) (ls : Array Slot), va_P G vwCl [(a0, .inr (4, [.ref a1, .ref a8, .ref a13, .int n0_3])), (a1, .inr (9, [.ref a2, .ref a4, .ref a5, .ref a6, .ref a7, .int n1_5, .int n1_6])), (a2, .inr (0, [.ref a3, .int n2_1])), (a5, .inl (ct 0, 8, .inl f5)), (a6, .inl (ct 0, 8, .inl f6)), (a8, .inr (2, [.ref a1, .ref a9, .ref a11, .ref a12, .int n8_4, .int n8_5, .int n8_6, .int n8_7])), (a9, .inr (0, [.ref a10, .int n9_1])), (a10, .inl (ct 0, 8, .inl f10))] H → va_S no s.heap H locs → lv_has ls 7 [(0, .ref a0), (1, .int p0), (2, .int r8), (3, .int z63), (4, .int x40_4), (5, .int x40_5), (6, .int r71)] → W p l e (headSpec wsX4_workOf ({ frames := 5, cells := 0, slots := 0, locals := 117 })).room s m ([.ref a0, .int p0] : List Value).toArray below meth c H locs 0 0 (MQ below (roQ (fun r => rg (-1) 5 r ∧ True)) ([.ref a0, .int p0] : List Value).toArray s 0 0 no) (F0 m 104 ls [.int y104_0, .int x40_4]) := by
                intro y104_0 H locs ls  hP hS hl
                refine lv_iand hx hb dX4_workOf_104 ?_
                refine nm_0 (fun z104 => ?_)
                refine lv_istore (lv' := [(4, .int z104), (0, .ref a0), (1, .int p0), (2, .int r8), (3, .int z63), (5, .int x40_5), (6, .int r71)]) hx hb dX4_workOf_105 hl (by decide) rfl (fun ls hl => ?_)
                exact j107 z63 z104 _ _ ls hz63 hP hS (lv_sub hl [1, 2, 3, 4, 0, 5] rfl)
              refine lv_icmp_ne (tgt := 98) hx hb dX4_workOf_90 (by decide) (fun c90 => ?_) (fun c90 => ?_)
              · have h_15 : rg 0 5 r71 := r_ne_lo_i c90 p_14 (by decide) (by decide)
                refine lv_iconst (v := 1) hx hb dX4_workOf_98 (by decide) ?_
                refine lv_iload hx hb dX4_workOf_99 (lv_at hl 0 rfl) ?_
                refine lv_ishl hx hb dX4_workOf_101 ?_
                refine nm_shl (e1 := 1) (f := 32) h_15 (by decide) (fun z101 hz101 => ?_)
                refine lv_iconst (v := (-1)) hx hb dX4_workOf_102 (by decide) ?_
                refine lv_ixor hx hb dX4_workOf_103 ?_
                refine nm_0 (fun z103 => ?_)
                exact j104 z103 _ _ ls hP hS (lv_sub hl [2, 3, 4, 1, 5, 6, 0] rfl)
              · have h_16 : rg (-1) (-1) r71 := r_eq_l_i (e := (-1)) (f := (-1)) c90 p_14 (rgn (-1) (x := (-1)) (by decide)) (by decide)
                refine lv_iload hx hb dX4_workOf_93 (lv_at hl 5 rfl) ?_
                refine lv_goto (tgt := 104) hx hb dX4_workOf_95 (by decide) ?_
                exact j104 x40_4 _ _ ls hP hS (lv_sub hl [2, 3, 4, 1, 5, 6, 0] rfl)
            · refine lv_iload hx hb dX4_workOf_82 (lv_at hl 0 rfl) ?_
              exact W.iret (v := r71) hx hb hr (fun t ht hW => ⟨⟨r71, (), rfl, ⟨p_14, trivial⟩, trivial⟩, hS.F ht⟩) hS.2.2 dX4_workOf_84
    exact j40 4294967296 y26_0 r32 (0 : Int32) _ _ ls (ms_e (0 : Int32)) hy26_0 (rg_w (c := 0) (d := 8) (rgn 0 (x := 0) (by decide)) (by decide)) hP hS (lv_sub hl [3, 4, 5, 2, 1, 0] rfl)
  refine lv_icmp_ne (tgt := 21) hx hb dX4_workOf_14 (by decide) (fun c14 => ?_) (fun c14 => ?_)
  · have h_17 : rg 1 8 n9_1 := (p_4 c14)
    refine lv_aload_n hx hb dX4_workOf_21 rfl (lv_at hl 1 rfl) ?_
    refine lv_iload_n hx hb dX4_workOf_22 rfl (lv_at hl 0 rfl) ?_
    refine ro_calli (va_runV (As := [.int r8]) (rest := []) ⟨hx, hb, hml, hown, hts⟩ (a_X4_askable l G ct a0 a1 a8 a13 n0_3 a9 a11 a12 n8_4 n8_5 n8_6 n8_7 a10 n9_1 f10 r8 (rg_w (c := 0) (d := 8) h_17 (by decide))) (cwV 1 hts gX4_workOf_X4_askable rfl rfl rfl (by decide +kernel) ⟨Nat.le_of_ble_eq_true rfl, Nat.le_of_ble_eq_true rfl⟩) (ro_preV 4 0 hK (hP.sub [0, 5, 6, 7] rfl) rfl rfl) rfl rfl hl.1 rfl (lv_room (Nat.le_of_ble_eq_true rfl)) dX4_workOf_23 ⟨Nat.zero_le _, Nat.zero_le _⟩) hS hP (fun r23 H locs wr23 hP hS => ?_)
    obtain ⟨p_18, -⟩ := wr23
    exact j26 r23 _ _ ls p_18 hP hS (lv_sub hl [1, 2, 0] rfl)
  · have h_19 : rg (-1) (-1) r8 := r_eq_l_i (e := (-1)) (f := (-1)) c14 (rg_t r8) (rgn (-1) (x := (-1)) (by decide)) (by decide)
    refine lv_iconst (v := 0) hx hb dX4_workOf_17 (by decide) ?_
    refine lv_goto (tgt := 26) hx hb dX4_workOf_18 (by decide) ?_
    exact j26 (0 : Int32) _ _ ls (rg_w (c := 0) (d := 255) (rgn 0 (x := 0) (by decide)) (by decide)) hP hS (lv_sub hl [1, 2, 0] rfl)
