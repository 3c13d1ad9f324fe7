theorem dX10_isPerson_0 : decode cX10_isPerson 0 = .ok (.aload_n 0, 1) := by decide +kernel
theorem dX10_isPerson_1 : decode cX10_isPerson 1 = .ok (.getfield 28, 3) := by decide +kernel
theorem dX10_isPerson_4 : decode cX10_isPerson 4 = .ok (.getfield 147, 3) := by decide +kernel
theorem dX10_isPerson_7 : decode cX10_isPerson 7 = .ok (.getfield 366, 3) := by decide +kernel
theorem dX10_isPerson_10 : decode cX10_isPerson 10 = .ok (.iload_n 1, 1) := by decide +kernel
set_option maxRecDepth 20000 in
theorem ggX10_isPerson_X0_has : GoodIn wsX10_isPerson wsX0_has := goodIn_r _ [8, 9, 33, 34] (by decide +kernel) (by decide +kernel)
set_option maxRecDepth 20000 in
theorem gX10_isPerson_X0_has : GoodIn wsX10_isPerson (wsV RX10 428 RX0 yX0_has wsX0_has) := goodIn_app (goodIn_of _ (by decide +kernel)) ggX10_isPerson_X0_has
theorem dX10_isPerson_11 : decode cX10_isPerson 11 = .ok (.invokevirtual 428, 3) := by decide +kernel
theorem dX10_isPerson_14 : decode cX10_isPerson 14 = .ok (.ireturn, 1) := by decide +kernel
theorem dX10_hasCity_0 : decode cX10_hasCity 0 = .ok (.aload_n 0, 1) := by decide +kernel
theorem dX10_hasCity_1 : decode cX10_hasCity 1 = .ok (.getfield 28, 3) := by decide +kernel
theorem dX10_hasCity_4 : decode cX10_hasCity 4 = .ok (.getfield 49, 3) := by decide +kernel
theorem dX10_hasCity_7 : decode cX10_hasCity 7 = .ok (.getfield 113, 3) := by decide +kernel
theorem dX10_hasCity_10 : decode cX10_hasCity 10 = .ok (.ifCond .le 7, 3) := by decide +kernel
theorem dX10_hasCity_17 : decode cX10_hasCity 17 = .ok (.iconst 0, 1) := by decide +kernel
theorem dX10_hasCity_18 : decode cX10_hasCity 18 = .ok (.ireturn, 1) := by decide +kernel
theorem dX10_free_0 : decode cX10_free 0 = .ok (.aload_n 0, 1) := by decide +kernel
set_option maxRecDepth 20000 in
theorem ggX10_free_X10_hasCity : GoodIn wsX10_free wsX10_hasCity := goodIn_r _ [5, 6, 7, 8, 34, 35, 36, 37, 38, 39, 40, 41, 42, 43, 44, 45, 46, 47, 48, 49, 50, 51, 52, 53, 54, 55] (by decide +kernel) (by decide +kernel)
set_option maxRecDepth 20000 in
theorem gX10_free_X10_hasCity : GoodIn wsX10_free (wsV RX10 163 RX10 yX10_hasCity wsX10_hasCity) := goodIn_app (goodIn_of _ (by decide +kernel)) ggX10_free_X10_hasCity
theorem dX10_free_1 : decode cX10_free 1 = .ok (.invokevirtual 163, 3) := by decide +kernel
theorem dX10_free_4 : decode cX10_free 4 = .ok (.ifCond .eq 13, 3) := by decide +kernel
theorem dX10_free_17 : decode cX10_free 17 = .ok (.bipush (-2), 2) := by decide +kernel
theorem dX10_free_19 : decode cX10_free 19 = .ok (.ireturn, 1) := by decide +kernel
theorem dX10_under_0 : decode cX10_under 0 = .ok (.aload_n 0, 1) := by decide +kernel
theorem dX10_under_1 : decode cX10_under 1 = .ok (.iload_n 1, 1) := by decide +kernel
set_option maxRecDepth 20000 in
theorem ggX10_under_X10_isPerson : GoodIn wsX10_under wsX10_isPerson := goodIn_r _ [5, 6, 7, 8, 9, 10, 11, 12, 13, 14, 33, 34, 35, 36, 37, 38, 39, 40, 41, 42, 43, 44, 45, 46, 47, 48, 49, 50, 51, 52, 53, 54, 55, 56, 57] (by decide +kernel) (by decide +kernel)
set_option maxRecDepth 20000 in
theorem gX10_under_X10_isPerson : GoodIn wsX10_under (wsV RX10 124 RX10 yX10_isPerson wsX10_isPerson) := goodIn_app (goodIn_of _ (by decide +kernel)) ggX10_under_X10_isPerson
theorem dX10_under_2 : decode cX10_under 2 = .ok (.invokevirtual 124, 3) := by decide +kernel
theorem dX10_under_5 : decode cX10_under 5 = .ok (.ifCond .eq 14, 3) := by decide +kernel
theorem dX10_under_19 : decode cX10_under 19 = .ok (.bipush (-2), 2) := by decide +kernel
theorem dX10_under_21 : decode cX10_under 21 = .ok (.ireturn, 1) := by decide +kernel
theorem dX10_time_0 : decode cX10_time 0 = .ok (.aload_n 0, 1) := by decide +kernel
theorem dX10_time_1 : decode cX10_time 1 = .ok (.iload_n 1, 1) := by decide +kernel
set_option maxRecDepth 20000 in
theorem ggX10_time_X10_isPerson : GoodIn wsX10_time wsX10_isPerson := goodIn_r _ [6, 1, 7, 8, 9, 10, 11, 12, 13, 14, 42, 43, 44, 45, 46, 47, 48, 49, 50, 51, 52, 53, 54, 55, 56, 57, 58, 59, 60, 61, 62, 63, 64, 65, 66] (by decide +kernel) (by decide +kernel)
set_option maxRecDepth 20000 in
theorem gX10_time_X10_isPerson : GoodIn wsX10_time (wsV RX10 124 RX10 yX10_isPerson wsX10_isPerson) := goodIn_app (goodIn_of _ (by decide +kernel)) ggX10_time_X10_isPerson
theorem dX10_time_2 : decode cX10_time 2 = .ok (.invokevirtual 124, 3) := by decide +kernel
theorem dX10_time_5 : decode cX10_time 5 = .ok (.ifCond .eq 11, 3) := by decide +kernel
theorem dX10_time_16 : decode cX10_time 16 = .ok (.bipush (-2), 2) := by decide +kernel
theorem dX10_time_18 : decode cX10_time 18 = .ok (.ireturn, 1) := by decide +kernel
theorem dX10_top_0 : decode cX10_top 0 = .ok (.aload_n 0, 1) := by decide +kernel
theorem dX10_top_1 : decode cX10_top 1 = .ok (.iload_n 1, 1) := by decide +kernel
set_option maxRecDepth 20000 in
theorem ggX10_top_X10_isPerson : GoodIn wsX10_top wsX10_isPerson := goodIn_r _ [5, 6, 7, 8, 9, 10, 11, 12, 13, 14, 29, 30, 31, 32, 33, 34, 35, 36, 37, 38, 39, 40, 41, 42, 43, 44, 45, 46, 47, 48, 49, 50, 51, 52, 53] (by decide +kernel) (by decide +kernel)
set_option maxRecDepth 20000 in
theorem gX10_top_X10_isPerson : GoodIn wsX10_top (wsV RX10 124 RX10 yX10_isPerson wsX10_isPerson) := goodIn_app (goodIn_of _ (by decide +kernel)) ggX10_top_X10_isPerson
theorem dX10_top_2 : decode cX10_top 2 = .ok (.invokevirtual 124, 3) := by decide +kernel
theorem dX10_top_5 : decode cX10_top 5 = .ok (.ifCond .eq 14, 3) := by decide +kernel
theorem dX10_top_19 : decode cX10_top 19 = .ok (.bipush (-2), 2) := by decide +kernel
theorem dX10_top_21 : decode cX10_top 21 = .ok (.ireturn, 1) := by decide +kernel
theorem dX10_ring_0 : decode cX10_ring 0 = .ok (.aload_n 0, 1) := by decide +kernel
theorem dX10_ring_1 : decode cX10_ring 1 = .ok (.iload_n 1, 1) := by decide +kernel
set_option maxRecDepth 20000 in
theorem ggX10_ring_X10_isPerson : GoodIn wsX10_ring wsX10_isPerson := goodIn_r _ [5, 6, 7, 8, 9, 10, 11, 12, 13, 14, 37, 38, 39, 40, 41, 42, 43, 44, 45, 46, 47, 48, 49, 50, 51, 52, 53, 54, 55, 56, 57, 58, 59, 60, 61] (by decide +kernel) (by decide +kernel)
set_option maxRecDepth 20000 in
theorem gX10_ring_X10_isPerson : GoodIn wsX10_ring (wsV RX10 124 RX10 yX10_isPerson wsX10_isPerson) := goodIn_app (goodIn_of _ (by decide +kernel)) ggX10_ring_X10_isPerson
theorem dX10_ring_2 : decode cX10_ring 2 = .ok (.invokevirtual 124, 3) := by decide +kernel
theorem dX10_ring_5 : decode cX10_ring 5 = .ok (.ifCond .eq 14, 3) := by decide +kernel
theorem dX10_ring_19 : decode cX10_ring 19 = .ok (.bipush (-2), 2) := by decide +kernel
theorem dX10_ring_21 : decode cX10_ring 21 = .ok (.ireturn, 1) := by decide +kernel
theorem dX10_rings_0 : decode cX10_rings 0 = .ok (.aload_n 0, 1) := by decide +kernel
set_option maxRecDepth 20000 in
theorem ggX10_rings_X10_hasCity : GoodIn wsX10_rings wsX10_hasCity := goodIn_r _ [5, 6, 7, 8, 46, 47, 48, 49, 50, 51, 52, 53, 54, 55, 56, 57, 58, 59, 60, 61, 62, 63, 64, 65, 66, 67] (by decide +kernel) (by decide +kernel)
set_option maxRecDepth 20000 in
theorem gX10_rings_X10_hasCity : GoodIn wsX10_rings (wsV RX10 163 RX10 yX10_hasCity wsX10_hasCity) := goodIn_app (goodIn_of _ (by decide +kernel)) ggX10_rings_X10_hasCity
theorem dX10_rings_1 : decode cX10_rings 1 = .ok (.invokevirtual 163, 3) := by decide +kernel
theorem dX10_rings_4 : decode cX10_rings 4 = .ok (.ifCond .eq 13, 3) := by decide +kernel
theorem dX10_rings_17 : decode cX10_rings 17 = .ok (.bipush (-2), 2) := by decide +kernel
theorem dX10_rings_19 : decode cX10_rings 19 = .ok (.ireturn, 1) := by decide +kernel
theorem dX10_doer_0 : decode cX10_doer 0 = .ok (.aload_n 0, 1) := by decide +kernel
theorem dX10_doer_1 : decode cX10_doer 1 = .ok (.iload_n 1, 1) := by decide +kernel
set_option maxRecDepth 20000 in
theorem ggX10_doer_X10_isPerson : GoodIn wsX10_doer wsX10_isPerson := goodIn_r _ [6, 1, 7, 8, 9, 10, 11, 12, 13, 14, 57, 58, 59, 60, 61, 62, 63, 64, 65, 66, 67, 68, 69, 70, 71, 72, 73, 74, 75, 76, 77, 78, 79, 80, 81] (by decide +kernel) (by decide +kernel)
set_option maxRecDepth 20000 in
theorem gX10_doer_X10_isPerson : GoodIn wsX10_doer (wsV RX10 124 RX10 yX10_isPerson wsX10_isPerson) := goodIn_app (goodIn_of _ (by decide +kernel)) ggX10_doer_X10_isPerson
theorem dX10_doer_2 : decode cX10_doer 2 = .ok (.invokevirtual 124, 3) := by decide +kernel
theorem dX10_doer_5 : decode cX10_doer 5 = .ok (.ifCond .eq 10, 3) := by decide +kernel
theorem dX10_doer_15 : decode cX10_doer 15 = .ok (.bipush (-2), 2) := by decide +kernel
theorem dX10_doer_17 : decode cX10_doer 17 = .ok (.ireturn, 1) := by decide +kernel
theorem dX10_chain_0 : decode cX10_chain 0 = .ok (.aload_n 0, 1) := by decide +kernel
theorem dX10_chain_1 : decode cX10_chain 1 = .ok (.iload_n 1, 1) := by decide +kernel
theorem dX10_chain_2 : decode cX10_chain 2 = .ok (.iload_n 2, 1) := by decide +kernel
set_option maxRecDepth 20000 in
theorem ggX10_chain_X10_doer : GoodIn wsX10_chain wsX10_doer := goodIn_r _ [6, 1, 7, 8, 9, 5, 10, 11, 12, 13, 14, 15, 16, 17, 18, 19, 20, 21, 22, 23, 24, 25, 26, 27, 28, 29, 30, 31, 32, 33, 34, 35, 36, 37, 38, 39, 40, 41, 42, 43, 44, 45, 46, 47, 48, 49, 50, 51, 52, 53, 54, 55, 56, 57, 58, 59, 60, 62, 63, 64, 65, 66, 67, 68, 69, 70, 71, 72, 73, 74, 75, 76, 77, 78, 79, 80, 81, 82, 83, 84, 85, 86, 87, 88, 89, 90, 91, 92, 93] (by decide +kernel) (by decide +kernel)
set_option maxRecDepth 20000 in
theorem gX10_chain_X10_doer : GoodIn wsX10_chain (wsV RX10 185 RX10 yX10_doer wsX10_doer) := goodIn_app (goodIn_of _ (by decide +kernel)) ggX10_chain_X10_doer
theorem dX10_chain_3 : decode cX10_chain 3 = .ok (.invokevirtual 185, 3) := by decide +kernel
theorem dX10_chain_6 : decode cX10_chain 6 = .ok (.istore_n 3, 1) := by decide +kernel
theorem dX10_chain_7 : decode cX10_chain 7 = .ok (.iload_n 3, 1) := by decide +kernel
theorem dX10_chain_8 : decode cX10_chain 8 = .ok (.ifCond .ge 7, 3) := by decide +kernel
theorem dX10_chain_11 : decode cX10_chain 11 = .ok (.iload_n 3, 1) := by decide +kernel
theorem dX10_chain_12 : decode cX10_chain 12 = .ok (.goto 12, 3) := by decide +kernel
theorem dX10_chain_24 : decode cX10_chain 24 = .ok (.ireturn, 1) := by decide +kernel
theorem dX10_asked_0 : decode cX10_asked 0 = .ok (.aload_n 0, 1) := by decide +kernel
theorem dX10_asked_1 : decode cX10_asked 1 = .ok (.iload_n 1, 1) := by decide +kernel
theorem dX10_asked_2 : decode cX10_asked 2 = .ok (.iload_n 2, 1) := by decide +kernel
set_option maxRecDepth 20000 in
theorem ggX10_asked_X10_doer : GoodIn wsX10_asked wsX10_doer := goodIn_r _ [5, 6, 7, 8, 9, 4, 10, 11, 12, 13, 14, 15, 16, 17, 18, 19, 20, 21, 22, 23, 24, 25, 26, 27, 28, 29, 30, 31, 32, 33, 34, 35, 36, 37, 38, 39, 40, 41, 42, 43, 44, 45, 46, 47, 48, 49, 50, 51, 52, 53, 54, 55, 56, 57, 58, 59, 60, 70, 71, 72, 73, 74, 75, 76, 77, 78, 79, 80, 81, 82, 83, 84, 85, 86, 87, 88, 89, 90, 91, 92, 93, 94, 95, 96, 97, 98, 99, 100, 101] (by decide +kernel) (by decide +kernel)
set_option maxRecDepth 20000 in
theorem gX10_asked_X10_doer : GoodIn wsX10_asked (wsV RX10 185 RX10 yX10_doer wsX10_doer) := goodIn_app (goodIn_of _ (by decide +kernel)) ggX10_asked_X10_doer
theorem dX10_asked_3 : decode cX10_asked 3 = .ok (.invokevirtual 185, 3) := by decide +kernel
theorem dX10_asked_6 : decode cX10_asked 6 = .ok (.istore 4, 2) := by decide +kernel
theorem dX10_asked_8 : decode cX10_asked 8 = .ok (.iload 4, 2) := by decide +kernel
theorem dX10_asked_10 : decode cX10_asked 10 = .ok (.ifCond .ge 6, 3) := by decide +kernel
theorem dX10_asked_13 : decode cX10_asked 13 = .ok (.iload 4, 2) := by decide +kernel
theorem dX10_asked_15 : decode cX10_asked 15 = .ok (.ireturn, 1) := by decide +kernel
theorem dX10_can_0 : decode cX10_can 0 = .ok (.aload_n 0, 1) := by decide +kernel
theorem dX10_can_1 : decode cX10_can 1 = .ok (.iload_n 1, 1) := by decide +kernel
set_option maxRecDepth 20000 in
theorem ggX10_can_X10_isPerson : GoodIn wsX10_can wsX10_isPerson := goodIn_r _ [7, 1, 8, 9, 10, 11, 12, 13, 14, 15, 54, 55, 56, 57, 58, 59, 60, 61, 62, 63, 64, 65, 66, 67, 68, 69, 70, 71, 72, 73, 74, 75, 76, 77, 78] (by decide +kernel) (by decide +kernel)
set_option maxRecDepth 20000 in
theorem gX10_can_X10_isPerson : GoodIn wsX10_can (wsV RX10 124 RX10 yX10_isPerson wsX10_isPerson) := goodIn_app (goodIn_of _ (by decide +kernel)) ggX10_can_X10_isPerson
theorem dX10_can_2 : decode cX10_can 2 = .ok (.invokevirtual 124, 3) := by decide +kernel
theorem dX10_can_5 : decode cX10_can 5 = .ok (.ifCond .ne 6, 3) := by decide +kernel
theorem dX10_can_8 : decode cX10_can 8 = .ok (.bipush (-2), 2) := by decide +kernel
theorem dX10_can_10 : decode cX10_can 10 = .ok (.ireturn, 1) := by decide +kernel
theorem dX10_why_0 : decode cX10_why 0 = .ok (.aload_n 0, 1) := by decide +kernel
theorem dX10_why_1 : decode cX10_why 1 = .ok (.iload_n 1, 1) := by decide +kernel
set_option maxRecDepth 20000 in
theorem ggX10_why_X10_isPerson : GoodIn wsX10_why wsX10_isPerson := goodIn_r _ [7, 1, 2, 8, 9, 10, 11, 12, 13, 14, 46, 47, 48, 49, 50, 51, 52, 53, 54, 55, 56, 57, 58, 59, 60, 61, 62, 63, 64, 65, 66, 67, 68, 69, 70] (by decide +kernel) (by decide +kernel)
set_option maxRecDepth 20000 in
theorem gX10_why_X10_isPerson : GoodIn wsX10_why (wsV RX10 124 RX10 yX10_isPerson wsX10_isPerson) := goodIn_app (goodIn_of _ (by decide +kernel)) ggX10_why_X10_isPerson
theorem dX10_why_2 : decode cX10_why 2 = .ok (.invokevirtual 124, 3) := by decide +kernel
theorem dX10_why_5 : decode cX10_why 5 = .ok (.ifCond .eq 18, 3) := by decide +kernel
theorem dX10_why_23 : decode cX10_why 23 = .ok (.bipush (-2), 2) := by decide +kernel
theorem dX10_why_25 : decode cX10_why 25 = .ok (.ireturn, 1) := by decide +kernel
theorem dX10_ask_0 : decode cX10_ask 0 = .ok (.aload_n 0, 1) := by decide +kernel
theorem dX10_ask_1 : decode cX10_ask 1 = .ok (.iload_n 1, 1) := by decide +kernel
theorem dX10_ask_2 : decode cX10_ask 2 = .ok (.iload_n 2, 1) := by decide +kernel
theorem dX10_ask_3 : decode cX10_ask 3 = .ok (.iload_n 3, 1) := by decide +kernel
set_option maxRecDepth 20000 in
theorem ggX10_ask_X10_why : GoodIn wsX10_ask wsX10_why := goodIn_r _ [7, 1, 2, 8, 9, 10, 6, 11, 12, 13, 14, 15, 16, 17, 18, 19, 20, 21, 22, 23, 24, 25, 26, 27, 28, 29, 30, 31, 32, 33, 34, 35, 36, 37, 38, 39, 40, 41, 42, 43, 44, 45, 46, 47, 48, 49, 105, 106, 107, 108, 109, 110, 111, 112, 113, 114, 115, 116, 117, 118, 119, 120, 121, 122, 123, 124, 125, 126, 127, 128, 129, 130, 131, 132, 133, 134, 135, 136] (by decide +kernel) (by decide +kernel)
set_option maxRecDepth 20000 in
theorem gX10_ask_X10_why : GoodIn wsX10_ask (wsV RX10 207 RX10 yX10_why wsX10_why) := goodIn_app (goodIn_of _ (by decide +kernel)) ggX10_ask_X10_why
theorem dX10_ask_4 : decode cX10_ask 4 = .ok (.invokevirtual 207, 3) := by decide +kernel
theorem dX10_ask_7 : decode cX10_ask 7 = .ok (.istore 4, 2) := by decide +kernel
theorem dX10_ask_9 : decode cX10_ask 9 = .ok (.iload 4, 2) := by decide +kernel
theorem dX10_ask_11 : decode cX10_ask 11 = .ok (.bipush (-2), 2) := by decide +kernel
theorem dX10_ask_13 : decode cX10_ask 13 = .ok (.if_icmp .ne 6, 3) := by decide +kernel
theorem dX10_ask_16 : decode cX10_ask 16 = .ok (.bipush (-2), 2) := by decide +kernel
theorem dX10_ask_18 : decode cX10_ask 18 = .ok (.ireturn, 1) := by decide +kernel
theorem dX10_give_0 : decode cX10_give 0 = .ok (.aload_n 0, 1) := by decide +kernel
theorem dX10_give_1 : decode cX10_give 1 = .ok (.iload_n 1, 1) := by decide +kernel
set_option maxRecDepth 20000 in
theorem ggX10_give_X10_isPerson : GoodIn wsX10_give wsX10_isPerson := goodIn_r _ [7, 1, 2, 8, 9, 10, 11, 12, 13, 14, 90, 91, 92, 93, 94, 95, 96, 97, 98, 99, 100, 101, 102, 103, 104, 105, 106, 107, 108, 109, 110, 111, 112, 113, 114] (by decide +kernel) (by decide +kernel)
set_option maxRecDepth 20000 in
theorem gX10_give_X10_isPerson : GoodIn wsX10_give (wsV RX10 124 RX10 yX10_isPerson wsX10_isPerson) := goodIn_app (goodIn_of _ (by decide +kernel)) ggX10_give_X10_isPerson
theorem dX10_give_2 : decode cX10_give 2 = .ok (.invokevirtual 124, 3) := by decide +kernel
theorem dX10_give_5 : decode cX10_give 5 = .ok (.ifCond .eq 28, 3) := by decide +kernel
theorem dX10_give_33 : decode cX10_give 33 = .ok (.bipush (-2), 2) := by decide +kernel
theorem dX10_give_35 : decode cX10_give 35 = .ok (.ireturn, 1) := by decide +kernel
theorem dX10_swap_0 : decode cX10_swap 0 = .ok (.aload_n 0, 1) := by decide +kernel
theorem dX10_swap_1 : decode cX10_swap 1 = .ok (.iload_n 1, 1) := by decide +kernel
set_option maxRecDepth 20000 in
theorem ggX10_swap_X10_isPerson : GoodIn wsX10_swap wsX10_isPerson := goodIn_r _ [6, 1, 7, 8, 9, 10, 11, 12, 13, 14, 86, 87, 88, 89, 90, 91, 92, 93, 94, 95, 96, 97, 98, 99, 100, 101, 102, 103, 104, 105, 106, 107, 108, 109, 110] (by decide +kernel) (by decide +kernel)
set_option maxRecDepth 20000 in
theorem gX10_swap_X10_isPerson : GoodIn wsX10_swap (wsV RX10 124 RX10 yX10_isPerson wsX10_isPerson) := goodIn_app (goodIn_of _ (by decide +kernel)) ggX10_swap_X10_isPerson
theorem dX10_swap_2 : decode cX10_swap 2 = .ok (.invokevirtual 124, 3) := by decide +kernel
theorem dX10_swap_5 : decode cX10_swap 5 = .ok (.ifCond .eq 16, 3) := by decide +kernel
theorem dX10_swap_21 : decode cX10_swap 21 = .ok (.bipush (-2), 2) := by decide +kernel
theorem dX10_swap_23 : decode cX10_swap 23 = .ok (.ireturn, 1) := by decide +kernel
theorem dX10_steal_0 : decode cX10_steal 0 = .ok (.aload_n 0, 1) := by decide +kernel
theorem dX10_steal_1 : decode cX10_steal 1 = .ok (.iload_n 1, 1) := by decide +kernel
set_option maxRecDepth 20000 in
theorem ggX10_steal_X10_isPerson : GoodIn wsX10_steal wsX10_isPerson := goodIn_r _ [8, 1, 2, 9, 10, 11, 12, 13, 14, 15, 88, 89, 90, 91, 92, 93, 94, 95, 96, 97, 98, 99, 100, 101, 102, 103, 104, 105, 106, 107, 108, 109, 110, 111, 112] (by decide +kernel) (by decide +kernel)
set_option maxRecDepth 20000 in
theorem gX10_steal_X10_isPerson : GoodIn wsX10_steal (wsV RX10 124 RX10 yX10_isPerson wsX10_isPerson) := goodIn_app (goodIn_of _ (by decide +kernel)) ggX10_steal_X10_isPerson
theorem dX10_steal_2 : decode cX10_steal 2 = .ok (.invokevirtual 124, 3) := by decide +kernel
theorem dX10_steal_5 : decode cX10_steal 5 = .ok (.ifCond .eq 11, 3) := by decide +kernel
theorem dX10_steal_16 : decode cX10_steal 16 = .ok (.bipush (-2), 2) := by decide +kernel
theorem dX10_steal_18 : decode cX10_steal 18 = .ok (.ireturn, 1) := by decide +kernel
theorem dX10_day_0 : decode cX10_day 0 = .ok (.aload_n 0, 1) := by decide +kernel
set_option maxRecDepth 20000 in
theorem ggX10_day_X10_hasCity : GoodIn wsX10_day wsX10_hasCity := goodIn_r _ [8, 1, 9, 10, 82, 83, 84, 85, 86, 87, 88, 89, 90, 91, 92, 93, 94, 95, 96, 105, 106, 107, 108, 109, 110, 111] (by decide +kernel) (by decide +kernel)
set_option maxRecDepth 20000 in
theorem gX10_day_X10_hasCity : GoodIn wsX10_day (wsV RX10 163 RX10 yX10_hasCity wsX10_hasCity) := goodIn_app (goodIn_of _ (by decide +kernel)) ggX10_day_X10_hasCity
theorem dX10_day_1 : decode cX10_day 1 = .ok (.invokevirtual 163, 3) := by decide +kernel
theorem dX10_day_4 : decode cX10_day 4 = .ok (.ifCond .ne 6, 3) := by decide +kernel
theorem dX10_day_7 : decode cX10_day 7 = .ok (.bipush (-2), 2) := by decide +kernel
theorem dX10_day_9 : decode cX10_day 9 = .ok (.ireturn, 1) := by decide +kernel
theorem dX10_undo_0 : decode cX10_undo 0 = .ok (.aload_n 0, 1) := by decide +kernel
set_option maxRecDepth 20000 in
theorem ggX10_undo_X10_hasCity : GoodIn wsX10_undo wsX10_hasCity := goodIn_r _ [7, 1, 8, 9, 91, 92, 93, 94, 95, 96, 97, 98, 99, 100, 101, 102, 103, 104, 105, 106, 107, 108, 109, 110, 111, 112] (by decide +kernel) (by decide +kernel)
set_option maxRecDepth 20000 in
theorem gX10_undo_X10_hasCity : GoodIn wsX10_undo (wsV RX10 163 RX10 yX10_hasCity wsX10_hasCity) := goodIn_app (goodIn_of _ (by decide +kernel)) ggX10_undo_X10_hasCity
theorem dX10_undo_1 : decode cX10_undo 1 = .ok (.invokevirtual 163, 3) := by decide +kernel
theorem dX10_undo_4 : decode cX10_undo 4 = .ok (.ifCond .ne 6, 3) := by decide +kernel
theorem dX10_undo_7 : decode cX10_undo 7 = .ok (.bipush (-2), 2) := by decide +kernel
theorem dX10_undo_9 : decode cX10_undo 9 = .ok (.ireturn, 1) := by decide +kernel
theorem dX10_anew_0 : decode cX10_anew 0 = .ok (.aload_n 0, 1) := by decide +kernel
set_option maxRecDepth 20000 in
theorem ggX10_anew_X10_hasCity : GoodIn wsX10_anew wsX10_hasCity := goodIn_r _ [7, 1, 8, 9, 91, 92, 93, 94, 95, 96, 97, 98, 99, 100, 101, 102, 103, 104, 105, 106, 107, 108, 109, 110, 111, 112] (by decide +kernel) (by decide +kernel)
set_option maxRecDepth 20000 in
theorem gX10_anew_X10_hasCity : GoodIn wsX10_anew (wsV RX10 163 RX10 yX10_hasCity wsX10_hasCity) := goodIn_app (goodIn_of _ (by decide +kernel)) ggX10_anew_X10_hasCity
theorem dX10_anew_1 : decode cX10_anew 1 = .ok (.invokevirtual 163, 3) := by decide +kernel
theorem dX10_anew_4 : decode cX10_anew 4 = .ok (.ifCond .ne 6, 3) := by decide +kernel
theorem dX10_anew_7 : decode cX10_anew 7 = .ok (.bipush (-2), 2) := by decide +kernel
theorem dX10_anew_9 : decode cX10_anew 9 = .ok (.ireturn, 1) := by decide +kernel
theorem dX10_now_0 : decode cX10_now 0 = .ok (.aload_n 0, 1) := by decide +kernel
set_option maxRecDepth 20000 in
theorem ggX10_now_X10_hasCity : GoodIn wsX10_now wsX10_hasCity := goodIn_r _ [11, 1, 12, 13, 14, 15, 16, 17, 18, 19, 20, 21, 22, 23, 24, 25, 26, 27, 28, 37, 38, 39, 40, 41, 42, 43] (by decide +kernel) (by decide +kernel)
set_option maxRecDepth 20000 in
theorem gX10_now_X10_hasCity : GoodIn wsX10_now (wsV RX10 163 RX10 yX10_hasCity wsX10_hasCity) := goodIn_app (goodIn_of _ (by decide +kernel)) ggX10_now_X10_hasCity
theorem dX10_now_1 : decode cX10_now 1 = .ok (.invokevirtual 163, 3) := by decide +kernel
theorem dX10_now_4 : decode cX10_now 4 = .ok (.ifCond .ne 6, 3) := by decide +kernel
theorem dX10_now_7 : decode cX10_now 7 = .ok (.bipush (-2), 2) := by decide +kernel
theorem dX10_now_9 : decode cX10_now 9 = .ok (.ireturn, 1) := by decide +kernel
theorem dX10_own_0 : decode cX10_own 0 = .ok (.aload_n 0, 1) := by decide +kernel
set_option maxRecDepth 20000 in
theorem ggX10_own_X10_hasCity : GoodIn wsX10_own wsX10_hasCity := goodIn_r _ [6, 7, 8, 9, 64, 65, 66, 67, 68, 69, 70, 71, 72, 73, 74, 75, 76, 77, 78, 79, 80, 81, 82, 83, 84, 85] (by decide +kernel) (by decide +kernel)
set_option maxRecDepth 20000 in
theorem gX10_own_X10_hasCity : GoodIn wsX10_own (wsV RX10 163 RX10 yX10_hasCity wsX10_hasCity) := goodIn_app (goodIn_of _ (by decide +kernel)) ggX10_own_X10_hasCity
theorem dX10_own_1 : decode cX10_own 1 = .ok (.invokevirtual 163, 3) := by decide +kernel
theorem dX10_own_4 : decode cX10_own 4 = .ok (.ifCond .ne 6, 3) := by decide +kernel
theorem dX10_own_7 : decode cX10_own 7 = .ok (.bipush (-2), 2) := by decide +kernel
theorem dX10_own_9 : decode cX10_own 9 = .ok (.ireturn, 1) := by decide +kernel
theorem dX10_first_0 : decode cX10_first 0 = .ok (.aload_n 0, 1) := by decide +kernel
set_option maxRecDepth 20000 in
theorem ggX10_first_X10_hasCity : GoodIn wsX10_first wsX10_hasCity := goodIn_r _ [6, 7, 8, 9, 60, 61, 62, 63, 64, 65, 66, 67, 68, 69, 70, 71, 72, 73, 74, 75, 76, 77, 78, 79, 80, 81] (by decide +kernel) (by decide +kernel)
set_option maxRecDepth 20000 in
theorem gX10_first_X10_hasCity : GoodIn wsX10_first (wsV RX10 163 RX10 yX10_hasCity wsX10_hasCity) := goodIn_app (goodIn_of _ (by decide +kernel)) ggX10_first_X10_hasCity
theorem dX10_first_1 : decode cX10_first 1 = .ok (.invokevirtual 163, 3) := by decide +kernel
theorem dX10_first_4 : decode cX10_first 4 = .ok (.ifCond .eq 12, 3) := by decide +kernel
theorem dX10_first_16 : decode cX10_first 16 = .ok (.bipush (-2), 2) := by decide +kernel
theorem dX10_first_18 : decode cX10_first 18 = .ok (.ireturn, 1) := by decide +kernel
theorem dX10_work_0 : decode cX10_work 0 = .ok (.aload_n 0, 1) := by decide +kernel
set_option maxRecDepth 20000 in
theorem ggX10_work_X10_hasCity : GoodIn wsX10_work wsX10_hasCity := goodIn_r _ [8, 2, 3, 9, 77, 78, 79, 80, 81, 82, 83, 84, 85, 86, 87, 88, 89, 90, 91, 92, 93, 94, 95, 96, 97, 98] (by decide +kernel) (by decide +kernel)
set_option maxRecDepth 20000 in
theorem gX10_work_X10_hasCity : GoodIn wsX10_work (wsV RX10 163 RX10 yX10_hasCity wsX10_hasCity) := goodIn_app (goodIn_of _ (by decide +kernel)) ggX10_work_X10_hasCity
theorem dX10_work_1 : decode cX10_work 1 = .ok (.invokevirtual 163, 3) := by decide +kernel
theorem dX10_work_4 : decode cX10_work 4 = .ok (.ifCond .ne 6, 3) := by decide +kernel
theorem dX10_work_7 : decode cX10_work 7 = .ok (.bipush (-2), 2) := by decide +kernel
theorem dX10_work_9 : decode cX10_work 9 = .ok (.ireturn, 1) := by decide +kernel
theorem dX10_works_0 : decode cX10_works 0 = .ok (.aload_n 0, 1) := by decide +kernel
theorem dX10_works_1 : decode cX10_works 1 = .ok (.iload_n 1, 1) := by decide +kernel
set_option maxRecDepth 20000 in
theorem ggX10_works_X10_isPerson : GoodIn wsX10_works wsX10_isPerson := goodIn_r _ [6, 1, 7, 8, 9, 10, 11, 12, 13, 14, 78, 79, 80, 81, 82, 83, 84, 85, 86, 87, 88, 89, 90, 91, 92, 93, 94, 95, 96, 97, 98, 99, 100, 101, 102] (by decide +kernel) (by decide +kernel)
set_option maxRecDepth 20000 in
theorem gX10_works_X10_isPerson : GoodIn wsX10_works (wsV RX10 124 RX10 yX10_isPerson wsX10_isPerson) := goodIn_app (goodIn_of _ (by decide +kernel)) ggX10_works_X10_isPerson
theorem dX10_works_2 : decode cX10_works 2 = .ok (.invokevirtual 124, 3) := by decide +kernel
theorem dX10_works_5 : decode cX10_works 5 = .ok (.ifCond .ne 6, 3) := by decide +kernel
theorem dX10_works_8 : decode cX10_works 8 = .ok (.bipush (-2), 2) := by decide +kernel
theorem dX10_works_10 : decode cX10_works 10 = .ok (.ireturn, 1) := by decide +kernel
theorem dX10_covers_0 : decode cX10_covers 0 = .ok (.aload_n 0, 1) := by decide +kernel
set_option maxRecDepth 20000 in
theorem ggX10_covers_X10_hasCity : GoodIn wsX10_covers wsX10_hasCity := goodIn_r _ [7, 2, 8, 9, 64, 65, 66, 67, 68, 69, 70, 71, 72, 73, 74, 75, 76, 77, 78, 79, 80, 81, 82, 83, 84, 85] (by decide +kernel) (by decide +kernel)
set_option maxRecDepth 20000 in
theorem gX10_covers_X10_hasCity : GoodIn wsX10_covers (wsV RX10 163 RX10 yX10_hasCity wsX10_hasCity) := goodIn_app (goodIn_of _ (by decide +kernel)) ggX10_covers_X10_hasCity
theorem dX10_covers_1 : decode cX10_covers 1 = .ok (.invokevirtual 163, 3) := by decide +kernel
theorem dX10_covers_4 : decode cX10_covers 4 = .ok (.ifCond .eq 10, 3) := by decide +kernel
theorem dX10_covers_14 : decode cX10_covers 14 = .ok (.bipush (-2), 2) := by decide +kernel
theorem dX10_covers_16 : decode cX10_covers 16 = .ok (.ireturn, 1) := by decide +kernel
theorem dX10_cover_0 : decode cX10_cover 0 = .ok (.aload_n 0, 1) := by decide +kernel
theorem dX10_cover_1 : decode cX10_cover 1 = .ok (.iload_n 1, 1) := by decide +kernel
set_option maxRecDepth 20000 in
theorem ggX10_cover_X10_covers : GoodIn wsX10_cover wsX10_covers := goodIn_r _ [5, 6, 7, 8, 9, 10, 4, 11, 12, 13, 14, 15, 16, 17, 18, 19, 20, 21, 22, 23, 24, 25, 26, 27, 28, 29, 30, 31, 32, 33, 34, 35, 36, 37, 38, 39, 40, 41, 42, 43, 44, 45, 46, 47, 48, 49, 50, 51, 52, 53, 54, 55, 56, 57, 58, 59, 60, 61, 62, 63, 64, 65, 66, 67, 75, 76, 77, 78, 79, 80, 81, 82, 83, 84, 85, 86, 87, 88, 89, 90, 91, 92, 93, 94, 95, 96, 97, 98, 99, 100, 101, 102, 103, 104, 105, 106, 107, 108, 109] (by decide +kernel) (by decide +kernel)
set_option maxRecDepth 20000 in
theorem gX10_cover_X10_covers : GoodIn wsX10_cover (wsV RX10 253 RX10 yX10_covers wsX10_covers) := goodIn_app (goodIn_of _ (by decide +kernel)) ggX10_cover_X10_covers
theorem dX10_cover_2 : decode cX10_cover 2 = .ok (.invokevirtual 253, 3) := by decide +kernel
theorem dX10_cover_5 : decode cX10_cover 5 = .ok (.istore_n 2, 1) := by decide +kernel
theorem dX10_cover_6 : decode cX10_cover 6 = .ok (.iload_n 2, 1) := by decide +kernel
theorem dX10_cover_7 : decode cX10_cover 7 = .ok (.ifCond .ge 7, 3) := by decide +kernel
theorem dX10_cover_10 : decode cX10_cover 10 = .ok (.iload_n 2, 1) := by decide +kernel
theorem dX10_cover_11 : decode cX10_cover 11 = .ok (.goto 7, 3) := by decide +kernel
theorem dX10_cover_18 : decode cX10_cover 18 = .ok (.ireturn, 1) := by decide +kernel
theorem dX10_bought_0 : decode cX10_bought 0 = .ok (.aload_n 0, 1) := by decide +kernel
set_option maxRecDepth 20000 in
theorem ggX10_bought_X10_hasCity : GoodIn wsX10_bought wsX10_hasCity := goodIn_r _ [7, 2, 8, 9, 50, 51, 52, 53, 54, 55, 56, 57, 58, 59, 60, 61, 62, 63, 64, 65, 66, 67, 68, 69, 70, 71] (by decide +kernel) (by decide +kernel)
set_option maxRecDepth 20000 in
theorem gX10_bought_X10_hasCity : GoodIn wsX10_bought (wsV RX10 163 RX10 yX10_hasCity wsX10_hasCity) := goodIn_app (goodIn_of _ (by decide +kernel)) ggX10_bought_X10_hasCity
theorem dX10_bought_1 : decode cX10_bought 1 = .ok (.invokevirtual 163, 3) := by decide +kernel
theorem dX10_bought_4 : decode cX10_bought 4 = .ok (.ifCond .eq 10, 3) := by decide +kernel
theorem dX10_bought_14 : decode cX10_bought 14 = .ok (.bipush (-2), 2) := by decide +kernel
theorem dX10_bought_16 : decode cX10_bought 16 = .ok (.ireturn, 1) := by decide +kernel
theorem dX10_buy_0 : decode cX10_buy 0 = .ok (.aload_n 0, 1) := by decide +kernel
theorem dX10_buy_1 : decode cX10_buy 1 = .ok (.iload_n 1, 1) := by decide +kernel
set_option maxRecDepth 20000 in
theorem ggX10_buy_X10_bought : GoodIn wsX10_buy wsX10_bought := goodIn_r _ [6, 1, 7, 8, 9, 10, 5, 11, 12, 13, 14, 15, 16, 17, 18, 19, 20, 21, 22, 23, 24, 25, 26, 27, 28, 29, 30, 31, 32, 33, 34, 35, 36, 37, 38, 39, 40, 41, 42, 43, 44, 45, 46, 47, 48, 49, 50, 51, 52, 53, 58, 59, 60, 61, 62, 63, 64, 65, 66, 67, 68, 69, 70, 71, 72, 73, 74, 75, 76, 77, 78, 79, 80, 81, 82, 83, 84] (by decide +kernel) (by decide +kernel)
set_option maxRecDepth 20000 in
theorem gX10_buy_X10_bought : GoodIn wsX10_buy (wsV RX10 271 RX10 yX10_bought wsX10_bought) := goodIn_app (goodIn_of _ (by decide +kernel)) ggX10_buy_X10_bought
theorem dX10_buy_2 : decode cX10_buy 2 = .ok (.invokevirtual 271, 3) := by decide +kernel
theorem dX10_buy_5 : decode cX10_buy 5 = .ok (.istore_n 2, 1) := by decide +kernel
theorem dX10_buy_6 : decode cX10_buy 6 = .ok (.iload_n 2, 1) := by decide +kernel
theorem dX10_buy_7 : decode cX10_buy 7 = .ok (.ifCond .ge 7, 3) := by decide +kernel
theorem dX10_buy_10 : decode cX10_buy 10 = .ok (.iload_n 2, 1) := by decide +kernel
theorem dX10_buy_11 : decode cX10_buy 11 = .ok (.goto 11, 3) := by decide +kernel
theorem dX10_buy_22 : decode cX10_buy 22 = .ok (.ireturn, 1) := by decide +kernel
theorem dX10_hired_0 : decode cX10_hired 0 = .ok (.aload_n 0, 1) := by decide +kernel
set_option maxRecDepth 20000 in
theorem ggX10_hired_X10_hasCity : GoodIn wsX10_hired wsX10_hasCity := goodIn_r _ [7, 2, 8, 9, 54, 55, 56, 57, 58, 59, 60, 61, 62, 63, 64, 65, 66, 67, 68, 69, 70, 71, 72, 73, 74, 75] (by decide +kernel) (by decide +kernel)
set_option maxRecDepth 20000 in
theorem gX10_hired_X10_hasCity : GoodIn wsX10_hired (wsV RX10 163 RX10 yX10_hasCity wsX10_hasCity) := goodIn_app (goodIn_of _ (by decide +kernel)) ggX10_hired_X10_hasCity
theorem dX10_hired_1 : decode cX10_hired 1 = .ok (.invokevirtual 163, 3) := by decide +kernel
theorem dX10_hired_4 : decode cX10_hired 4 = .ok (.ifCond .eq 14, 3) := by decide +kernel
theorem dX10_hired_18 : decode cX10_hired 18 = .ok (.bipush (-2), 2) := by decide +kernel
theorem dX10_hired_20 : decode cX10_hired 20 = .ok (.ireturn, 1) := by decide +kernel
theorem dX10_deeds_0 : decode cX10_deeds 0 = .ok (.aload_n 0, 1) := by decide +kernel
theorem dX10_deeds_1 : decode cX10_deeds 1 = .ok (.iload_n 1, 1) := by decide +kernel
set_option maxRecDepth 20000 in
theorem ggX10_deeds_X10_hired : GoodIn wsX10_deeds wsX10_hired := goodIn_r _ [6, 1, 7, 8, 9, 10, 5, 11, 12, 13, 14, 15, 16, 17, 18, 19, 20, 21, 22, 23, 24, 25, 26, 27, 28, 29, 30, 31, 32, 33, 34, 35, 36, 37, 38, 39, 40, 41, 42, 43, 44, 45, 46, 47, 48, 49, 50, 51, 52, 53, 54, 55, 56, 57, 63, 64, 65, 66, 67, 68, 69, 70, 71, 72, 73, 74, 75, 76, 77, 78, 79, 80, 81, 82, 83, 84, 85, 86, 87, 88, 89] (by decide +kernel) (by decide +kernel)
set_option maxRecDepth 20000 in
theorem gX10_deeds_X10_hired : GoodIn wsX10_deeds (wsV RX10 280 RX10 yX10_hired wsX10_hired) := goodIn_app (goodIn_of _ (by decide +kernel)) ggX10_deeds_X10_hired
theorem dX10_deeds_2 : decode cX10_deeds 2 = .ok (.invokevirtual 280, 3) := by decide +kernel
theorem dX10_deeds_5 : decode cX10_deeds 5 = .ok (.istore_n 2, 1) := by decide +kernel
theorem dX10_deeds_6 : decode cX10_deeds 6 = .ok (.iload_n 2, 1) := by decide +kernel
theorem dX10_deeds_7 : decode cX10_deeds 7 = .ok (.ifCond .ge 7, 3) := by decide +kernel
theorem dX10_deeds_10 : decode cX10_deeds 10 = .ok (.iload_n 2, 1) := by decide +kernel
theorem dX10_deeds_11 : decode cX10_deeds 11 = .ok (.goto 14, 3) := by decide +kernel
theorem dX10_deeds_25 : decode cX10_deeds 25 = .ok (.ireturn, 1) := by decide +kernel
set_option maxHeartbeats 4000000 in
set_option maxRecDepth 100000 in
theorem c_X10_isPerson (l : Launch) (G : va_G) (ct : Nat → ClassId) (a : Nat → Nat) (rr : Nat → Nat) (p0 : Int32)  : Met l yX10_isPerson wsX10_isPerson ({ frames := 1, cells := 0, slots := 0, locals := 21 }) (va_Pc [.ref (a 0), .int p0] (roP G ct (xF a rr ct))) (roQ (fun r => r = 0)) 0 0 no := by
  refine Met.ofW (cc := cX10_isPerson) (maxL := 2) (ret := (some .boolean)) (by decide) rfl ?_
  intro p e s m args below meth c s₁ B hml hv
  obtain ⟨rfl, hP, hK⟩ := hv
  have hx := B.exec
  have hb := B.bytes
  have hr := B.returns
  have hts := atoms_spec (ws := wsX10_isPerson) B.pre
  have hown : s.vm.findClass RX10 = some m.cls := findClass_of_methodNamed B.named
  have hlocks := B.notSynchronized
  have hS : va_S no s.heap s.heap [] := va_S.rf
  have hl := lv_entry ([.ref (a 0), .int p0]) (n := 2) (Nat.le_of_ble_eq_true rfl)
  rw [lg_entry_eq]
  generalize (lg_sl ([.ref (a 0), .int p0]) ++ List.replicate (2 - (lg_sl ([.ref (a 0), .int p0])).length) Slot.unset).toArray = ls at hl ⊢
  have hl : lv_has ls 2 [(0, .ref (a 0)), (1, .int p0)] := hl
  refine lv_aload_n hx hb dX10_isPerson_0 rfl (lv_at hl 0 rfl) ?_
  refine va_get (D := G) (ci := 10) (v := .ref (a 11)) (C := RX10) (T := TX10) (N := 11) hx hb hts (by decide +kernel) hown hK.1 hP 0 rfl rfl 2 (by decide) (hts (.fieldLink RX10 28 "CardHolder" "play" "LCardHolder$Play;") (by decide +kernel)) (fun _ h9 => h9) rfl dX10_isPerson_1 ?_
  refine va_get (D := G) (ci := 4) (v := .ref (a 19)) (C := RX4) (T := TX4) (N := 4) hx hb hts (by decide +kernel) hown hK.1 hP 11 rfl rfl 1 (by decide) (hts (.fieldLink RX10 147 "CardHolder$Play" "hands" "LCardHolder$Hands;") (by decide +kernel)) (fun _ h9 => h9) rfl dX10_isPerson_4 ?_
  refine va_get (D := G) (ci := 2) (v := .ref (a 20)) (C := RX2) (T := TX2) (N := 8) hx hb hts (by decide +kernel) hown hK.1 hP 19 rfl rfl 1 (by decide) (hts (.fieldLink RX10 366 "CardHolder$Hands" "bonds" "LCardHolder$Bonds;") (by decide +kernel)) (fun _ h9 => h9) rfl dX10_isPerson_7 ?_
  refine lv_iload_n hx hb dX10_isPerson_10 rfl (lv_at hl 1 rfl) ?_
  refine ro_calli (va_runV (As := [.int p0]) (rest := []) ⟨hx, hb, hml, hown, hts⟩ (c_X0_has l G ct (a 20) (a 21) 0 p0) (cwV 1 hts gX10_isPerson_X0_has rfl rfl rfl (by decide +kernel) ⟨Nat.le_of_ble_eq_true rfl, Nat.le_of_ble_eq_true rfl⟩) (ro_preV 0 0 hK (hP.sub [20] rfl) rfl rfl) rfl rfl hl.1 rfl (lv_room (Nat.le_of_ble_eq_true rfl)) dX10_isPerson_11 ⟨Nat.zero_le _, Nat.zero_le _⟩) hS hP (fun r_1 H locs wr_1 hP hS => ?_)
  obtain rfl := has_0 wr_1
  exact W.zret (v := 0) (ty := .boolean) hx hb hr (rfl) (fun t ht hW => ⟨⟨0, (), rfl, rfl, trivial⟩, hS.F ht⟩) hS.2.2 dX10_isPerson_14

set_option maxHeartbeats 4000000 in
set_option maxRecDepth 100000 in
theorem c_X10_hasCity (l : Launch) (G : va_G) (ct : Nat → ClassId) (a : Nat → Nat) (rr : Nat → Nat)  : Met l yX10_hasCity wsX10_hasCity ({ frames := 0, cells := 0, slots := 0, locals := 0 }) (va_Pc [.ref (a 0)] (roP G ct (xF a rr ct))) (roQ (fun r => r = 0)) 0 0 no := by
  refine Met.ofW (cc := cX10_hasCity) (maxL := 1) (ret := (some .boolean)) (by decide) rfl ?_
  intro p e s m args below meth c s₁ B hml hv
  obtain ⟨rfl, hP, hK⟩ := hv
  have hx := B.exec
  have hb := B.bytes
  have hr := B.returns
  have hts := atoms_spec (ws := wsX10_hasCity) B.pre
  have hown : s.vm.findClass RX10 = some m.cls := findClass_of_methodNamed B.named
  have hlocks := B.notSynchronized
  have hS : va_S no s.heap s.heap [] := va_S.rf
  have hl := lv_entry ([.ref (a 0)]) (n := 1) (Nat.le_of_ble_eq_true rfl)
  rw [lg_entry_eq]
  generalize (lg_sl ([.ref (a 0)]) ++ List.replicate (1 - (lg_sl ([.ref (a 0)])).length) Slot.unset).toArray = ls at hl ⊢
  have hl : lv_has ls 1 [(0, .ref (a 0))] := hl
  refine lv_aload_n hx hb dX10_hasCity_0 rfl (lv_at hl 0 rfl) ?_
  refine va_get (D := G) (ci := 10) (v := .ref (a 11)) (C := RX10) (T := TX10) (N := 11) hx hb hts (by decide +kernel) hown hK.1 hP 0 rfl rfl 2 (by decide) (hts (.fieldLink RX10 28 "CardHolder" "play" "LCardHolder$Play;") (by decide +kernel)) (fun _ h9 => h9) rfl dX10_hasCity_1 ?_
  refine va_get (D := G) (ci := 4) (v := .ref (a 12)) (C := RX4) (T := TX4) (N := 4) hx hb hts (by decide +kernel) hown hK.1 hP 11 rfl rfl 0 (by decide) (hts (.fieldLink RX10 49 "CardHolder$Play" "town" "LCardHolder$Town;") (by decide +kernel)) (fun _ h9 => h9) rfl dX10_hasCity_4 ?_
  refine va_get (D := G) (ci := 9) (v := .int 0) (C := RX9) (T := TX9) (N := 7) hx hb hts (by decide +kernel) hown hK.1 hP 12 rfl rfl 5 (by decide) (hts (.fieldLink RX10 113 "CardHolder$Town" "lines" "I") (by decide +kernel)) (fun _ h9 => h9) rfl dX10_hasCity_7 ?_
  refine lv_if_le (tgt := 17) hx hb dX10_hasCity_10 (by decide) (fun c_1 => ?_) (fun c_1 => ?_)
  · refine lv_iconst (v := 0) hx hb dX10_hasCity_17 (by decide) ?_
    exact W.zret (v := 0) (ty := .boolean) hx hb hr (rfl) (fun t ht hW => ⟨⟨0, (), rfl, rfl, trivial⟩, hS.F ht⟩) hS.2.2 dX10_hasCity_18
  · exact absurd c_1 (by decide)

set_option maxHeartbeats 4000000 in
set_option maxRecDepth 100000 in
theorem c_X10_free (l : Launch) (G : va_G) (ct : Nat → ClassId) (a : Nat → Nat) (rr : Nat → Nat)  : Met l yX10_free wsX10_free ({ frames := 4, cells := 0, slots := 0, locals := 85 }) (va_Pc [.ref (a 0)] (roP G ct (xF a rr ct))) (roQ (fun r => r = (-2))) 0 0 no := by
  refine Met.ofW (cc := cX10_free) (maxL := 1) (ret := (some .int)) (by decide) rfl ?_
  intro p e s m args below meth c s₁ B hml hv
  obtain ⟨rfl, hP, hK⟩ := hv
  have hx := B.exec
  have hb := B.bytes
  have hr := B.returns
  have hts := atoms_spec (ws := wsX10_free) B.pre
  have hown : s.vm.findClass RX10 = some m.cls := findClass_of_methodNamed B.named
  have hlocks := B.notSynchronized
  have hS : va_S no s.heap s.heap [] := va_S.rf
  have hl := lv_entry ([.ref (a 0)]) (n := 1) (Nat.le_of_ble_eq_true rfl)
  rw [lg_entry_eq]
  generalize (lg_sl ([.ref (a 0)]) ++ List.replicate (1 - (lg_sl ([.ref (a 0)])).length) Slot.unset).toArray = ls at hl ⊢
  have hl : lv_has ls 1 [(0, .ref (a 0))] := hl
  refine lv_aload_n hx hb dX10_free_0 rfl (lv_at hl 0 rfl) ?_
  refine ro_calli (va_runV (As := []) (rest := []) ⟨hx, hb, hml, hown, hts⟩ (c_X10_hasCity l G ct a rr) (cwV 0 hts gX10_free_X10_hasCity rfl rfl rfl (by decide +kernel) ⟨Nat.le_of_ble_eq_true rfl, Nat.le_of_ble_eq_true rfl⟩) (ro_preV 10 0 hK hP rfl rfl) rfl rfl hl.1 rfl (lv_room (Nat.le_of_ble_eq_true rfl)) dX10_free_1 ⟨Nat.zero_le _, Nat.zero_le _⟩) hS hP (fun r_1 H locs wr_1 hP hS => ?_)
  obtain rfl := wr_1
  refine lv_if_eq (tgt := 17) hx hb dX10_free_4 (by decide) (fun c_2 => ?_) (fun c_2 => ?_)
  · refine lv_bipush (v := (-2)) hx hb dX10_free_17 (by decide) ?_
    exact W.iret (v := (-2)) hx hb hr (fun t ht hW => ⟨⟨(-2), (), rfl, rfl, trivial⟩, hS.F ht⟩) hS.2.2 dX10_free_19
  · exact absurd c_2 (by decide)

set_option maxHeartbeats 4000000 in
set_option maxRecDepth 100000 in
theorem c_X10_under (l : Launch) (G : va_G) (ct : Nat → ClassId) (a : Nat → Nat) (rr : Nat → Nat) (p0 : Int32)  : Met l yX10_under wsX10_under ({ frames := 4, cells := 0, slots := 0, locals := 89 }) (va_Pc [.ref (a 0), .int p0] (roP G ct (xF a rr ct))) (roQ (fun r => r = (-2))) 0 0 no := by
  refine Met.ofW (cc := cX10_under) (maxL := 2) (ret := (some .int)) (by decide) rfl ?_
  intro p e s m args below meth c s₁ B hml hv
  obtain ⟨rfl, hP, hK⟩ := hv
  have hx := B.exec
  have hb := B.bytes
  have hr := B.returns
  have hts := atoms_spec (ws := wsX10_under) B.pre
  have hown : s.vm.findClass RX10 = some m.cls := findClass_of_methodNamed B.named
  have hlocks := B.notSynchronized
  have hS : va_S no s.heap s.heap [] := va_S.rf
  have hl := lv_entry ([.ref (a 0), .int p0]) (n := 2) (Nat.le_of_ble_eq_true rfl)
  rw [lg_entry_eq]
  generalize (lg_sl ([.ref (a 0), .int p0]) ++ List.replicate (2 - (lg_sl ([.ref (a 0), .int p0])).length) Slot.unset).toArray = ls at hl ⊢
  have hl : lv_has ls 2 [(0, .ref (a 0)), (1, .int p0)] := hl
  refine lv_aload_n hx hb dX10_under_0 rfl (lv_at hl 0 rfl) ?_
  refine lv_iload_n hx hb dX10_under_1 rfl (lv_at hl 1 rfl) ?_
  refine ro_calli (va_runV (As := [.int p0]) (rest := []) ⟨hx, hb, hml, hown, hts⟩ (c_X10_isPerson l G ct a rr p0) (cwV 1 hts gX10_under_X10_isPerson rfl rfl rfl (by decide +kernel) ⟨Nat.le_of_ble_eq_true rfl, Nat.le_of_ble_eq_true rfl⟩) (ro_preV 10 0 hK hP rfl rfl) rfl rfl hl.1 rfl (lv_room (Nat.le_of_ble_eq_true rfl)) dX10_under_2 ⟨Nat.zero_le _, Nat.zero_le _⟩) hS hP (fun r_1 H locs wr_1 hP hS => ?_)
  obtain rfl := wr_1
  refine lv_if_eq (tgt := 19) hx hb dX10_under_5 (by decide) (fun c_2 => ?_) (fun c_2 => ?_)
  · refine lv_bipush (v := (-2)) hx hb dX10_under_19 (by decide) ?_
    exact W.iret (v := (-2)) hx hb hr (fun t ht hW => ⟨⟨(-2), (), rfl, rfl, trivial⟩, hS.F ht⟩) hS.2.2 dX10_under_21
  · exact absurd c_2 (by decide)

set_option maxHeartbeats 4000000 in
set_option maxRecDepth 100000 in
theorem c_X10_time (l : Launch) (G : va_G) (ct : Nat → ClassId) (a : Nat → Nat) (rr : Nat → Nat) (p0 : Int32) (p1 : Int32)  : Met l yX10_time wsX10_time ({ frames := 4, cells := 0, slots := 0, locals := 92 }) (va_Pc [.ref (a 0), .int p0, .int p1] (roP G ct (xF a rr ct))) (roQ (fun r => r = (-2))) 0 0 no := by
  refine Met.ofW (cc := cX10_time) (maxL := 3) (ret := (some .int)) (by decide) rfl ?_
  intro p e s m args below meth c s₁ B hml hv
  obtain ⟨rfl, hP, hK⟩ := hv
  have hx := B.exec
  have hb := B.bytes
  have hr := B.returns
  have hts := atoms_spec (ws := wsX10_time) B.pre
  have hown : s.vm.findClass RX10 = some m.cls := findClass_of_methodNamed B.named
  have hlocks := B.notSynchronized
  have hS : va_S no s.heap s.heap [] := va_S.rf
  have hl := lv_entry ([.ref (a 0), .int p0, .int p1]) (n := 3) (Nat.le_of_ble_eq_true rfl)
  rw [lg_entry_eq]
  generalize (lg_sl ([.ref (a 0), .int p0, .int p1]) ++ List.replicate (3 - (lg_sl ([.ref (a 0), .int p0, .int p1])).length) Slot.unset).toArray = ls at hl ⊢
  have hl : lv_has ls 3 [(0, .ref (a 0)), (1, .int p0), (2, .int p1)] := hl
  refine lv_aload_n hx hb dX10_time_0 rfl (lv_at hl 0 rfl) ?_
  refine lv_iload_n hx hb dX10_time_1 rfl (lv_at hl 1 rfl) ?_
  refine ro_calli (va_runV (As := [.int p0]) (rest := []) ⟨hx, hb, hml, hown, hts⟩ (c_X10_isPerson l G ct a rr p0) (cwV 1 hts gX10_time_X10_isPerson rfl rfl rfl (by decide +kernel) ⟨Nat.le_of_ble_eq_true rfl, Nat.le_of_ble_eq_true rfl⟩) (ro_preV 10 0 hK hP rfl rfl) rfl rfl hl.1 rfl (lv_room (Nat.le_of_ble_eq_true rfl)) dX10_time_2 ⟨Nat.zero_le _, Nat.zero_le _⟩) hS hP (fun r_1 H locs wr_1 hP hS => ?_)
  obtain rfl := wr_1
  refine lv_if_eq (tgt := 16) hx hb dX10_time_5 (by decide) (fun c_2 => ?_) (fun c_2 => ?_)
  · refine lv_bipush (v := (-2)) hx hb dX10_time_16 (by decide) ?_
    exact W.iret (v := (-2)) hx hb hr (fun t ht hW => ⟨⟨(-2), (), rfl, rfl, trivial⟩, hS.F ht⟩) hS.2.2 dX10_time_18
  · exact absurd c_2 (by decide)

set_option maxHeartbeats 4000000 in
set_option maxRecDepth 100000 in
theorem c_X10_top (l : Launch) (G : va_G) (ct : Nat → ClassId) (a : Nat → Nat) (rr : Nat → Nat) (p0 : Int32)  : Met l yX10_top wsX10_top ({ frames := 3, cells := 0, slots := 0, locals := 66 }) (va_Pc [.ref (a 0), .int p0] (roP G ct (xF a rr ct))) (roQ (fun r => r = (-2))) 0 0 no := by
  refine Met.ofW (cc := cX10_top) (maxL := 2) (ret := (some .int)) (by decide) rfl ?_
  intro p e s m args below meth c s₁ B hml hv
  obtain ⟨rfl, hP, hK⟩ := hv
  have hx := B.exec
  have hb := B.bytes
  have hr := B.returns
  have hts := atoms_spec (ws := wsX10_top) B.pre
  have hown : s.vm.findClass RX10 = some m.cls := findClass_of_methodNamed B.named
  have hlocks := B.notSynchronized
  have hS : va_S no s.heap s.heap [] := va_S.rf
  have hl := lv_entry ([.ref (a 0), .int p0]) (n := 2) (Nat.le_of_ble_eq_true rfl)
  rw [lg_entry_eq]
  generalize (lg_sl ([.ref (a 0), .int p0]) ++ List.replicate (2 - (lg_sl ([.ref (a 0), .int p0])).length) Slot.unset).toArray = ls at hl ⊢
  have hl : lv_has ls 2 [(0, .ref (a 0)), (1, .int p0)] := hl
  refine lv_aload_n hx hb dX10_top_0 rfl (lv_at hl 0 rfl) ?_
  refine lv_iload_n hx hb dX10_top_1 rfl (lv_at hl 1 rfl) ?_
  refine ro_calli (va_runV (As := [.int p0]) (rest := []) ⟨hx, hb, hml, hown, hts⟩ (c_X10_isPerson l G ct a rr p0) (cwV 1 hts gX10_top_X10_isPerson rfl rfl rfl (by decide +kernel) ⟨Nat.le_of_ble_eq_true rfl, Nat.le_of_ble_eq_true rfl⟩) (ro_preV 10 0 hK hP rfl rfl) rfl rfl hl.1 rfl (lv_room (Nat.le_of_ble_eq_true rfl)) dX10_top_2 ⟨Nat.zero_le _, Nat.zero_le _⟩) hS hP (fun r_1 H locs wr_1 hP hS => ?_)
  obtain rfl := wr_1
  refine lv_if_eq (tgt := 19) hx hb dX10_top_5 (by decide) (fun c_2 => ?_) (fun c_2 => ?_)
  · refine lv_bipush (v := (-2)) hx hb dX10_top_19 (by decide) ?_
    exact W.iret (v := (-2)) hx hb hr (fun t ht hW => ⟨⟨(-2), (), rfl, rfl, trivial⟩, hS.F ht⟩) hS.2.2 dX10_top_21
  · exact absurd c_2 (by decide)

set_option maxHeartbeats 4000000 in
set_option maxRecDepth 100000 in
theorem c_X10_ring (l : Launch) (G : va_G) (ct : Nat → ClassId) (a : Nat → Nat) (rr : Nat → Nat) (p0 : Int32)  : Met l yX10_ring wsX10_ring ({ frames := 4, cells := 0, slots := 0, locals := 87 }) (va_Pc [.ref (a 0), .int p0] (roP G ct (xF a rr ct))) (roQ (fun r => r = (-2))) 0 0 no := by
  refine Met.ofW (cc := cX10_ring) (maxL := 2) (ret := (some .int)) (by decide) rfl ?_
  intro p e s m args below meth c s₁ B hml hv
  obtain ⟨rfl, hP, hK⟩ := hv
  have hx := B.exec
  have hb := B.bytes
  have hr := B.returns
  have hts := atoms_spec (ws := wsX10_ring) B.pre
  have hown : s.vm.findClass RX10 = some m.cls := findClass_of_methodNamed B.named
  have hlocks := B.notSynchronized
  have hS : va_S no s.heap s.heap [] := va_S.rf
  have hl := lv_entry ([.ref (a 0), .int p0]) (n := 2) (Nat.le_of_ble_eq_true rfl)
  rw [lg_entry_eq]
  generalize (lg_sl ([.ref (a 0), .int p0]) ++ List.replicate (2 - (lg_sl ([.ref (a 0), .int p0])).length) Slot.unset).toArray = ls at hl ⊢
  have hl : lv_has ls 2 [(0, .ref (a 0)), (1, .int p0)] := hl
  refine lv_aload_n hx hb dX10_ring_0 rfl (lv_at hl 0 rfl) ?_
  refine lv_iload_n hx hb dX10_ring_1 rfl (lv_at hl 1 rfl) ?_
  refine ro_calli (va_runV (As := [.int p0]) (rest := []) ⟨hx, hb, hml, hown, hts⟩ (c_X10_isPerson l G ct a rr p0) (cwV 1 hts gX10_ring_X10_isPerson rfl rfl rfl (by decide +kernel) ⟨Nat.le_of_ble_eq_true rfl, Nat.le_of_ble_eq_true rfl⟩) (ro_preV 10 0 hK hP rfl rfl) rfl rfl hl.1 rfl (lv_room (Nat.le_of_ble_eq_true rfl)) dX10_ring_2 ⟨Nat.zero_le _, Nat.zero_le _⟩) hS hP (fun r_1 H locs wr_1 hP hS => ?_)
  obtain rfl := wr_1
  refine lv_if_eq (tgt := 19) hx hb dX10_ring_5 (by decide) (fun c_2 => ?_) (fun c_2 => ?_)
  · refine lv_bipush (v := (-2)) hx hb dX10_ring_19 (by decide) ?_
    exact W.iret (v := (-2)) hx hb hr (fun t ht hW => ⟨⟨(-2), (), rfl, rfl, trivial⟩, hS.F ht⟩) hS.2.2 dX10_ring_21
  · exact absurd c_2 (by decide)

set_option maxHeartbeats 4000000 in
set_option maxRecDepth 100000 in
theorem c_X10_rings (l : Launch) (G : va_G) (ct : Nat → ClassId) (a : Nat → Nat) (rr : Nat → Nat)  : Met l yX10_rings wsX10_rings ({ frames := 6, cells := 0, slots := 0, locals := 133 }) (va_Pc [.ref (a 0)] (roP G ct (xF a rr ct))) (roQ (fun r => r = (-2))) 0 0 no := by
  refine Met.ofW (cc := cX10_rings) (maxL := 1) (ret := (some .int)) (by decide) rfl ?_
  intro p e s m args below meth c s₁ B hml hv
  obtain ⟨rfl, hP, hK⟩ := hv
  have hx := B.exec
  have hb := B.bytes
  have hr := B.returns
  have hts := atoms_spec (ws := wsX10_rings) B.pre
  have hown : s.vm.findClass RX10 = some m.cls := findClass_of_methodNamed B.named
  have hlocks := B.notSynchronized
  have hS : va_S no s.heap s.heap [] := va_S.rf
  have hl := lv_entry ([.ref (a 0)]) (n := 1) (Nat.le_of_ble_eq_true rfl)
  rw [lg_entry_eq]
  generalize (lg_sl ([.ref (a 0)]) ++ List.replicate (1 - (lg_sl ([.ref (a 0)])).length) Slot.unset).toArray = ls at hl ⊢
  have hl : lv_has ls 1 [(0, .ref (a 0))] := hl
  refine lv_aload_n hx hb dX10_rings_0 rfl (lv_at hl 0 rfl) ?_
  refine ro_calli (va_runV (As := []) (rest := []) ⟨hx, hb, hml, hown, hts⟩ (c_X10_hasCity l G ct a rr) (cwV 0 hts gX10_rings_X10_hasCity rfl rfl rfl (by decide +kernel) ⟨Nat.le_of_ble_eq_true rfl, Nat.le_of_ble_eq_true rfl⟩) (ro_preV 10 0 hK hP rfl rfl) rfl rfl hl.1 rfl (lv_room (Nat.le_of_ble_eq_true rfl)) dX10_rings_1 ⟨Nat.zero_le _, Nat.zero_le _⟩) hS hP (fun r_1 H locs wr_1 hP hS => ?_)
  obtain rfl := wr_1
  refine lv_if_eq (tgt := 17) hx hb dX10_rings_4 (by decide) (fun c_2 => ?_) (fun c_2 => ?_)
  · refine lv_bipush (v := (-2)) hx hb dX10_rings_17 (by decide) ?_
    exact W.iret (v := (-2)) hx hb hr (fun t ht hW => ⟨⟨(-2), (), rfl, rfl, trivial⟩, hS.F ht⟩) hS.2.2 dX10_rings_19
  · exact absurd c_2 (by decide)

set_option maxHeartbeats 4000000 in
set_option maxRecDepth 100000 in
theorem c_X10_doer (l : Launch) (G : va_G) (ct : Nat → ClassId) (a : Nat → Nat) (rr : Nat → Nat) (p0 : Int32) (p1 : Int32)  : Met l yX10_doer wsX10_doer ({ frames := 5, cells := 0, slots := 0, locals := 119 }) (va_Pc [.ref (a 0), .int p0, .int p1] (roP G ct (xF a rr ct))) (roQ (fun r => r = (-2))) 0 0 no := by
  refine Met.ofW (cc := cX10_doer) (maxL := 3) (ret := (some .int)) (by decide) rfl ?_
  intro p e s m args below meth c s₁ B hml hv
  obtain ⟨rfl, hP, hK⟩ := hv
  have hx := B.exec
  have hb := B.bytes
  have hr := B.returns
  have hts := atoms_spec (ws := wsX10_doer) B.pre
  have hown : s.vm.findClass RX10 = some m.cls := findClass_of_methodNamed B.named
  have hlocks := B.notSynchronized
  have hS : va_S no s.heap s.heap [] := va_S.rf
  have hl := lv_entry ([.ref (a 0), .int p0, .int p1]) (n := 3) (Nat.le_of_ble_eq_true rfl)
  rw [lg_entry_eq]
  generalize (lg_sl ([.ref (a 0), .int p0, .int p1]) ++ List.replicate (3 - (lg_sl ([.ref (a 0), .int p0, .int p1])).length) Slot.unset).toArray = ls at hl ⊢
  have hl : lv_has ls 3 [(0, .ref (a 0)), (1, .int p0), (2, .int p1)] := hl
  refine lv_aload_n hx hb dX10_doer_0 rfl (lv_at hl 0 rfl) ?_
  refine lv_iload_n hx hb dX10_doer_1 rfl (lv_at hl 1 rfl) ?_
  refine ro_calli (va_runV (As := [.int p0]) (rest := []) ⟨hx, hb, hml, hown, hts⟩ (c_X10_isPerson l G ct a rr p0) (cwV 1 hts gX10_doer_X10_isPerson rfl rfl rfl (by decide +kernel) ⟨Nat.le_of_ble_eq_true rfl, Nat.le_of_ble_eq_true rfl⟩) (ro_preV 10 0 hK hP rfl rfl) rfl rfl hl.1 rfl (lv_room (Nat.le_of_ble_eq_true rfl)) dX10_doer_2 ⟨Nat.zero_le _, Nat.zero_le _⟩) hS hP (fun r_1 H locs wr_1 hP hS => ?_)
  obtain rfl := wr_1
  refine lv_if_eq (tgt := 15) hx hb dX10_doer_5 (by decide) (fun c_2 => ?_) (fun c_2 => ?_)
  · refine lv_bipush (v := (-2)) hx hb dX10_doer_15 (by decide) ?_
    exact W.iret (v := (-2)) hx hb hr (fun t ht hW => ⟨⟨(-2), (), rfl, rfl, trivial⟩, hS.F ht⟩) hS.2.2 dX10_doer_17
  · exact absurd c_2 (by decide)

set_option maxHeartbeats 4000000 in
set_option maxRecDepth 100000 in
theorem c_X10_chain (l : Launch) (G : va_G) (ct : Nat → ClassId) (a : Nat → Nat) (rr : Nat → Nat) (p0 : Int32) (p1 : Int32)  : Met l yX10_chain wsX10_chain ({ frames := 6, cells := 0, slots := 0, locals := 141 }) (va_Pc [.ref (a 0), .int p0, .int p1] (roP G ct (xF a rr ct))) (roQ (fun r => r = (-2))) 0 0 no := by
  refine Met.ofW (cc := cX10_chain) (maxL := 4) (ret := (some .int)) (by decide) rfl ?_
  intro p e s m args below meth c s₁ B hml hv
  obtain ⟨rfl, hP, hK⟩ := hv
  have hx := B.exec
  have hb := B.bytes
  have hr := B.returns
  have hts := atoms_spec (ws := wsX10_chain) B.pre
  have hown : s.vm.findClass RX10 = some m.cls := findClass_of_methodNamed B.named
  have hlocks := B.notSynchronized
  have hS : va_S no s.heap s.heap [] := va_S.rf
  have hl := lv_entry ([.ref (a 0), .int p0, .int p1]) (n := 4) (Nat.le_of_ble_eq_true rfl)
  rw [lg_entry_eq]
  generalize (lg_sl ([.ref (a 0), .int p0, .int p1]) ++ List.replicate (4 - (lg_sl ([.ref (a 0), .int p0, .int p1])).length) Slot.unset).toArray = ls at hl ⊢
  have hl : lv_has ls 4 [(0, .ref (a 0)), (1, .int p0), (2, .int p1)] := hl
  refine lv_aload_n hx hb dX10_chain_0 rfl (lv_at hl 0 rfl) ?_
  refine lv_iload_n hx hb dX10_chain_1 rfl (lv_at hl 1 rfl) ?_
  refine lv_iload_n hx hb dX10_chain_2 rfl (lv_at hl 2 rfl) ?_
  refine ro_calli (va_runV (As := [.int p0, .int p1]) (rest := []) ⟨hx, hb, hml, hown, hts⟩ (c_X10_doer l G ct a rr p0 p1) (cwV 2 hts gX10_chain_X10_doer rfl rfl rfl (by decide +kernel) ⟨Nat.le_of_ble_eq_true rfl, Nat.le_of_ble_eq_true rfl⟩) (ro_preV 10 0 hK hP rfl rfl) rfl rfl hl.1 rfl (lv_room (Nat.le_of_ble_eq_true rfl)) dX10_chain_3 ⟨Nat.zero_le _, Nat.zero_le _⟩) hS hP (fun r_1 H locs wr_1 hP hS => ?_)
  obtain rfl := wr_1
  refine lv_istore_n (lv' := [(3, .int (-2)), (0, .ref (a 0)), (1, .int p0), (2, .int p1)]) hx hb dX10_chain_6 rfl hl (by decide) rfl (fun ls hl => ?_)
  refine lv_iload_n hx hb dX10_chain_7 rfl (lv_at hl 0 rfl) ?_
  refine lv_if_ge (tgt := 15) hx hb dX10_chain_8 (by decide) (fun c_2 => ?_) (fun c_2 => ?_)
  · exact absurd c_2 (by decide)
  · refine lv_iload_n hx hb dX10_chain_11 rfl (lv_at hl 0 rfl) ?_
    refine lv_goto (tgt := 24) hx hb dX10_chain_12 (by decide) ?_
    exact W.iret (v := (-2)) hx hb hr (fun t ht hW => ⟨⟨(-2), (), rfl, rfl, trivial⟩, hS.F ht⟩) hS.2.2 dX10_chain_24

set_option maxHeartbeats 4000000 in
set_option maxRecDepth 100000 in
theorem c_X10_asked (l : Launch) (G : va_G) (ct : Nat → ClassId) (a : Nat → Nat) (rr : Nat → Nat) (p0 : Int32) (p1 : Int32) (p2 : Int32)  : Met l yX10_asked wsX10_asked ({ frames := 6, cells := 0, slots := 0, locals := 141 }) (va_Pc [.ref (a 0), .int p0, .int p1, .int p2] (roP G ct (xF a rr ct))) (roQ (fun r => r = (-2))) 0 0 no := by
  refine Met.ofW (cc := cX10_asked) (maxL := 6) (ret := (some .int)) (by decide) rfl ?_
  intro p e s m args below meth c s₁ B hml hv
  obtain ⟨rfl, hP, hK⟩ := hv
  have hx := B.exec
  have hb := B.bytes
  have hr := B.returns
  have hts := atoms_spec (ws := wsX10_asked) B.pre
  have hown : s.vm.findClass RX10 = some m.cls := findClass_of_methodNamed B.named
  have hlocks := B.notSynchronized
  have hS : va_S no s.heap s.heap [] := va_S.rf
  have hl := lv_entry ([.ref (a 0), .int p0, .int p1, .int p2]) (n := 6) (Nat.le_of_ble_eq_true rfl)
  rw [lg_entry_eq]
  generalize (lg_sl ([.ref (a 0), .int p0, .int p1, .int p2]) ++ List.replicate (6 - (lg_sl ([.ref (a 0), .int p0, .int p1, .int p2])).length) Slot.unset).toArray = ls at hl ⊢
  have hl : lv_has ls 6 [(0, .ref (a 0)), (1, .int p0), (2, .int p1), (3, .int p2)] := hl
  refine lv_aload_n hx hb dX10_asked_0 rfl (lv_at hl 0 rfl) ?_
  refine lv_iload_n hx hb dX10_asked_1 rfl (lv_at hl 1 rfl) ?_
  refine lv_iload_n hx hb dX10_asked_2 rfl (lv_at hl 2 rfl) ?_
  refine ro_calli (va_runV (As := [.int p0, .int p1]) (rest := []) ⟨hx, hb, hml, hown, hts⟩ (c_X10_doer l G ct a rr p0 p1) (cwV 2 hts gX10_asked_X10_doer rfl rfl rfl (by decide +kernel) ⟨Nat.le_of_ble_eq_true rfl, Nat.le_of_ble_eq_true rfl⟩) (ro_preV 10 0 hK hP rfl rfl) rfl rfl hl.1 rfl (lv_room (Nat.le_of_ble_eq_true rfl)) dX10_asked_3 ⟨Nat.zero_le _, Nat.zero_le _⟩) hS hP (fun r_1 H locs wr_1 hP hS => ?_)
  obtain rfl := wr_1
  refine lv_istore (lv' := [(4, .int (-2)), (0, .ref (a 0)), (1, .int p0), (2, .int p1), (3, .int p2)]) hx hb dX10_asked_6 hl (by decide) rfl (fun ls hl => ?_)
  refine lv_iload hx hb dX10_asked_8 (lv_at hl 0 rfl) ?_
  refine lv_if_ge (tgt := 16) hx hb dX10_asked_10 (by decide) (fun c_2 => ?_) (fun c_2 => ?_)
  · exact absurd c_2 (by decide)
  · refine lv_iload hx hb dX10_asked_13 (lv_at hl 0 rfl) ?_
    exact W.iret (v := (-2)) hx hb hr (fun t ht hW => ⟨⟨(-2), (), rfl, rfl, trivial⟩, hS.F ht⟩) hS.2.2 dX10_asked_15

set_option maxHeartbeats 4000000 in
set_option maxRecDepth 100000 in
theorem c_X10_can (l : Launch) (G : va_G) (ct : Nat → ClassId) (a : Nat → Nat) (rr : Nat → Nat) (p0 : Int32)  : Met l yX10_can wsX10_can ({ frames := 4, cells := 0, slots := 0, locals := 89 }) (va_Pc [.ref (a 0), .int p0] (roP G ct (xF a rr ct))) (roQ (fun r => r = (-2))) 0 0 no := by
  refine Met.ofW (cc := cX10_can) (maxL := 2) (ret := (some .int)) (by decide) rfl ?_
  intro p e s m args below meth c s₁ B hml hv
  obtain ⟨rfl, hP, hK⟩ := hv
  have hx := B.exec
  have hb := B.bytes
  have hr := B.returns
  have hts := atoms_spec (ws := wsX10_can) B.pre
  have hown : s.vm.findClass RX10 = some m.cls := findClass_of_methodNamed B.named
  have hlocks := B.notSynchronized
  have hS : va_S no s.heap s.heap [] := va_S.rf
  have hl := lv_entry ([.ref (a 0), .int p0]) (n := 2) (Nat.le_of_ble_eq_true rfl)
  rw [lg_entry_eq]
  generalize (lg_sl ([.ref (a 0), .int p0]) ++ List.replicate (2 - (lg_sl ([.ref (a 0), .int p0])).length) Slot.unset).toArray = ls at hl ⊢
  have hl : lv_has ls 2 [(0, .ref (a 0)), (1, .int p0)] := hl
  refine lv_aload_n hx hb dX10_can_0 rfl (lv_at hl 0 rfl) ?_
  refine lv_iload_n hx hb dX10_can_1 rfl (lv_at hl 1 rfl) ?_
  refine ro_calli (va_runV (As := [.int p0]) (rest := []) ⟨hx, hb, hml, hown, hts⟩ (c_X10_isPerson l G ct a rr p0) (cwV 1 hts gX10_can_X10_isPerson rfl rfl rfl (by decide +kernel) ⟨Nat.le_of_ble_eq_true rfl, Nat.le_of_ble_eq_true rfl⟩) (ro_preV 10 0 hK hP rfl rfl) rfl rfl hl.1 rfl (lv_room (Nat.le_of_ble_eq_true rfl)) dX10_can_2 ⟨Nat.zero_le _, Nat.zero_le _⟩) hS hP (fun r_1 H locs wr_1 hP hS => ?_)
  obtain rfl := wr_1
  refine lv_if_ne (tgt := 11) hx hb dX10_can_5 (by decide) (fun c_2 => ?_) (fun c_2 => ?_)
  · exact absurd c_2 (by decide)
  · refine lv_bipush (v := (-2)) hx hb dX10_can_8 (by decide) ?_
    exact W.iret (v := (-2)) hx hb hr (fun t ht hW => ⟨⟨(-2), (), rfl, rfl, trivial⟩, hS.F ht⟩) hS.2.2 dX10_can_10

set_option maxHeartbeats 4000000 in
set_option maxRecDepth 100000 in
theorem c_X10_why (l : Launch) (G : va_G) (ct : Nat → ClassId) (a : Nat → Nat) (rr : Nat → Nat) (p0 : Int32) (p1 : Int32) (p2 : Int32)  : Met l yX10_why wsX10_why ({ frames := 4, cells := 0, slots := 0, locals := 88 }) (va_Pc [.ref (a 0), .int p0, .int p1, .int p2] (roP G ct (xF a rr ct))) (roQ (fun r => r = (-2))) 0 0 no := by
  refine Met.ofW (cc := cX10_why) (maxL := 4) (ret := (some .int)) (by decide) rfl ?_
  intro p e s m args below meth c s₁ B hml hv
  obtain ⟨rfl, hP, hK⟩ := hv
  have hx := B.exec
  have hb := B.bytes
  have hr := B.returns
  have hts := atoms_spec (ws := wsX10_why) B.pre
  have hown : s.vm.findClass RX10 = some m.cls := findClass_of_methodNamed B.named
  have hlocks := B.notSynchronized
  have hS : va_S no s.heap s.heap [] := va_S.rf
  have hl := lv_entry ([.ref (a 0), .int p0, .int p1, .int p2]) (n := 4) (Nat.le_of_ble_eq_true rfl)
  rw [lg_entry_eq]
  generalize (lg_sl ([.ref (a 0), .int p0, .int p1, .int p2]) ++ List.replicate (4 - (lg_sl ([.ref (a 0), .int p0, .int p1, .int p2])).length) Slot.unset).toArray = ls at hl ⊢
  have hl : lv_has ls 4 [(0, .ref (a 0)), (1, .int p0), (2, .int p1), (3, .int p2)] := hl
  refine lv_aload_n hx hb dX10_why_0 rfl (lv_at hl 0 rfl) ?_
  refine lv_iload_n hx hb dX10_why_1 rfl (lv_at hl 1 rfl) ?_
  refine ro_calli (va_runV (As := [.int p0]) (rest := []) ⟨hx, hb, hml, hown, hts⟩ (c_X10_isPerson l G ct a rr p0) (cwV 1 hts gX10_why_X10_isPerson rfl rfl rfl (by decide +kernel) ⟨Nat.le_of_ble_eq_true rfl, Nat.le_of_ble_eq_true rfl⟩) (ro_preV 10 0 hK hP rfl rfl) rfl rfl hl.1 rfl (lv_room (Nat.le_of_ble_eq_true rfl)) dX10_why_2 ⟨Nat.zero_le _, Nat.zero_le _⟩) hS hP (fun r_1 H locs wr_1 hP hS => ?_)
  obtain rfl := wr_1
  refine lv_if_eq (tgt := 23) hx hb dX10_why_5 (by decide) (fun c_2 => ?_) (fun c_2 => ?_)
  · refine lv_bipush (v := (-2)) hx hb dX10_why_23 (by decide) ?_
    exact W.iret (v := (-2)) hx hb hr (fun t ht hW => ⟨⟨(-2), (), rfl, rfl, trivial⟩, hS.F ht⟩) hS.2.2 dX10_why_25
  · exact absurd c_2 (by decide)

set_option maxHeartbeats 4000000 in
set_option maxRecDepth 100000 in
theorem c_X10_ask (l : Launch) (G : va_G) (ct : Nat → ClassId) (a : Nat → Nat) (rr : Nat → Nat) (p0 : Int32) (p1 : Int32) (p2 : Int32)  : Met l yX10_ask wsX10_ask ({ frames := 5, cells := 0, slots := 0, locals := 114 }) (va_Pc [.ref (a 0), .int p0, .int p1, .int p2] (roP G ct (xF a rr ct))) (roQ (fun r => r = (-2))) 0 0 no := by
  refine Met.ofW (cc := cX10_ask) (maxL := 5) (ret := (some .int)) (by decide) rfl ?_
  intro p e s m args below meth c s₁ B hml hv
  obtain ⟨rfl, hP, hK⟩ := hv
  have hx := B.exec
  have hb := B.bytes
  have hr := B.returns
  have hts := atoms_spec (ws := wsX10_ask) B.pre
  have hown : s.vm.findClass RX10 = some m.cls := findClass_of_methodNamed B.named
  have hlocks := B.notSynchronized
  have hS : va_S no s.heap s.heap [] := va_S.rf
  have hl := lv_entry ([.ref (a 0), .int p0, .int p1, .int p2]) (n := 5) (Nat.le_of_ble_eq_true rfl)
  rw [lg_entry_eq]
  generalize (lg_sl ([.ref (a 0), .int p0, .int p1, .int p2]) ++ List.replicate (5 - (lg_sl ([.ref (a 0), .int p0, .int p1, .int p2])).length) Slot.unset).toArray = ls at hl ⊢
  have hl : lv_has ls 5 [(0, .ref (a 0)), (1, .int p0), (2, .int p1), (3, .int p2)] := hl
  refine lv_aload_n hx hb dX10_ask_0 rfl (lv_at hl 0 rfl) ?_
  refine lv_iload_n hx hb dX10_ask_1 rfl (lv_at hl 1 rfl) ?_
  refine lv_iload_n hx hb dX10_ask_2 rfl (lv_at hl 2 rfl) ?_
  refine lv_iload_n hx hb dX10_ask_3 rfl (lv_at hl 3 rfl) ?_
  refine ro_calli (va_runV (As := [.int p0, .int p1, .int p2]) (rest := []) ⟨hx, hb, hml, hown, hts⟩ (c_X10_why l G ct a rr p0 p1 p2) (cwV 3 hts gX10_ask_X10_why rfl rfl rfl (by decide +kernel) ⟨Nat.le_of_ble_eq_true rfl, Nat.le_of_ble_eq_true rfl⟩) (ro_preV 10 0 hK hP rfl rfl) rfl rfl hl.1 rfl (lv_room (Nat.le_of_ble_eq_true rfl)) dX10_ask_4 ⟨Nat.zero_le _, Nat.zero_le _⟩) hS hP (fun r_1 H locs wr_1 hP hS => ?_)
  obtain rfl := wr_1
  refine lv_istore (lv' := [(4, .int (-2)), (0, .ref (a 0)), (1, .int p0), (2, .int p1), (3, .int p2)]) hx hb dX10_ask_7 hl (by decide) rfl (fun ls hl => ?_)
  refine lv_iload hx hb dX10_ask_9 (lv_at hl 0 rfl) ?_
  refine lv_bipush (v := (-2)) hx hb dX10_ask_11 (by decide) ?_
  refine lv_icmp_ne (tgt := 19) hx hb dX10_ask_13 (by decide) (fun c_2 => ?_) (fun c_2 => ?_)
  · exact absurd c_2 (by decide)
  · refine lv_bipush (v := (-2)) hx hb dX10_ask_16 (by decide) ?_
    exact W.iret (v := (-2)) hx hb hr (fun t ht hW => ⟨⟨(-2), (), rfl, rfl, trivial⟩, hS.F ht⟩) hS.2.2 dX10_ask_18

set_option maxHeartbeats 4000000 in
set_option maxRecDepth 100000 in
theorem c_X10_give (l : Launch) (G : va_G) (ct : Nat → ClassId) (a : Nat → Nat) (rr : Nat → Nat) (p0 : Int32) (p1 : Int32) (p2 : Int32) (p3 : Int32)  : Met l yX10_give wsX10_give ({ frames := 5, cells := 0, slots := 0, locals := 114 }) (va_Pc [.ref (a 0), .int p0, .int p1, .int p2, .int p3] (roP G ct (xF a rr ct))) (roQ (fun r => r = (-2))) 0 0 no := by
  refine Met.ofW (cc := cX10_give) (maxL := 6) (ret := (some .int)) (by decide) rfl ?_
  intro p e s m args below meth c s₁ B hml hv
  obtain ⟨rfl, hP, hK⟩ := hv
  have hx := B.exec
  have hb := B.bytes
  have hr := B.returns
  have hts := atoms_spec (ws := wsX10_give) B.pre
  have hown : s.vm.findClass RX10 = some m.cls := findClass_of_methodNamed B.named
  have hlocks := B.notSynchronized
  have hS : va_S no s.heap s.heap [] := va_S.rf
  have hl := lv_entry ([.ref (a 0), .int p0, .int p1, .int p2, .int p3]) (n := 6) (Nat.le_of_ble_eq_true rfl)
  rw [lg_entry_eq]
  generalize (lg_sl ([.ref (a 0), .int p0, .int p1, .int p2, .int p3]) ++ List.replicate (6 - (lg_sl ([.ref (a 0), .int p0, .int p1, .int p2, .int p3])).length) Slot.unset).toArray = ls at hl ⊢
  have hl : lv_has ls 6 [(0, .ref (a 0)), (1, .int p0), (2, .int p1), (3, .int p2), (4, .int p3)] := hl
  refine lv_aload_n hx hb dX10_give_0 rfl (lv_at hl 0 rfl) ?_
  refine lv_iload_n hx hb dX10_give_1 rfl (lv_at hl 1 rfl) ?_
  refine ro_calli (va_runV (As := [.int p0]) (rest := []) ⟨hx, hb, hml, hown, hts⟩ (c_X10_isPerson l G ct a rr p0) (cwV 1 hts gX10_give_X10_isPerson rfl rfl rfl (by decide +kernel) ⟨Nat.le_of_ble_eq_true rfl, Nat.le_of_ble_eq_true rfl⟩) (ro_preV 10 0 hK hP rfl rfl) rfl rfl hl.1 rfl (lv_room (Nat.le_of_ble_eq_true rfl)) dX10_give_2 ⟨Nat.zero_le _, Nat.zero_le _⟩) hS hP (fun r_1 H locs wr_1 hP hS => ?_)
  obtain rfl := wr_1
  refine lv_if_eq (tgt := 33) hx hb dX10_give_5 (by decide) (fun c_2 => ?_) (fun c_2 => ?_)
  · refine lv_bipush (v := (-2)) hx hb dX10_give_33 (by decide) ?_
    exact W.iret (v := (-2)) hx hb hr (fun t ht hW => ⟨⟨(-2), (), rfl, rfl, trivial⟩, hS.F ht⟩) hS.2.2 dX10_give_35
  · exact absurd c_2 (by decide)

set_option maxHeartbeats 4000000 in
set_option maxRecDepth 100000 in
theorem c_X10_swap (l : Launch) (G : va_G) (ct : Nat → ClassId) (a : Nat → Nat) (rr : Nat → Nat) (p0 : Int32) (p1 : Int32)  : Met l yX10_swap wsX10_swap ({ frames := 5, cells := 0, slots := 0, locals := 114 }) (va_Pc [.ref (a 0), .int p0, .int p1] (roP G ct (xF a rr ct))) (roQ (fun r => r = (-2))) 0 0 no := by
  refine Met.ofW (cc := cX10_swap) (maxL := 5) (ret := (some .int)) (by decide) rfl ?_
  intro p e s m args below meth c s₁ B hml hv
  obtain ⟨rfl, hP, hK⟩ := hv
  have hx := B.exec
  have hb := B.bytes
  have hr := B.returns
  have hts := atoms_spec (ws := wsX10_swap) B.pre
  have hown : s.vm.findClass RX10 = some m.cls := findClass_of_methodNamed B.named
  have hlocks := B.notSynchronized
  have hS : va_S no s.heap s.heap [] := va_S.rf
  have hl := lv_entry ([.ref (a 0), .int p0, .int p1]) (n := 5) (Nat.le_of_ble_eq_true rfl)
  rw [lg_entry_eq]
  generalize (lg_sl ([.ref (a 0), .int p0, .int p1]) ++ List.replicate (5 - (lg_sl ([.ref (a 0), .int p0, .int p1])).length) Slot.unset).toArray = ls at hl ⊢
  have hl : lv_has ls 5 [(0, .ref (a 0)), (1, .int p0), (2, .int p1)] := hl
  refine lv_aload_n hx hb dX10_swap_0 rfl (lv_at hl 0 rfl) ?_
  refine lv_iload_n hx hb dX10_swap_1 rfl (lv_at hl 1 rfl) ?_
  refine ro_calli (va_runV (As := [.int p0]) (rest := []) ⟨hx, hb, hml, hown, hts⟩ (c_X10_isPerson l G ct a rr p0) (cwV 1 hts gX10_swap_X10_isPerson rfl rfl rfl (by decide +kernel) ⟨Nat.le_of_ble_eq_true rfl, Nat.le_of_ble_eq_true rfl⟩) (ro_preV 10 0 hK hP rfl rfl) rfl rfl hl.1 rfl (lv_room (Nat.le_of_ble_eq_true rfl)) dX10_swap_2 ⟨Nat.zero_le _, Nat.zero_le _⟩) hS hP (fun r_1 H locs wr_1 hP hS => ?_)
  obtain rfl := wr_1
  refine lv_if_eq (tgt := 21) hx hb dX10_swap_5 (by decide) (fun c_2 => ?_) (fun c_2 => ?_)
  · refine lv_bipush (v := (-2)) hx hb dX10_swap_21 (by decide) ?_
    exact W.iret (v := (-2)) hx hb hr (fun t ht hW => ⟨⟨(-2), (), rfl, rfl, trivial⟩, hS.F ht⟩) hS.2.2 dX10_swap_23
  · exact absurd c_2 (by decide)

set_option maxHeartbeats 4000000 in
set_option maxRecDepth 100000 in
theorem c_X10_steal (l : Launch) (G : va_G) (ct : Nat → ClassId) (a : Nat → Nat) (rr : Nat → Nat) (p0 : Int32) (p1 : Int32)  : Met l yX10_steal wsX10_steal ({ frames := 5, cells := 0, slots := 0, locals := 114 }) (va_Pc [.ref (a 0), .int p0, .int p1] (roP G ct (xF a rr ct))) (roQ (fun r => r = (-2))) 0 0 no := by
  refine Met.ofW (cc := cX10_steal) (maxL := 5) (ret := (some .int)) (by decide) rfl ?_
  intro p e s m args below meth c s₁ B hml hv
  obtain ⟨rfl, hP, hK⟩ := hv
  have hx := B.exec
  have hb := B.bytes
  have hr := B.returns
  have hts := atoms_spec (ws := wsX10_steal) B.pre
  have hown : s.vm.findClass RX10 = some m.cls := findClass_of_methodNamed B.named
  have hlocks := B.notSynchronized
  have hS : va_S no s.heap s.heap [] := va_S.rf
  have hl := lv_entry ([.ref (a 0), .int p0, .int p1]) (n := 5) (Nat.le_of_ble_eq_true rfl)
  rw [lg_entry_eq]
  generalize (lg_sl ([.ref (a 0), .int p0, .int p1]) ++ List.replicate (5 - (lg_sl ([.ref (a 0), .int p0, .int p1])).length) Slot.unset).toArray = ls at hl ⊢
  have hl : lv_has ls 5 [(0, .ref (a 0)), (1, .int p0), (2, .int p1)] := hl
  refine lv_aload_n hx hb dX10_steal_0 rfl (lv_at hl 0 rfl) ?_
  refine lv_iload_n hx hb dX10_steal_1 rfl (lv_at hl 1 rfl) ?_
  refine ro_calli (va_runV (As := [.int p0]) (rest := []) ⟨hx, hb, hml, hown, hts⟩ (c_X10_isPerson l G ct a rr p0) (cwV 1 hts gX10_steal_X10_isPerson rfl rfl rfl (by decide +kernel) ⟨Nat.le_of_ble_eq_true rfl, Nat.le_of_ble_eq_true rfl⟩) (ro_preV 10 0 hK hP rfl rfl) rfl rfl hl.1 rfl (lv_room (Nat.le_of_ble_eq_true rfl)) dX10_steal_2 ⟨Nat.zero_le _, Nat.zero_le _⟩) hS hP (fun r_1 H locs wr_1 hP hS => ?_)
  obtain rfl := wr_1
  refine lv_if_eq (tgt := 16) hx hb dX10_steal_5 (by decide) (fun c_2 => ?_) (fun c_2 => ?_)
  · refine lv_bipush (v := (-2)) hx hb dX10_steal_16 (by decide) ?_
    exact W.iret (v := (-2)) hx hb hr (fun t ht hW => ⟨⟨(-2), (), rfl, rfl, trivial⟩, hS.F ht⟩) hS.2.2 dX10_steal_18
  · exact absurd c_2 (by decide)

set_option maxHeartbeats 4000000 in
set_option maxRecDepth 100000 in
theorem c_X10_day (l : Launch) (G : va_G) (ct : Nat → ClassId) (a : Nat → Nat) (rr : Nat → Nat)  : Met l yX10_day wsX10_day ({ frames := 5, cells := 0, slots := 0, locals := 114 }) (va_Pc [.ref (a 0)] (roP G ct (xF a rr ct))) (roQ (fun r => r = (-2))) 0 0 no := by
  refine Met.ofW (cc := cX10_day) (maxL := 2) (ret := (some .int)) (by decide) rfl ?_
  intro p e s m args below meth c s₁ B hml hv
  obtain ⟨rfl, hP, hK⟩ := hv
  have hx := B.exec
  have hb := B.bytes
  have hr := B.returns
  have hts := atoms_spec (ws := wsX10_day) B.pre
  have hown : s.vm.findClass RX10 = some m.cls := findClass_of_methodNamed B.named
  have hlocks := B.notSynchronized
  have hS : va_S no s.heap s.heap [] := va_S.rf
  have hl := lv_entry ([.ref (a 0)]) (n := 2) (Nat.le_of_ble_eq_true rfl)
  rw [lg_entry_eq]
  generalize (lg_sl ([.ref (a 0)]) ++ List.replicate (2 - (lg_sl ([.ref (a 0)])).length) Slot.unset).toArray = ls at hl ⊢
  have hl : lv_has ls 2 [(0, .ref (a 0))] := hl
  refine lv_aload_n hx hb dX10_day_0 rfl (lv_at hl 0 rfl) ?_
  refine ro_calli (va_runV (As := []) (rest := []) ⟨hx, hb, hml, hown, hts⟩ (c_X10_hasCity l G ct a rr) (cwV 0 hts gX10_day_X10_hasCity rfl rfl rfl (by decide +kernel) ⟨Nat.le_of_ble_eq_true rfl, Nat.le_of_ble_eq_true rfl⟩) (ro_preV 10 0 hK hP rfl rfl) rfl rfl hl.1 rfl (lv_room (Nat.le_of_ble_eq_true rfl)) dX10_day_1 ⟨Nat.zero_le _, Nat.zero_le _⟩) hS hP (fun r_1 H locs wr_1 hP hS => ?_)
  obtain rfl := wr_1
  refine lv_if_ne (tgt := 10) hx hb dX10_day_4 (by decide) (fun c_2 => ?_) (fun c_2 => ?_)
  · exact absurd c_2 (by decide)
  · refine lv_bipush (v := (-2)) hx hb dX10_day_7 (by decide) ?_
    exact W.iret (v := (-2)) hx hb hr (fun t ht hW => ⟨⟨(-2), (), rfl, rfl, trivial⟩, hS.F ht⟩) hS.2.2 dX10_day_9

set_option maxHeartbeats 4000000 in
set_option maxRecDepth 100000 in
theorem c_X10_undo (l : Launch) (G : va_G) (ct : Nat → ClassId) (a : Nat → Nat) (rr : Nat → Nat)  : Met l yX10_undo wsX10_undo ({ frames := 5, cells := 0, slots := 0, locals := 124 }) (va_Pc [.ref (a 0)] (roP G ct (xF a rr ct))) (roQ (fun r => r = (-2))) 0 0 no := by
  refine Met.ofW (cc := cX10_undo) (maxL := 1) (ret := (some .int)) (by decide) rfl ?_
  intro p e s m args below meth c s₁ B hml hv
  obtain ⟨rfl, hP, hK⟩ := hv
  have hx := B.exec
  have hb := B.bytes
  have hr := B.returns
  have hts := atoms_spec (ws := wsX10_undo) B.pre
  have hown : s.vm.findClass RX10 = some m.cls := findClass_of_methodNamed B.named
  have hlocks := B.notSynchronized
  have hS : va_S no s.heap s.heap [] := va_S.rf
  have hl := lv_entry ([.ref (a 0)]) (n := 1) (Nat.le_of_ble_eq_true rfl)
  rw [lg_entry_eq]
  generalize (lg_sl ([.ref (a 0)]) ++ List.replicate (1 - (lg_sl ([.ref (a 0)])).length) Slot.unset).toArray = ls at hl ⊢
  have hl : lv_has ls 1 [(0, .ref (a 0))] := hl
  refine lv_aload_n hx hb dX10_undo_0 rfl (lv_at hl 0 rfl) ?_
  refine ro_calli (va_runV (As := []) (rest := []) ⟨hx, hb, hml, hown, hts⟩ (c_X10_hasCity l G ct a rr) (cwV 0 hts gX10_undo_X10_hasCity rfl rfl rfl (by decide +kernel) ⟨Nat.le_of_ble_eq_true rfl, Nat.le_of_ble_eq_true rfl⟩) (ro_preV 10 0 hK hP rfl rfl) rfl rfl hl.1 rfl (lv_room (Nat.le_of_ble_eq_true rfl)) dX10_undo_1 ⟨Nat.zero_le _, Nat.zero_le _⟩) hS hP (fun r_1 H locs wr_1 hP hS => ?_)
  obtain rfl := wr_1
  refine lv_if_ne (tgt := 10) hx hb dX10_undo_4 (by decide) (fun c_2 => ?_) (fun c_2 => ?_)
  · exact absurd c_2 (by decide)
  · refine lv_bipush (v := (-2)) hx hb dX10_undo_7 (by decide) ?_
    exact W.iret (v := (-2)) hx hb hr (fun t ht hW => ⟨⟨(-2), (), rfl, rfl, trivial⟩, hS.F ht⟩) hS.2.2 dX10_undo_9

set_option maxHeartbeats 4000000 in
set_option maxRecDepth 100000 in
theorem c_X10_anew (l : Launch) (G : va_G) (ct : Nat → ClassId) (a : Nat → Nat) (rr : Nat → Nat)  : Met l yX10_anew wsX10_anew ({ frames := 5, cells := 0, slots := 0, locals := 124 }) (va_Pc [.ref (a 0)] (roP G ct (xF a rr ct))) (roQ (fun r => r = (-2))) 0 0 no := by
  refine Met.ofW (cc := cX10_anew) (maxL := 2) (ret := (some .int)) (by decide) rfl ?_
  intro p e s m args below meth c s₁ B hml hv
  obtain ⟨rfl, hP, hK⟩ := hv
  have hx := B.exec
  have hb := B.bytes
  have hr := B.returns
  have hts := atoms_spec (ws := wsX10_anew) B.pre
  have hown : s.vm.findClass RX10 = some m.cls := findClass_of_methodNamed B.named
  have hlocks := B.notSynchronized
  have hS : va_S no s.heap s.heap [] := va_S.rf
  have hl := lv_entry ([.ref (a 0)]) (n := 2) (Nat.le_of_ble_eq_true rfl)
  rw [lg_entry_eq]
  generalize (lg_sl ([.ref (a 0)]) ++ List.replicate (2 - (lg_sl ([.ref (a 0)])).length) Slot.unset).toArray = ls at hl ⊢
  have hl : lv_has ls 2 [(0, .ref (a 0))] := hl
  refine lv_aload_n hx hb dX10_anew_0 rfl (lv_at hl 0 rfl) ?_
  refine ro_calli (va_runV (As := []) (rest := []) ⟨hx, hb, hml, hown, hts⟩ (c_X10_hasCity l G ct a rr) (cwV 0 hts gX10_anew_X10_hasCity rfl rfl rfl (by decide +kernel) ⟨Nat.le_of_ble_eq_true rfl, Nat.le_of_ble_eq_true rfl⟩) (ro_preV 10 0 hK hP rfl rfl) rfl rfl hl.1 rfl (lv_room (Nat.le_of_ble_eq_true rfl)) dX10_anew_1 ⟨Nat.zero_le _, Nat.zero_le _⟩) hS hP (fun r_1 H locs wr_1 hP hS => ?_)
  obtain rfl := wr_1
  refine lv_if_ne (tgt := 10) hx hb dX10_anew_4 (by decide) (fun c_2 => ?_) (fun c_2 => ?_)
  · exact absurd c_2 (by decide)
  · refine lv_bipush (v := (-2)) hx hb dX10_anew_7 (by decide) ?_
    exact W.iret (v := (-2)) hx hb hr (fun t ht hW => ⟨⟨(-2), (), rfl, rfl, trivial⟩, hS.F ht⟩) hS.2.2 dX10_anew_9

set_option maxHeartbeats 4000000 in
set_option maxRecDepth 100000 in
theorem c_X10_now (l : Launch) (G : va_G) (ct : Nat → ClassId) (a : Nat → Nat) (rr : Nat → Nat) (p0 : Int32)  : Met l yX10_now wsX10_now ({ frames := 1, cells := 0, slots := 0, locals := 20 }) (va_Pc [.ref (a 0), .int p0] (roP G ct (xF a rr ct))) (roQ (fun r => r = (-2))) 0 0 no := by
  refine Met.ofW (cc := cX10_now) (maxL := 2) (ret := (some .int)) (by decide) rfl ?_
  intro p e s m args below meth c s₁ B hml hv
  obtain ⟨rfl, hP, hK⟩ := hv
  have hx := B.exec
  have hb := B.bytes
  have hr := B.returns
  have hts := atoms_spec (ws := wsX10_now) B.pre
  have hown : s.vm.findClass RX10 = some m.cls := findClass_of_methodNamed B.named
  have hlocks := B.notSynchronized
  have hS : va_S no s.heap s.heap [] := va_S.rf
  have hl := lv_entry ([.ref (a 0), .int p0]) (n := 2) (Nat.le_of_ble_eq_true rfl)
  rw [lg_entry_eq]
  generalize (lg_sl ([.ref (a 0), .int p0]) ++ List.replicate (2 - (lg_sl ([.ref (a 0), .int p0])).length) Slot.unset).toArray = ls at hl ⊢
  have hl : lv_has ls 2 [(0, .ref (a 0)), (1, .int p0)] := hl
  refine lv_aload_n hx hb dX10_now_0 rfl (lv_at hl 0 rfl) ?_
  refine ro_calli (va_runV (As := []) (rest := []) ⟨hx, hb, hml, hown, hts⟩ (c_X10_hasCity l G ct a rr) (cwV 0 hts gX10_now_X10_hasCity rfl rfl rfl (by decide +kernel) ⟨Nat.le_of_ble_eq_true rfl, Nat.le_of_ble_eq_true rfl⟩) (ro_preV 10 0 hK hP rfl rfl) rfl rfl hl.1 rfl (lv_room (Nat.le_of_ble_eq_true rfl)) dX10_now_1 ⟨Nat.zero_le _, Nat.zero_le _⟩) hS hP (fun r_1 H locs wr_1 hP hS => ?_)
  obtain rfl := wr_1
  refine lv_if_ne (tgt := 10) hx hb dX10_now_4 (by decide) (fun c_2 => ?_) (fun c_2 => ?_)
  · exact absurd c_2 (by decide)
  · refine lv_bipush (v := (-2)) hx hb dX10_now_7 (by decide) ?_
    exact W.iret (v := (-2)) hx hb hr (fun t ht hW => ⟨⟨(-2), (), rfl, rfl, trivial⟩, hS.F ht⟩) hS.2.2 dX10_now_9

set_option maxHeartbeats 4000000 in
set_option maxRecDepth 100000 in
theorem c_X10_own (l : Launch) (G : va_G) (ct : Nat → ClassId) (a : Nat → Nat) (rr : Nat → Nat)  : Met l yX10_own wsX10_own ({ frames := 6, cells := 0, slots := 0, locals := 133 }) (va_Pc [.ref (a 0)] (roP G ct (xF a rr ct))) (roQ (fun r => r = (-2))) 0 0 no := by
  refine Met.ofW (cc := cX10_own) (maxL := 1) (ret := (some .int)) (by decide) rfl ?_
  intro p e s m args below meth c s₁ B hml hv
  obtain ⟨rfl, hP, hK⟩ := hv
  have hx := B.exec
  have hb := B.bytes
  have hr := B.returns
  have hts := atoms_spec (ws := wsX10_own) B.pre
  have hown : s.vm.findClass RX10 = some m.cls := findClass_of_methodNamed B.named
  have hlocks := B.notSynchronized
  have hS : va_S no s.heap s.heap [] := va_S.rf
  have hl := lv_entry ([.ref (a 0)]) (n := 1) (Nat.le_of_ble_eq_true rfl)
  rw [lg_entry_eq]
  generalize (lg_sl ([.ref (a 0)]) ++ List.replicate (1 - (lg_sl ([.ref (a 0)])).length) Slot.unset).toArray = ls at hl ⊢
  have hl : lv_has ls 1 [(0, .ref (a 0))] := hl
  refine lv_aload_n hx hb dX10_own_0 rfl (lv_at hl 0 rfl) ?_
  refine ro_calli (va_runV (As := []) (rest := []) ⟨hx, hb, hml, hown, hts⟩ (c_X10_hasCity l G ct a rr) (cwV 0 hts gX10_own_X10_hasCity rfl rfl rfl (by decide +kernel) ⟨Nat.le_of_ble_eq_true rfl, Nat.le_of_ble_eq_true rfl⟩) (ro_preV 10 0 hK hP rfl rfl) rfl rfl hl.1 rfl (lv_room (Nat.le_of_ble_eq_true rfl)) dX10_own_1 ⟨Nat.zero_le _, Nat.zero_le _⟩) hS hP (fun r_1 H locs wr_1 hP hS => ?_)
  obtain rfl := wr_1
  refine lv_if_ne (tgt := 10) hx hb dX10_own_4 (by decide) (fun c_2 => ?_) (fun c_2 => ?_)
  · exact absurd c_2 (by decide)
  · refine lv_bipush (v := (-2)) hx hb dX10_own_7 (by decide) ?_
    exact W.iret (v := (-2)) hx hb hr (fun t ht hW => ⟨⟨(-2), (), rfl, rfl, trivial⟩, hS.F ht⟩) hS.2.2 dX10_own_9

set_option maxHeartbeats 4000000 in
set_option maxRecDepth 100000 in
theorem c_X10_first (l : Launch) (G : va_G) (ct : Nat → ClassId) (a : Nat → Nat) (rr : Nat → Nat) (p0 : Int32)  : Met l yX10_first wsX10_first ({ frames := 4, cells := 0, slots := 0, locals := 88 }) (va_Pc [.ref (a 0), .int p0] (roP G ct (xF a rr ct))) (roQ (fun r => r = (-2))) 0 0 no := by
  refine Met.ofW (cc := cX10_first) (maxL := 3) (ret := (some .int)) (by decide) rfl ?_
  intro p e s m args below meth c s₁ B hml hv
  obtain ⟨rfl, hP, hK⟩ := hv
  have hx := B.exec
  have hb := B.bytes
  have hr := B.returns
  have hts := atoms_spec (ws := wsX10_first) B.pre
  have hown : s.vm.findClass RX10 = some m.cls := findClass_of_methodNamed B.named
  have hlocks := B.notSynchronized
  have hS : va_S no s.heap s.heap [] := va_S.rf
  have hl := lv_entry ([.ref (a 0), .int p0]) (n := 3) (Nat.le_of_ble_eq_true rfl)
  rw [lg_entry_eq]
  generalize (lg_sl ([.ref (a 0), .int p0]) ++ List.replicate (3 - (lg_sl ([.ref (a 0), .int p0])).length) Slot.unset).toArray = ls at hl ⊢
  have hl : lv_has ls 3 [(0, .ref (a 0)), (1, .int p0)] := hl
  refine lv_aload_n hx hb dX10_first_0 rfl (lv_at hl 0 rfl) ?_
  refine ro_calli (va_runV (As := []) (rest := []) ⟨hx, hb, hml, hown, hts⟩ (c_X10_hasCity l G ct a rr) (cwV 0 hts gX10_first_X10_hasCity rfl rfl rfl (by decide +kernel) ⟨Nat.le_of_ble_eq_true rfl, Nat.le_of_ble_eq_true rfl⟩) (ro_preV 10 0 hK hP rfl rfl) rfl rfl hl.1 rfl (lv_room (Nat.le_of_ble_eq_true rfl)) dX10_first_1 ⟨Nat.zero_le _, Nat.zero_le _⟩) hS hP (fun r_1 H locs wr_1 hP hS => ?_)
  obtain rfl := wr_1
  refine lv_if_eq (tgt := 16) hx hb dX10_first_4 (by decide) (fun c_2 => ?_) (fun c_2 => ?_)
  · refine lv_bipush (v := (-2)) hx hb dX10_first_16 (by decide) ?_
    exact W.iret (v := (-2)) hx hb hr (fun t ht hW => ⟨⟨(-2), (), rfl, rfl, trivial⟩, hS.F ht⟩) hS.2.2 dX10_first_18
  · exact absurd c_2 (by decide)

set_option maxHeartbeats 4000000 in
set_option maxRecDepth 100000 in
theorem c_X10_work (l : Launch) (G : va_G) (ct : Nat → ClassId) (a : Nat → Nat) (rr : Nat → Nat)  : Met l yX10_work wsX10_work ({ frames := 4, cells := 0, slots := 0, locals := 91 }) (va_Pc [.ref (a 0)] (roP G ct (xF a rr ct))) (roQ (fun r => r = (-2))) 0 0 no := by
  refine Met.ofW (cc := cX10_work) (maxL := 3) (ret := (some .int)) (by decide) rfl ?_
  intro p e s m args below meth c s₁ B hml hv
  obtain ⟨rfl, hP, hK⟩ := hv
  have hx := B.exec
  have hb := B.bytes
  have hr := B.returns
  have hts := atoms_spec (ws := wsX10_work) B.pre
  have hown : s.vm.findClass RX10 = some m.cls := findClass_of_methodNamed B.named
  have hlocks := B.notSynchronized
  have hS : va_S no s.heap s.heap [] := va_S.rf
  have hl := lv_entry ([.ref (a 0)]) (n := 3) (Nat.le_of_ble_eq_true rfl)
  rw [lg_entry_eq]
  generalize (lg_sl ([.ref (a 0)]) ++ List.replicate (3 - (lg_sl ([.ref (a 0)])).length) Slot.unset).toArray = ls at hl ⊢
  have hl : lv_has ls 3 [(0, .ref (a 0))] := hl
  refine lv_aload_n hx hb dX10_work_0 rfl (lv_at hl 0 rfl) ?_
  refine ro_calli (va_runV (As := []) (rest := []) ⟨hx, hb, hml, hown, hts⟩ (c_X10_hasCity l G ct a rr) (cwV 0 hts gX10_work_X10_hasCity rfl rfl rfl (by decide +kernel) ⟨Nat.le_of_ble_eq_true rfl, Nat.le_of_ble_eq_true rfl⟩) (ro_preV 10 0 hK hP rfl rfl) rfl rfl hl.1 rfl (lv_room (Nat.le_of_ble_eq_true rfl)) dX10_work_1 ⟨Nat.zero_le _, Nat.zero_le _⟩) hS hP (fun r_1 H locs wr_1 hP hS => ?_)
  obtain rfl := wr_1
  refine lv_if_ne (tgt := 10) hx hb dX10_work_4 (by decide) (fun c_2 => ?_) (fun c_2 => ?_)
  · exact absurd c_2 (by decide)
  · refine lv_bipush (v := (-2)) hx hb dX10_work_7 (by decide) ?_
    exact W.iret (v := (-2)) hx hb hr (fun t ht hW => ⟨⟨(-2), (), rfl, rfl, trivial⟩, hS.F ht⟩) hS.2.2 dX10_work_9

set_option maxHeartbeats 4000000 in
set_option maxRecDepth 100000 in
theorem c_X10_works (l : Launch) (G : va_G) (ct : Nat → ClassId) (a : Nat → Nat) (rr : Nat → Nat) (p0 : Int32)  : Met l yX10_works wsX10_works ({ frames := 6, cells := 0, slots := 0, locals := 143 }) (va_Pc [.ref (a 0), .int p0] (roP G ct (xF a rr ct))) (roQ (fun r => r = (-2))) 0 0 no := by
  refine Met.ofW (cc := cX10_works) (maxL := 2) (ret := (some .int)) (by decide) rfl ?_
  intro p e s m args below meth c s₁ B hml hv
  obtain ⟨rfl, hP, hK⟩ := hv
  have hx := B.exec
  have hb := B.bytes
  have hr := B.returns
  have hts := atoms_spec (ws := wsX10_works) B.pre
  have hown : s.vm.findClass RX10 = some m.cls := findClass_of_methodNamed B.named
  have hlocks := B.notSynchronized
  have hS : va_S no s.heap s.heap [] := va_S.rf
  have hl := lv_entry ([.ref (a 0), .int p0]) (n := 2) (Nat.le_of_ble_eq_true rfl)
  rw [lg_entry_eq]
  generalize (lg_sl ([.ref (a 0), .int p0]) ++ List.replicate (2 - (lg_sl ([.ref (a 0), .int p0])).length) Slot.unset).toArray = ls at hl ⊢
  have hl : lv_has ls 2 [(0, .ref (a 0)), (1, .int p0)] := hl
  refine lv_aload_n hx hb dX10_works_0 rfl (lv_at hl 0 rfl) ?_
  refine lv_iload_n hx hb dX10_works_1 rfl (lv_at hl 1 rfl) ?_
  refine ro_calli (va_runV (As := [.int p0]) (rest := []) ⟨hx, hb, hml, hown, hts⟩ (c_X10_isPerson l G ct a rr p0) (cwV 1 hts gX10_works_X10_isPerson rfl rfl rfl (by decide +kernel) ⟨Nat.le_of_ble_eq_true rfl, Nat.le_of_ble_eq_true rfl⟩) (ro_preV 10 0 hK hP rfl rfl) rfl rfl hl.1 rfl (lv_room (Nat.le_of_ble_eq_true rfl)) dX10_works_2 ⟨Nat.zero_le _, Nat.zero_le _⟩) hS hP (fun r_1 H locs wr_1 hP hS => ?_)
  obtain rfl := wr_1
  refine lv_if_ne (tgt := 11) hx hb dX10_works_5 (by decide) (fun c_2 => ?_) (fun c_2 => ?_)
  · exact absurd c_2 (by decide)
  · refine lv_bipush (v := (-2)) hx hb dX10_works_8 (by decide) ?_
    exact W.iret (v := (-2)) hx hb hr (fun t ht hW => ⟨⟨(-2), (), rfl, rfl, trivial⟩, hS.F ht⟩) hS.2.2 dX10_works_10

set_option maxHeartbeats 4000000 in
set_option maxRecDepth 100000 in
theorem c_X10_covers (l : Launch) (G : va_G) (ct : Nat → ClassId) (a : Nat → Nat) (rr : Nat → Nat) (p0 : Int32)  : Met l yX10_covers wsX10_covers ({ frames := 4, cells := 0, slots := 0, locals := 87 }) (va_Pc [.ref (a 0), .int p0] (roP G ct (xF a rr ct))) (roQ (fun r => r = (-2))) 0 0 no := by
  refine Met.ofW (cc := cX10_covers) (maxL := 2) (ret := (some .int)) (by decide) rfl ?_
  intro p e s m args below meth c s₁ B hml hv
  obtain ⟨rfl, hP, hK⟩ := hv
  have hx := B.exec
  have hb := B.bytes
  have hr := B.returns
  have hts := atoms_spec (ws := wsX10_covers) B.pre
  have hown : s.vm.findClass RX10 = some m.cls := findClass_of_methodNamed B.named
  have hlocks := B.notSynchronized
  have hS : va_S no s.heap s.heap [] := va_S.rf
  have hl := lv_entry ([.ref (a 0), .int p0]) (n := 2) (Nat.le_of_ble_eq_true rfl)
  rw [lg_entry_eq]
  generalize (lg_sl ([.ref (a 0), .int p0]) ++ List.replicate (2 - (lg_sl ([.ref (a 0), .int p0])).length) Slot.unset).toArray = ls at hl ⊢
  have hl : lv_has ls 2 [(0, .ref (a 0)), (1, .int p0)] := hl
  refine lv_aload_n hx hb dX10_covers_0 rfl (lv_at hl 0 rfl) ?_
  refine ro_calli (va_runV (As := []) (rest := []) ⟨hx, hb, hml, hown, hts⟩ (c_X10_hasCity l G ct a rr) (cwV 0 hts gX10_covers_X10_hasCity rfl rfl rfl (by decide +kernel) ⟨Nat.le_of_ble_eq_true rfl, Nat.le_of_ble_eq_true rfl⟩) (ro_preV 10 0 hK hP rfl rfl) rfl rfl hl.1 rfl (lv_room (Nat.le_of_ble_eq_true rfl)) dX10_covers_1 ⟨Nat.zero_le _, Nat.zero_le _⟩) hS hP (fun r_1 H locs wr_1 hP hS => ?_)
  obtain rfl := wr_1
  refine lv_if_eq (tgt := 14) hx hb dX10_covers_4 (by decide) (fun c_2 => ?_) (fun c_2 => ?_)
  · refine lv_bipush (v := (-2)) hx hb dX10_covers_14 (by decide) ?_
    exact W.iret (v := (-2)) hx hb hr (fun t ht hW => ⟨⟨(-2), (), rfl, rfl, trivial⟩, hS.F ht⟩) hS.2.2 dX10_covers_16
  · exact absurd c_2 (by decide)

set_option maxHeartbeats 4000000 in
set_option maxRecDepth 100000 in
theorem c_X10_cover (l : Launch) (G : va_G) (ct : Nat → ClassId) (a : Nat → Nat) (rr : Nat → Nat) (p0 : Int32)  : Met l yX10_cover wsX10_cover ({ frames := 5, cells := 0, slots := 0, locals := 108 }) (va_Pc [.ref (a 0), .int p0] (roP G ct (xF a rr ct))) (roQ (fun r => r = (-2))) 0 0 no := by
  refine Met.ofW (cc := cX10_cover) (maxL := 3) (ret := (some .int)) (by decide) rfl ?_
  intro p e s m args below meth c s₁ B hml hv
  obtain ⟨rfl, hP, hK⟩ := hv
  have hx := B.exec
  have hb := B.bytes
  have hr := B.returns
  have hts := atoms_spec (ws := wsX10_cover) B.pre
  have hown : s.vm.findClass RX10 = some m.cls := findClass_of_methodNamed B.named
  have hlocks := B.notSynchronized
  have hS : va_S no s.heap s.heap [] := va_S.rf
  have hl := lv_entry ([.ref (a 0), .int p0]) (n := 3) (Nat.le_of_ble_eq_true rfl)
  rw [lg_entry_eq]
  generalize (lg_sl ([.ref (a 0), .int p0]) ++ List.replicate (3 - (lg_sl ([.ref (a 0), .int p0])).length) Slot.unset).toArray = ls at hl ⊢
  have hl : lv_has ls 3 [(0, .ref (a 0)), (1, .int p0)] := hl
  refine lv_aload_n hx hb dX10_cover_0 rfl (lv_at hl 0 rfl) ?_
  refine lv_iload_n hx hb dX10_cover_1 rfl (lv_at hl 1 rfl) ?_
  refine ro_calli (va_runV (As := [.int p0]) (rest := []) ⟨hx, hb, hml, hown, hts⟩ (c_X10_covers l G ct a rr p0) (cwV 1 hts gX10_cover_X10_covers rfl rfl rfl (by decide +kernel) ⟨Nat.le_of_ble_eq_true rfl, Nat.le_of_ble_eq_true rfl⟩) (ro_preV 10 0 hK hP rfl rfl) rfl rfl hl.1 rfl (lv_room (Nat.le_of_ble_eq_true rfl)) dX10_cover_2 ⟨Nat.zero_le _, Nat.zero_le _⟩) hS hP (fun r_1 H locs wr_1 hP hS => ?_)
  obtain rfl := wr_1
  refine lv_istore_n (lv' := [(2, .int (-2)), (0, .ref (a 0)), (1, .int p0)]) hx hb dX10_cover_5 rfl hl (by decide) rfl (fun ls hl => ?_)
  refine lv_iload_n hx hb dX10_cover_6 rfl (lv_at hl 0 rfl) ?_
  refine lv_if_ge (tgt := 14) hx hb dX10_cover_7 (by decide) (fun c_2 => ?_) (fun c_2 => ?_)
  · exact absurd c_2 (by decide)
  · refine lv_iload_n hx hb dX10_cover_10 rfl (lv_at hl 0 rfl) ?_
    refine lv_goto (tgt := 18) hx hb dX10_cover_11 (by decide) ?_
    exact W.iret (v := (-2)) hx hb hr (fun t ht hW => ⟨⟨(-2), (), rfl, rfl, trivial⟩, hS.F ht⟩) hS.2.2 dX10_cover_18

set_option maxHeartbeats 4000000 in
set_option maxRecDepth 100000 in
theorem c_X10_bought (l : Launch) (G : va_G) (ct : Nat → ClassId) (a : Nat → Nat) (rr : Nat → Nat) (p0 : Int32)  : Met l yX10_bought wsX10_bought ({ frames := 3, cells := 0, slots := 0, locals := 64 }) (va_Pc [.ref (a 0), .int p0] (roP G ct (xF a rr ct))) (roQ (fun r => r = (-2))) 0 0 no := by
  refine Met.ofW (cc := cX10_bought) (maxL := 2) (ret := (some .int)) (by decide) rfl ?_
  intro p e s m args below meth c s₁ B hml hv
  obtain ⟨rfl, hP, hK⟩ := hv
  have hx := B.exec
  have hb := B.bytes
  have hr := B.returns
  have hts := atoms_spec (ws := wsX10_bought) B.pre
  have hown : s.vm.findClass RX10 = some m.cls := findClass_of_methodNamed B.named
  have hlocks := B.notSynchronized
  have hS : va_S no s.heap s.heap [] := va_S.rf
  have hl := lv_entry ([.ref (a 0), .int p0]) (n := 2) (Nat.le_of_ble_eq_true rfl)
  rw [lg_entry_eq]
  generalize (lg_sl ([.ref (a 0), .int p0]) ++ List.replicate (2 - (lg_sl ([.ref (a 0), .int p0])).length) Slot.unset).toArray = ls at hl ⊢
  have hl : lv_has ls 2 [(0, .ref (a 0)), (1, .int p0)] := hl
  refine lv_aload_n hx hb dX10_bought_0 rfl (lv_at hl 0 rfl) ?_
  refine ro_calli (va_runV (As := []) (rest := []) ⟨hx, hb, hml, hown, hts⟩ (c_X10_hasCity l G ct a rr) (cwV 0 hts gX10_bought_X10_hasCity rfl rfl rfl (by decide +kernel) ⟨Nat.le_of_ble_eq_true rfl, Nat.le_of_ble_eq_true rfl⟩) (ro_preV 10 0 hK hP rfl rfl) rfl rfl hl.1 rfl (lv_room (Nat.le_of_ble_eq_true rfl)) dX10_bought_1 ⟨Nat.zero_le _, Nat.zero_le _⟩) hS hP (fun r_1 H locs wr_1 hP hS => ?_)
  obtain rfl := wr_1
  refine lv_if_eq (tgt := 14) hx hb dX10_bought_4 (by decide) (fun c_2 => ?_) (fun c_2 => ?_)
  · refine lv_bipush (v := (-2)) hx hb dX10_bought_14 (by decide) ?_
    exact W.iret (v := (-2)) hx hb hr (fun t ht hW => ⟨⟨(-2), (), rfl, rfl, trivial⟩, hS.F ht⟩) hS.2.2 dX10_bought_16
  · exact absurd c_2 (by decide)

set_option maxHeartbeats 4000000 in
set_option maxRecDepth 100000 in
theorem c_X10_buy (l : Launch) (G : va_G) (ct : Nat → ClassId) (a : Nat → Nat) (rr : Nat → Nat) (p0 : Int32)  : Met l yX10_buy wsX10_buy ({ frames := 4, cells := 0, slots := 0, locals := 85 }) (va_Pc [.ref (a 0), .int p0] (roP G ct (xF a rr ct))) (roQ (fun r => r = (-2))) 0 0 no := by
  refine Met.ofW (cc := cX10_buy) (maxL := 3) (ret := (some .int)) (by decide) rfl ?_
  intro p e s m args below meth c s₁ B hml hv
  obtain ⟨rfl, hP, hK⟩ := hv
  have hx := B.exec
  have hb := B.bytes
  have hr := B.returns
  have hts := atoms_spec (ws := wsX10_buy) B.pre
  have hown : s.vm.findClass RX10 = some m.cls := findClass_of_methodNamed B.named
  have hlocks := B.notSynchronized
  have hS : va_S no s.heap s.heap [] := va_S.rf
  have hl := lv_entry ([.ref (a 0), .int p0]) (n := 3) (Nat.le_of_ble_eq_true rfl)
  rw [lg_entry_eq]
  generalize (lg_sl ([.ref (a 0), .int p0]) ++ List.replicate (3 - (lg_sl ([.ref (a 0), .int p0])).length) Slot.unset).toArray = ls at hl ⊢
  have hl : lv_has ls 3 [(0, .ref (a 0)), (1, .int p0)] := hl
  refine lv_aload_n hx hb dX10_buy_0 rfl (lv_at hl 0 rfl) ?_
  refine lv_iload_n hx hb dX10_buy_1 rfl (lv_at hl 1 rfl) ?_
  refine ro_calli (va_runV (As := [.int p0]) (rest := []) ⟨hx, hb, hml, hown, hts⟩ (c_X10_bought l G ct a rr p0) (cwV 1 hts gX10_buy_X10_bought rfl rfl rfl (by decide +kernel) ⟨Nat.le_of_ble_eq_true rfl, Nat.le_of_ble_eq_true rfl⟩) (ro_preV 10 0 hK hP rfl rfl) rfl rfl hl.1 rfl (lv_room (Nat.le_of_ble_eq_true rfl)) dX10_buy_2 ⟨Nat.zero_le _, Nat.zero_le _⟩) hS hP (fun r_1 H locs wr_1 hP hS => ?_)
  obtain rfl := wr_1
  refine lv_istore_n (lv' := [(2, .int (-2)), (0, .ref (a 0)), (1, .int p0)]) hx hb dX10_buy_5 rfl hl (by decide) rfl (fun ls hl => ?_)
  refine lv_iload_n hx hb dX10_buy_6 rfl (lv_at hl 0 rfl) ?_
  refine lv_if_ge (tgt := 14) hx hb dX10_buy_7 (by decide) (fun c_2 => ?_) (fun c_2 => ?_)
  · exact absurd c_2 (by decide)
  · refine lv_iload_n hx hb dX10_buy_10 rfl (lv_at hl 0 rfl) ?_
    refine lv_goto (tgt := 22) hx hb dX10_buy_11 (by decide) ?_
    exact W.iret (v := (-2)) hx hb hr (fun t ht hW => ⟨⟨(-2), (), rfl, rfl, trivial⟩, hS.F ht⟩) hS.2.2 dX10_buy_22

set_option maxHeartbeats 4000000 in
set_option maxRecDepth 100000 in
theorem c_X10_hired (l : Launch) (G : va_G) (ct : Nat → ClassId) (a : Nat → Nat) (rr : Nat → Nat) (p0 : Int32)  : Met l yX10_hired wsX10_hired ({ frames := 3, cells := 0, slots := 0, locals := 64 }) (va_Pc [.ref (a 0), .int p0] (roP G ct (xF a rr ct))) (roQ (fun r => r = (-2))) 0 0 no := by
  refine Met.ofW (cc := cX10_hired) (maxL := 2) (ret := (some .int)) (by decide) rfl ?_
  intro p e s m args below meth c s₁ B hml hv
  obtain ⟨rfl, hP, hK⟩ := hv
  have hx := B.exec
  have hb := B.bytes
  have hr := B.returns
  have hts := atoms_spec (ws := wsX10_hired) B.pre
  have hown : s.vm.findClass RX10 = some m.cls := findClass_of_methodNamed B.named
  have hlocks := B.notSynchronized
  have hS : va_S no s.heap s.heap [] := va_S.rf
  have hl := lv_entry ([.ref (a 0), .int p0]) (n := 2) (Nat.le_of_ble_eq_true rfl)
  rw [lg_entry_eq]
  generalize (lg_sl ([.ref (a 0), .int p0]) ++ List.replicate (2 - (lg_sl ([.ref (a 0), .int p0])).length) Slot.unset).toArray = ls at hl ⊢
  have hl : lv_has ls 2 [(0, .ref (a 0)), (1, .int p0)] := hl
  refine lv_aload_n hx hb dX10_hired_0 rfl (lv_at hl 0 rfl) ?_
  refine ro_calli (va_runV (As := []) (rest := []) ⟨hx, hb, hml, hown, hts⟩ (c_X10_hasCity l G ct a rr) (cwV 0 hts gX10_hired_X10_hasCity rfl rfl rfl (by decide +kernel) ⟨Nat.le_of_ble_eq_true rfl, Nat.le_of_ble_eq_true rfl⟩) (ro_preV 10 0 hK hP rfl rfl) rfl rfl hl.1 rfl (lv_room (Nat.le_of_ble_eq_true rfl)) dX10_hired_1 ⟨Nat.zero_le _, Nat.zero_le _⟩) hS hP (fun r_1 H locs wr_1 hP hS => ?_)
  obtain rfl := wr_1
  refine lv_if_eq (tgt := 18) hx hb dX10_hired_4 (by decide) (fun c_2 => ?_) (fun c_2 => ?_)
  · refine lv_bipush (v := (-2)) hx hb dX10_hired_18 (by decide) ?_
    exact W.iret (v := (-2)) hx hb hr (fun t ht hW => ⟨⟨(-2), (), rfl, rfl, trivial⟩, hS.F ht⟩) hS.2.2 dX10_hired_20
  · exact absurd c_2 (by decide)

set_option maxHeartbeats 4000000 in
set_option maxRecDepth 100000 in
theorem c_X10_deeds (l : Launch) (G : va_G) (ct : Nat → ClassId) (a : Nat → Nat) (rr : Nat → Nat) (p0 : Int32)  : Met l yX10_deeds wsX10_deeds ({ frames := 4, cells := 0, slots := 0, locals := 85 }) (va_Pc [.ref (a 0), .int p0] (roP G ct (xF a rr ct))) (roQ (fun r => r = (-2))) 0 0 no := by
  refine Met.ofW (cc := cX10_deeds) (maxL := 3) (ret := (some .int)) (by decide) rfl ?_
  intro p e s m args below meth c s₁ B hml hv
  obtain ⟨rfl, hP, hK⟩ := hv
  have hx := B.exec
  have hb := B.bytes
  have hr := B.returns
  have hts := atoms_spec (ws := wsX10_deeds) B.pre
  have hown : s.vm.findClass RX10 = some m.cls := findClass_of_methodNamed B.named
  have hlocks := B.notSynchronized
  have hS : va_S no s.heap s.heap [] := va_S.rf
  have hl := lv_entry ([.ref (a 0), .int p0]) (n := 3) (Nat.le_of_ble_eq_true rfl)
  rw [lg_entry_eq]
  generalize (lg_sl ([.ref (a 0), .int p0]) ++ List.replicate (3 - (lg_sl ([.ref (a 0), .int p0])).length) Slot.unset).toArray = ls at hl ⊢
  have hl : lv_has ls 3 [(0, .ref (a 0)), (1, .int p0)] := hl
  refine lv_aload_n hx hb dX10_deeds_0 rfl (lv_at hl 0 rfl) ?_
  refine lv_iload_n hx hb dX10_deeds_1 rfl (lv_at hl 1 rfl) ?_
  refine ro_calli (va_runV (As := [.int p0]) (rest := []) ⟨hx, hb, hml, hown, hts⟩ (c_X10_hired l G ct a rr p0) (cwV 1 hts gX10_deeds_X10_hired rfl rfl rfl (by decide +kernel) ⟨Nat.le_of_ble_eq_true rfl, Nat.le_of_ble_eq_true rfl⟩) (ro_preV 10 0 hK hP rfl rfl) rfl rfl hl.1 rfl (lv_room (Nat.le_of_ble_eq_true rfl)) dX10_deeds_2 ⟨Nat.zero_le _, Nat.zero_le _⟩) hS hP (fun r_1 H locs wr_1 hP hS => ?_)
  obtain rfl := wr_1
  refine lv_istore_n (lv' := [(2, .int (-2)), (0, .ref (a 0)), (1, .int p0)]) hx hb dX10_deeds_5 rfl hl (by decide) rfl (fun ls hl => ?_)
  refine lv_iload_n hx hb dX10_deeds_6 rfl (lv_at hl 0 rfl) ?_
  refine lv_if_ge (tgt := 14) hx hb dX10_deeds_7 (by decide) (fun c_2 => ?_) (fun c_2 => ?_)
  · exact absurd c_2 (by decide)
  · refine lv_iload_n hx hb dX10_deeds_10 rfl (lv_at hl 0 rfl) ?_
    refine lv_goto (tgt := 25) hx hb dX10_deeds_11 (by decide) ?_
    exact W.iret (v := (-2)) hx hb hr (fun t ht hW => ⟨⟨(-2), (), rfl, rfl, trivial⟩, hS.F ht⟩) hS.2.2 dX10_deeds_25
