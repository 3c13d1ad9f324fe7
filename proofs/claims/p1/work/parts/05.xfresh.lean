theorem dX10_isPerson_0 : decode cX10_isPerson 0 = .ok (.aload_n 0, 1) := by decide +kernel
theorem dX10_isPerson_1 : decode cX10_isPerson 1 = .ok (.getfield 28, 3) := by decide +kernel
theorem dX10_isPerson_4 : decode cX10_isPerson 4 = .ok (.getfield 147, 3) := by decide +kernel
theorem dX10_isPerson_7 : decode cX10_isPerson 7 = .ok (.getfield 366, 3) := by decide +kernel
theorem dX10_isPerson_10 : decode cX10_isPerson 10 = .ok (.iload_n 1, 1) := by decide +kernel
set_option maxRecDepth 20000 in
theorem ggX10_isPerson_X0_has : GoodIn wsX10_isPerson wsX0_has := goodIn_r _ [8, 9, 33, 34] (by decide +kernel) (by decide +kernel)
set_option maxRecDepth 20000 in
theorem gX10_isPerson_X0_has : GoodIn wsX10_isPerson (wsV RX10 428 RX0 yX0_has wsX0_has) := goodIn_app (goodIn_of _ (by decide +kernel)) ggX10_isPerson_X0_has
theorem dX10_isPerson_11 : decode cX10_isPerson 11 = .ok (.invokevirtual 428, 3) := by decide +kernel
theorem dX10_isPerson_14 : decode cX10_isPerson 14 = .ok (.ireturn, 1) := by decide +kernel
theorem dX10_hasCity_0 : decode cX10_hasCity 0 = .ok (.aload_n 0, 1) := by decide +kernel
theorem dX10_hasCity_1 : decode cX10_hasCity 1 = .ok (.getfield 28, 3) := by decide +kernel
theorem dX10_hasCity_4 : decode cX10_hasCity 4 = .ok (.getfield 49, 3) := by decide +kernel
theorem dX10_hasCity_7 : decode cX10_hasCity 7 = .ok (.getfield 113, 3) := by decide +kernel
theorem dX10_hasCity_10 : decode cX10_hasCity 10 = .ok (.ifCond .le 7, 3) := by decide +kernel
theorem dX10_hasCity_17 : decode cX10_hasCity 17 = .ok (.iconst 0, 1) := by decide +kernel
theorem dX10_hasCity_18 : decode cX10_hasCity 18 = .ok (.ireturn, 1) := by decide +kernel
theorem dX10_free_0 : decode cX10_free 0 = .ok (.aload_n 0, 1) := by decide +kernel
set_option maxRecDepth 20000 in
theorem ggX10_free_X10_hasCity : GoodIn wsX10_free wsX10_hasCity := goodIn_r _ [5, 6, 7, 8, 34, 35, 36, 37, 38, 39, 40, 41, 42, 43, 44, 45, 46, 47, 48, 49, 50, 51, 52, 53, 54, 55] (by decide +kernel) (by decide +kernel)
set_option maxRecDepth 20000 in
theorem gX10_free_X10_hasCity : GoodIn wsX10_free (wsV RX10 163 RX10 yX10_hasCity wsX10_hasCity) := goodIn_app (goodIn_of _ (by decide +kernel)) ggX10_free_X10_hasCity
theorem dX10_free_1 : decode cX10_free 1 = .ok (.invokevirtual 163, 3) := by decide +kernel
theorem dX10_free_4 : decode cX10_free 4 = .ok (.ifCond .eq 13, 3) := by decide +kernel
theorem dX10_free_17 : decode cX10_free 17 = .ok (.bipush (-2), 2) := by decide +kernel
theorem dX10_free_19 : decode cX10_free 19 = .ok (.ireturn, 1) := by decide +kernel
theorem dX10_under_0 : decode cX10_under 0 = .ok (.aload_n 0, 1) := by decide +kernel
theorem dX10_under_1 : decode cX10_under 1 = .ok (.iload_n 1, 1) := by decide +kernel
set_option maxRecDepth 20000 in
theorem ggX10_under_X10_isPerson : GoodIn wsX10_under wsX10_isPerson := goodIn_r _ [5, 6, 7, 8, 9, 10, 11, 12, 13, 14, 33, 34, 35, 36, 37, 38, 39, 40, 41, 42, 43, 44, 45, 46, 47, 48, 49, 50, 51, 52, 53, 54, 55, 56, 57] (by decide +kernel) (by decide +kernel)
set_option maxRecDepth 20000 in
theorem gX10_under_X10_isPerson : GoodIn wsX10_under (wsV RX10 124 RX10 yX10_isPerson wsX10_isPerson) := goodIn_app (goodIn_of _ (by decide +kernel)) ggX10_under_X10_isPerson
theorem dX10_under_2 : decode cX10_under 2 = .ok (.invokevirtual 124, 3) := by decide +kernel
theorem dX10_under_5 : decode cX10_under 5 = .ok (.ifCond .eq 14, 3) := by decide +kernel
theorem dX10_under_19 : decode cX10_under 19 = .ok (.bipush (-2), 2) := by decide +kernel
theorem dX10_under_21 : decode cX10_under 21 = .ok (.ireturn, 1) := by decide +kernel
theorem dX10_time_0 : decode cX10_time 0 = .ok (.aload_n 0, 1) := by decide +kernel
theorem dX10_time_1 : decode cX10_time 1 = .ok (.iload_n 1, 1) := by decide +kernel
set_option maxRecDepth 20000 in
theorem ggX10_time_X10_isPerson : GoodIn wsX10_time wsX10_isPerson := goodIn_r _ [6, 1, 7, 8, 9, 10, 11, 12, 13, 14, 42, 43, 44, 45, 46, 47, 48, 49, 50, 51, 52, 53, 54, 55, 56, 57, 58, 59, 60, 61, 62, 63, 64, 65, 66] (by decide +kernel) (by decide +kernel)
set_option maxRecDepth 20000 in
theorem gX10_time_X10_isPerson : GoodIn wsX10_time (wsV RX10 124 RX10 yX10_isPerson wsX10_isPerson) := goodIn_app (goodIn_of _ (by decide +kernel)) ggX10_time_X10_isPerson
theorem dX10_time_2 : decode cX10_time 2 = .ok (.invokevirtual 124, 3) := by decide +kernel
theorem dX10_time_5 : decode cX10_time 5 = .ok (.ifCond .eq 11, 3) := by decide +kernel
theorem dX10_time_16 : decode cX10_time 16 = .ok (.bipush (-2), 2) := by decide +kernel
theorem dX10_time_18 : decode cX10_time 18 = .ok (.ireturn, 1) := by decide +kernel
theorem dX10_top_0 : decode cX10_top 0 = .ok (.aload_n 0, 1) := by decide +kernel
theorem dX10_top_1 : decode cX10_top 1 = .ok (.iload_n 1, 1) := by decide +kernel
set_option maxRecDepth 20000 in
theorem ggX10_top_X10_isPerson : GoodIn wsX10_top wsX10_isPerson := goodIn_r _ [5, 6, 7, 8, 9, 10, 11, 12, 13, 14, 29, 30, 31, 32, 33, 34, 35, 36, 37, 38, 39, 40, 41, 42, 43, 44, 45, 46, 47, 48, 49, 50, 51, 52, 53] (by decide +kernel) (by decide +kernel)
set_option maxRecDepth 20000 in
theorem gX10_top_X10_isPerson : GoodIn wsX10_top (wsV RX10 124 RX10 yX10_isPerson wsX10_isPerson) := goodIn_app (goodIn_of _ (by decide +kernel)) ggX10_top_X10_isPerson
theorem dX10_top_2 : decode cX10_top 2 = .ok (.invokevirtual 124, 3) := by decide +kernel
theorem dX10_top_5 : decode cX10_top 5 = .ok (.ifCond .eq 14, 3) := by decide +kernel
theorem dX10_top_19 : decode cX10_top 19 = .ok (.bipush (-2), 2) := by decide +kernel
theorem dX10_top_21 : decode cX10_top 21 = .ok (.ireturn, 1) := by decide +kernel
theorem dX10_ring_0 : decode cX10_ring 0 = .ok (.aload_n 0, 1) := by decide +kernel
theorem dX10_ring_1 : decode cX10_ring 1 = .ok (.iload_n 1, 1) := by decide +kernel
set_option maxRecDepth 20000 in
theorem ggX10_ring_X10_isPerson : GoodIn wsX10_ring wsX10_isPerson := goodIn_r _ [5, 6, 7, 8, 9, 10, 11, 12, 13, 14, 37, 38, 39, 40, 41, 42, 43, 44, 45, 46, 47, 48, 49, 50, 51, 52, 53, 54, 55, 56, 57, 58, 59, 60, 61] (by decide +kernel) (by decide +kernel)
set_option maxRecDepth 20000 in
theorem gX10_ring_X10_isPerson : GoodIn wsX10_ring (wsV RX10 124 RX10 yX10_isPerson wsX10_isPerson) := goodIn_app (goodIn_of _ (by decide +kernel)) ggX10_ring_X10_isPerson
theorem dX10_ring_2 : decode cX10_ring 2 = .ok (.invokevirtual 124, 3) := by decide +kernel
theorem dX10_ring_5 : decode cX10_ring 5 = .ok (.ifCond .eq 14, 3) := by decide +kernel
theorem dX10_ring_19 : decode cX10_ring 19 = .ok (.bipush (-2), 2) := by decide +kernel
theorem dX10_ring_21 : decode cX10_ring 21 = .ok (.ireturn, 1) := by decide +kernel
theorem dX10_rings_0 : decode cX10_rings 0 = .ok (.aload_n 0, 1) := by decide +kernel
set_option maxRecDepth 20000 in
theorem ggX10_rings_X10_hasCity : GoodIn wsX10_rings wsX10_hasCity := goodIn_r _ [5, 6, 7, 8, 46, 47, 48, 49, 50, 51, 52, 53, 54, 55, 56, 57, 58, 59, 60, 61, 62, 63, 64, 65, 66, 67] (by decide +kernel) (by decide +kernel)
set_option maxRecDepth 20000 in
theorem gX10_rings_X10_hasCity : GoodIn wsX10_rings (wsV RX10 163 RX10 yX10_hasCity wsX10_hasCity) := goodIn_app (goodIn_of _ (by decide +kernel)) ggX10_rings_X10_hasCity
theorem dX10_rings_1 : decode cX10_rings 1 = .ok (.invokevirtual 163, 3) := by decide +kernel
theorem dX10_rings_4 : decode cX10_rings 4 = .ok (.ifCond .eq 13, 3) := by decide +kernel
theorem dX10_rings_17 : decode cX10_rings 17 = .ok (.bipush (-2), 2) := by decide +kernel
theorem dX10_rings_19 : decode cX10_rings 19 = .ok (.ireturn, 1) := by decide +kernel
theorem dX10_doer_0 : decode cX10_doer 0 = .ok (.aload_n 0, 1) := by decide +kernel
theorem dX10_doer_1 : decode cX10_doer 1 = .ok (.iload_n 1, 1) := by decide +kernel
set_option maxRecDepth 20000 in
theorem ggX10_doer_X10_isPerson : GoodIn wsX10_doer wsX10_isPerson := goodIn_r _ [6, 1, 7, 8, 9, 10, 11, 12, 13, 14, 57, 58, 59, 60, 61, 62, 63, 64, 65, 66, 67, 68, 69, 70, 71, 72, 73, 74, 75, 76, 77, 78, 79, 80, 81] (by decide +kernel) (by decide +kernel)
set_option maxRecDepth 20000 in
theorem gX10_doer_X10_isPerson : GoodIn wsX10_doer (wsV RX10 124 RX10 yX10_isPerson wsX10_isPerson) := goodIn_app (goodIn_of _ (by decide +kernel)) ggX10_doer_X10_isPerson
theorem dX10_doer_2 : decode cX10_doer 2 = .ok (.invokevirtual 124, 3) := by decide +kernel
theorem dX10_doer_5 : decode cX10_doer 5 = .ok (.ifCond .eq 10, 3) := by decide +kernel
theorem dX10_doer_15 : decode cX10_doer 15 = .ok (.bipush (-2), 2) := by decide +kernel
theorem dX10_doer_17 : decode cX10_doer 17 = .ok (.ireturn, 1) := by decide +kernel
theorem dX10_chain_0 : decode cX10_chain 0 = .ok (.aload_n 0, 1) := by decide +kernel
theorem dX10_chain_1 : decode cX10_chain 1 = .ok (.iload_n 1, 1) := by decide +kernel
theorem dX10_chain_2 : decode cX10_chain 2 = .ok (.iload_n 2, 1) := by decide +kernel
set_option maxRecDepth 20000 in
theorem ggX10_chain_X10_doer : GoodIn wsX10_chain wsX10_doer := goodIn_r _ [6, 1, 7, 8, 9, 5, 10, 11, 12, 13, 14, 15, 16, 17, 18, 19, 20, 21, 22, 23, 24, 25, 26, 27, 28, 29, 30, 31, 32, 33, 34, 35, 36, 37, 38, 39, 40, 41, 42, 43, 44, 45, 46, 47, 48, 49, 50, 51, 52, 53, 54, 55, 56, 57, 58, 59, 60, 62, 63, 64, 65, 66, 67, 68, 69, 70, 71, 72, 73, 74, 75, 76, 77, 78, 79, 80, 81, 82, 83, 84, 85, 86, 87, 88, 89, 90, 91, 92, 93] (by decide +kernel) (by decide +kernel)
set_option maxRecDepth 20000 in
theorem gX10_chain_X10_doer : GoodIn wsX10_chain (wsV RX10 185 RX10 yX10_doer wsX10_doer) := goodIn_app (goodIn_of _ (by decide +kernel)) ggX10_chain_X10_doer
theorem dX10_chain_3 : decode cX10_chain 3 = .ok (.invokevirtual 185, 3) := by decide +kernel
theorem dX10_chain_6 : decode cX10_chain 6 = .ok (.istore_n 3, 1) := by decide +kernel
theorem dX10_chain_7 : decode cX10_chain 7 = .ok (.iload_n 3, 1) := by decide +kernel
theorem dX10_chain_8 : decode cX10_chain 8 = .ok (.ifCond .ge 7, 3) := by decide +kernel
theorem dX10_chain_11 : decode cX10_chain 11 = .ok (.iload_n 3, 1) := by decide +kernel
theorem dX10_chain_12 : decode cX10_chain 12 = .ok (.goto 12, 3) := by decide +kernel
theorem dX10_chain_24 : decode cX10_chain 24 = .ok (.ireturn, 1) := by decide +kernel
theorem dX10_asked_0 : decode cX10_asked 0 = .ok (.aload_n 0, 1) := by decide +kernel
theorem dX10_asked_1 : decode cX10_asked 1 = .ok (.iload_n 1, 1) := by decide +kernel
theorem dX10_asked_2 : decode cX10_asked 2 = .ok (.iload_n 2, 1) := by decide +kernel
set_option maxRecDepth 20000 in
theorem ggX10_asked_X10_doer : GoodIn wsX10_asked wsX10_doer := goodIn_r _ [5, 6, 7, 8, 9, 4, 10, 11, 12, 13, 14, 15, 16, 17, 18, 19, 20, 21, 22, 23, 24, 25, 26, 27, 28, 29, 30, 31, 32, 33, 34, 35, 36, 37, 38, 39, 40, 41, 42, 43, 44, 45, 46, 47, 48, 49, 50, 51, 52, 53, 54, 55, 56, 57, 58, 59, 60, 70, 71, 72, 73, 74, 75, 76, 77, 78, 79, 80, 81, 82, 83, 84, 85, 86, 87, 88, 89, 90, 91, 92, 93, 94, 95, 96, 97, 98, 99, 100, 101] (by decide +kernel) (by decide +kernel)
set_option maxRecDepth 20000 in
theorem gX10_asked_X10_doer : GoodIn wsX10_asked (wsV RX10 185 RX10 yX10_doer wsX10_doer) := goodIn_app (goodIn_of _ (by decide +kernel)) ggX10_asked_X10_doer
theorem dX10_asked_3 : decode cX10_asked 3 = .ok (.invokevirtual 185, 3) := by decide +kernel
theorem dX10_asked_6 : decode cX10_asked 6 = .ok (.istore 4, 2) := by decide +kernel
theorem dX10_asked_8 : decode cX10_asked 8 = .ok (.iload 4, 2) := by decide +kernel
theorem dX10_asked_10 : decode cX10_asked 10 = .ok (.ifCond .ge 6, 3) := by decide +kernel
theorem dX10_asked_13 : decode cX10_asked 13 = .ok (.iload 4, 2) := by decide +kernel
theorem dX10_asked_15 : decode cX10_asked 15 = .ok (.ireturn, 1) := by decide +kernel
theorem dX10_can_0 : decode cX10_can 0 = .ok (.aload_n 0, 1) := by decide +kernel
theorem dX10_can_1 : decode cX10_can 1 = .ok (.iload_n 1, 1) := by decide +kernel
set_option maxRecDepth 20000 in
theorem ggX10_can_X10_isPerson : GoodIn wsX10_can wsX10_isPerson := goodIn_r _ [7, 1, 8, 9, 10, 11, 12, 13, 14, 15, 54, 55, 56, 57, 58, 59, 60, 61, 62, 63, 64, 65, 66, 67, 68, 69, 70, 71, 72, 73, 74, 75, 76, 77, 78] (by decide +kernel) (by decide +kernel)
set_option maxRecDepth 20000 in
theorem gX10_can_X10_isPerson : GoodIn wsX10_can (wsV RX10 124 RX10 yX10_isPerson wsX10_isPerson) := goodIn_app (goodIn_of _ (by decide +kernel)) ggX10_can_X10_isPerson
theorem dX10_can_2 : decode cX10_can 2 = .ok (.invokevirtual 124, 3) := by decide +kernel
theorem dX10_can_5 : decode cX10_can 5 = .ok (.ifCond .ne 6, 3) := by decide +kernel
theorem dX10_can_8 : decode cX10_can 8 = .ok (.bipush (-2), 2) := by decide +kernel
theorem dX10_can_10 : decode cX10_can 10 = .ok (.ireturn, 1) := by decide +kernel
theorem dX10_why_0 : decode cX10_why 0 = .ok (.aload_n 0, 1) := by decide +kernel
theorem dX10_why_1 : decode cX10_why 1 = .ok (.iload_n 1, 1) := by decide +kernel
set_option maxRecDepth 20000 in
theorem ggX10_why_X10_isPerson : GoodIn wsX10_why wsX10_isPerson := goodIn_r _ [7, 1, 2, 8, 9, 10, 11, 12, 13, 14, 46, 47, 48, 49, 50, 51, 52, 53, 54, 55, 56, 57, 58, 59, 60, 61, 62, 63, 64, 65, 66, 67, 68, 69, 70] (by decide +kernel) (by decide +kernel)
set_option maxRecDepth 20000 in
theorem gX10_why_X10_isPerson : GoodIn wsX10_why (wsV RX10 124 RX10 yX10_isPerson wsX10_isPerson) := goodIn_app (goodIn_of _ (by decide +kernel)) ggX10_why_X10_isPerson
theorem dX10_why_2 : decode cX10_why 2 = .ok (.invokevirtual 124, 3) := by decide +kernel
theorem dX10_why_5 : decode cX10_why 5 = .ok (.ifCond .eq 18, 3) := by decide +kernel
theorem dX10_why_23 : decode cX10_why 23 = .ok (.bipush (-2), 2) := by decide +kernel
theorem dX10_why_25 : decode cX10_why 25 = .ok (.ireturn, 1) := by decide +kernel
theorem dX10_ask_0 : decode cX10_ask 0 = .ok (.aload_n 0, 1) := by decide +kernel
theorem dX10_ask_1 : decode cX10_ask 1 = .ok (.iload_n 1, 1) := by decide +kernel
theorem dX10_ask_2 : decode cX10_ask 2 = .ok (.iload_n 2, 1) := by decide +kernel
theorem dX10_ask_3 : decode cX10_ask 3 = .ok (.iload_n 3, 1) := by decide +kernel
set_option maxRecDepth 20000 in
theorem ggX10_ask_X10_why : GoodIn wsX10_ask wsX10_why := goodIn_r _ [7, 1, 2, 8, 9, 10, 6, 11, 12, 13, 14, 15, 16, 17, 18, 19, 20, 21, 22, 23, 24, 25, 26, 27, 28, 29, 30, 31, 32, 33, 34, 35, 36, 37, 38, 39, 40, 41, 42, 43, 44, 45, 46, 47, 48, 49, 105, 106, 107, 108, 109, 110, 111, 112, 113, 114, 115, 116, 117, 118, 119, 120, 121, 122, 123, 124, 125, 126, 127, 128, 129, 130, 131, 132, 133, 134, 135, 136] (by decide +kernel) (by decide +kernel)
set_option maxRecDepth 20000 in
theorem gX10_ask_X10_why : GoodIn wsX10_ask (wsV RX10 207 RX10 yX10_why wsX10_why) := goodIn_app (goodIn_of _ (by decide +kernel)) ggX10_ask_X10_why
theorem dX10_ask_4 : decode cX10_ask 4 = .ok (.invokevirtual 207, 3) := by decide +kernel
theorem dX10_ask_7 : decode cX10_ask 7 = .ok (.istore 4, 2) := by decide +kernel
theorem dX10_ask_9 : decode cX10_ask 9 = .ok (.iload 4, 2) := by decide +kernel
theorem dX10_ask_11 : decode cX10_ask 11 = .ok (.bipush (-2), 2) := by decide +kernel
theorem dX10_ask_13 : decode cX10_ask 13 = .ok (.if_icmp .ne 6, 3) := by decide +kernel
theorem dX10_ask_16 : decode cX10_ask 16 = .ok (.bipush (-2), 2) := by decide +kernel
theorem dX10_ask_18 : decode cX10_ask 18 = .ok (.ireturn, 1) := by decide +kernel
theorem dX10_give_0 : decode cX10_give 0 = .ok (.aload_n 0, 1) := by decide +kernel
theorem dX10_give_1 : decode cX10_give 1 = .ok (.iload_n 1, 1) := by decide +kernel
set_option maxRecDepth 20000 in
theorem ggX10_give_X10_isPerson : GoodIn wsX10_give wsX10_isPerson := goodIn_r _ [7, 1, 2, 8, 9, 10, 11, 12, 13, 14, 90, 91, 92, 93, 94, 95, 96, 97, 98, 99, 100, 101, 102, 103, 104, 105, 106, 107, 108, 109, 110, 111, 112, 113, 114] (by decide +kernel) (by decide +kernel)
set_option maxRecDepth 20000 in
theorem gX10_give_X10_isPerson : GoodIn wsX10_give (wsV RX10 124 RX10 yX10_isPerson wsX10_isPerson) := goodIn_app (goodIn_of _ (by decide +kernel)) ggX10_give_X10_isPerson
theorem dX10_give_2 : decode cX10_give 2 = .ok (.invokevirtual 124, 3) := by decide +kernel
theorem dX10_give_5 : decode cX10_give 5 = .ok (.ifCond .eq 28, 3) := by decide +kernel
theorem dX10_give_33 : decode cX10_give 33 = .ok (.bipush (-2), 2) := by decide +kernel
theorem dX10_give_35 : decode cX10_give 35 = .ok (.ireturn, 1) := by decide +kernel
theorem dX10_swap_0 : decode cX10_swap 0 = .ok (.aload_n 0, 1) := by decide +kernel
theorem dX10_swap_1 : decode cX10_swap 1 = .ok (.iload_n 1, 1) := by decide +kernel
set_option maxRecDepth 20000 in
theorem ggX10_swap_X10_isPerson : GoodIn wsX10_swap wsX10_isPerson := goodIn_r _ [6, 1, 7, 8, 9, 10, 11, 12, 13, 14, 86, 87, 88, 89, 90, 91, 92, 93, 94, 95, 96, 97, 98, 99, 100, 101, 102, 103, 104, 105, 106, 107, 108, 109, 110] (by decide +kernel) (by decide +kernel)
set_option maxRecDepth 20000 in
theorem gX10_swap_X10_isPerson : GoodIn wsX10_swap (wsV RX10 124 RX10 yX10_isPerson wsX10_isPerson) := goodIn_app (goodIn_of _ (by decide +kernel)) ggX10_swap_X10_isPerson
theorem dX10_swap_2 : decode cX10_swap 2 = .ok (.invokevirtual 124, 3) := by decide +kernel
theorem dX10_swap_5 : decode cX10_swap 5 = .ok (.ifCond .eq 16, 3) := by decide +kernel
theorem dX10_swap_21 : decode cX10_swap 21 = .ok (.bipush (-2), 2) := by decide +kernel
theorem dX10_swap_23 : decode cX10_swap 23 = .ok (.ireturn, 1) := by decide +kernel
theorem dX10_steal_0 : decode cX10_steal 0 = .ok (.aload_n 0, 1) := by decide +kernel
theorem dX10_steal_1 : decode cX10_steal 1 = .ok (.iload_n 1, 1) := by decide +kernel
set_option maxRecDepth 20000 in
theorem ggX10_steal_X10_isPerson : GoodIn wsX10_steal wsX10_isPerson := goodIn_r _ [8, 1, 2, 9, 10, 11, 12, 13, 14, 15, 88, 89, 90, 91, 92, 93, 94, 95, 96, 97, 98, 99, 100, 101, 102, 103, 104, 105, 106, 107, 108, 109, 110, 111, 112] (by decide +kernel) (by decide +kernel)
set_option maxRecDepth 20000 in
theorem gX10_steal_X10_isPerson : GoodIn wsX10_steal (wsV RX10 124 RX10 yX10_isPerson wsX10_isPerson) := goodIn_app (goodIn_of _ (by decide +kernel)) ggX10_steal_X10_isPerson
theorem dX10_steal_2 : decode cX10_steal 2 = .ok (.invokevirtual 124, 3) := by decide +kernel
theorem dX10_steal_5 : decode cX10_steal 5 = .ok (.ifCond .eq 11, 3) := by decide +kernel
theorem dX10_steal_16 : decode cX10_steal 16 = .ok (.bipush (-2), 2) := by decide +kernel
theorem dX10_steal_18 : decode cX10_steal 18 = .ok (.ireturn, 1) := by decide +kernel
theorem dX10_day_0 : decode cX10_day 0 = .ok (.aload_n 0, 1) := by decide +kernel
set_option maxRecDepth 20000 in
theorem ggX10_day_X10_hasCity : GoodIn wsX10_day wsX10_hasCity := goodIn_r _ [8, 1, 9, 10, 82, 83, 84, 85, 86, 87, 88, 89, 90, 91, 92, 93, 94, 95, 96, 105, 106, 107, 108, 109, 110, 111] (by decide +kernel) (by decide +kernel)
set_option maxRecDepth 20000 in
theorem gX10_day_X10_hasCity : GoodIn wsX10_day (wsV RX10 163 RX10 yX10_hasCity wsX10_hasCity) := goodIn_app (goodIn_of _ (by decide +kernel)) ggX10_day_X10_hasCity
theorem dX10_day_1 : decode cX10_day 1 = .ok (.invokevirtual 163, 3) := by decide +kernel
theorem dX10_day_4 : decode cX10_day 4 = .ok (.ifCond .ne 6, 3) := by decide +kernel
theorem dX10_day_7 : decode cX10_day 7 = .ok (.bipush (-2), 2) := by decide +kernel
theorem dX10_day_9 : decode cX10_day 9 = .ok (.ireturn, 1) := by decide +kernel
theorem dX10_undo_0 : decode cX10_undo 0 = .ok (.aload_n 0, 1) := by decide +kernel
set_option maxRecDepth 20000 in
theorem ggX10_undo_X10_hasCity : GoodIn wsX10_undo wsX10_hasCity := goodIn_r _ [7, 1, 8, 9, 91, 92, 93, 94, 95, 96, 97, 98, 99, 100, 101, 102, 103, 104, 105, 106, 107, 108, 109, 110, 111, 112] (by decide +kernel) (by decide +kernel)
set_option maxRecDepth 20000 in
theorem gX10_undo_X10_hasCity : GoodIn wsX10_undo (wsV RX10 163 RX10 yX10_hasCity wsX10_hasCity) := goodIn_app (goodIn_of _ (by decide +kernel)) ggX10_undo_X10_hasCity
theorem dX10_undo_1 : decode cX10_undo 1 = .ok (.invokevirtual 163, 3) := by decide +kernel
theorem dX10_undo_4 : decode cX10_undo 4 = .ok (.ifCond .ne 6, 3) := by decide +kernel
theorem dX10_undo_7 : decode cX10_undo 7 = .ok (.bipush (-2), 2) := by decide +kernel
theorem dX10_undo_9 : decode cX10_undo 9 = .ok (.ireturn, 1) := by decide +kernel
theorem dX10_anew_0 : decode cX10_anew 0 = .ok (.aload_n 0, 1) := by decide +kernel
set_option maxRecDepth 20000 in
theorem ggX10_anew_X10_hasCity : GoodIn wsX10_anew wsX10_hasCity := goodIn_r _ [7, 1, 8, 9, 91, 92, 93, 94, 95, 96, 97, 98, 99, 100, 101, 102, 103, 104, 105, 106, 107, 108, 109, 110, 111, 112] (by decide +kernel) (by decide +kernel)
set_option maxRecDepth 20000 in
theorem gX10_anew_X10_hasCity : GoodIn wsX10_anew (wsV RX10 163 RX10 yX10_hasCity wsX10_hasCity) := goodIn_app (goodIn_of _ (by decide +kernel)) ggX10_anew_X10_hasCity
theorem dX10_anew_1 : decode cX10_anew 1 = .ok (.invokevirtual 163, 3) := by decide +kernel
theorem dX10_anew_4 : decode cX10_anew 4 = .ok (.ifCond .ne 6, 3) := by decide +kernel
theorem dX10_anew_7 : decode cX10_anew 7 = .ok (.bipush (-2), 2) := by decide +kernel
theorem dX10_anew_9 : decode cX10_anew 9 = .ok (.ireturn, 1) := by decide +kernel
theorem dX10_now_0 : decode cX10_now 0 = .ok (.aload_n 0, 1) := by decide +kernel
set_option maxRecDepth 20000 in
theorem ggX10_now_X10_hasCity : GoodIn wsX10_now wsX10_hasCity := goodIn_r _ [11, 1, 12, 13, 14, 15, 16, 17, 18, 19, 20, 21, 22, 23, 24, 25, 26, 27, 28, 37, 38, 39, 40, 41, 42, 43] (by decide +kernel) (by decide +kernel)
set_option maxRecDepth 20000 in
theorem gX10_now_X10_hasCity : GoodIn wsX10_now (wsV RX10 163 RX10 yX10_hasCity wsX10_hasCity) := goodIn_app (goodIn_of _ (by decide +kernel)) ggX10_now_X10_hasCity
theorem dX10_now_1 : decode cX10_now 1 = .ok (.invokevirtual 163, 3) := by decide +kernel
theorem dX10_now_4 : decode cX10_now 4 = .ok (.ifCond .ne 6, 3) := by decide +kernel
theorem dX10_now_7 : decode cX10_now 7 = .ok (.bipush (-2), 2) := by decide +kernel
theorem dX10_now_9 : decode cX10_now 9 = .ok (.ireturn, 1) := by decide +kernel
theorem dX10_own_0 : decode cX10_own 0 = .ok (.aload_n 0, 1) := by decide +kernel
set_option maxRecDepth 20000 in
theorem ggX10_own_X10_hasCity : GoodIn wsX10_own wsX10_hasCity := goodIn_r _ [6, 7, 8, 9, 64, 65, 66, 67, 68, 69, 70, 71, 72, 73, 74, 75, 76, 77, 78, 79, 80, 81, 82, 83, 84, 85] (by decide +kernel) (by decide +kernel)
set_option maxRecDepth 20000 in
theorem gX10_own_X10_hasCity : GoodIn wsX10_own (wsV RX10 163 RX10 yX10_hasCity wsX10_hasCity) := goodIn_app (goodIn_of _ (by decide +kernel)) ggX10_own_X10_hasCity
theorem dX10_own_1 : decode cX10_own 1 = .ok (.invokevirtual 163, 3) := by decide +kernel
theorem dX10_own_4 : decode cX10_own 4 = .ok (.ifCond .ne 6, 3) := by decide +kernel
theorem dX10_own_7 : decode cX10_own 7 = .ok (.bipush (-2), 2) := by decide +kernel
theorem dX10_own_9 : decode cX10_own 9 = .ok (.ireturn, 1) := by decide +kernel
theorem dX10_first_0 : decode cX10_first 0 = .ok (.aload_n 0, 1) := by decide +kernel
set_option maxRecDepth 20000 in
theorem ggX10_first_X10_hasCity : GoodIn wsX10_first wsX10_hasCity := goodIn_r _ [6, 7, 8, 9, 60, 61, 62, 63, 64, 65, 66, 67, 68, 69, 70, 71, 72, 73, 74, 75, 76, 77, 78, 79, 80, 81] (by decide +kernel) (by decide +kernel)
set_option maxRecDepth 20000 in
theorem gX10_first_X10_hasCity : GoodIn wsX10_first (wsV RX10 163 RX10 yX10_hasCity wsX10_hasCity) := goodIn_app (goodIn_of _ (by decide +kernel)) ggX10_first_X10_hasCity
theorem dX10_first_1 : decode cX10_first 1 = .ok (.invokevirtual 163, 3) := by decide +kernel
theorem dX10_first_4 : decode cX10_first 4 = .ok (.ifCond .eq 12, 3) := by decide +kernel
theorem dX10_first_16 : decode cX10_first 16 = .ok (.bipush (-2), 2) := by decide +kernel
theorem dX10_first_18 : decode cX10_first 18 = .ok (.ireturn, 1) := by decide +kernel
theorem dX10_work_0 : decode cX10_work 0 = .ok (.aload_n 0, 1) := by decide +kernel
set_option maxRecDepth 20000 in
theorem ggX10_work_X10_hasCity : GoodIn wsX10_work wsX10_hasCity := goodIn_r _ [8, 2, 3, 9, 77, 78, 79, 80, 81, 82, 83, 84, 85, 86, 87, 88, 89, 90, 91, 92, 93, 94, 95, 96, 97, 98] (by decide +kernel) (by decide +kernel)
set_option maxRecDepth 20000 in
theorem gX10_work_X10_hasCity : GoodIn wsX10_work (wsV RX10 163 RX10 yX10_hasCity wsX10_hasCity) := goodIn_app (goodIn_of _ (by decide +kernel)) ggX10_work_X10_hasCity
theorem dX10_work_1 : decode cX10_work 1 = .ok (.invokevirtual 163, 3) := by decide +kernel
theorem dX10_work_4 : decode cX10_work 4 = .ok (.ifCond .ne 6, 3) := by decide +kernel
theorem dX10_work_7 : decode cX10_work 7 = .ok (.bipush (-2), 2) := by decide +kernel
theorem dX10_work_9 : decode cX10_work 9 = .ok (.ireturn, 1) := by decide +kernel
theorem dX10_works_0 : decode cX10_works 0 = .ok (.aload_n 0, 1) := by decide +kernel
theorem dX10_works_1 : decode cX10_works 1 = .ok (.iload_n 1, 1) := by decide +kernel
set_option maxRecDepth 20000 in
theorem ggX10_works_X10_isPerson : GoodIn wsX10_works wsX10_isPerson := goodIn_r _ [6, 1, 7, 8, 9, 10, 11, 12, 13, 14, 78, 79, 80, 81, 82, 83, 84, 85, 86, 87, 88, 89, 90, 91, 92, 93, 94, 95, 96, 97, 98, 99, 100, 101, 102] (by decide +kernel) (by decide +kernel)
set_option maxRecDepth 20000 in
theorem gX10_works_X10_isPerson : GoodIn wsX10_works (wsV RX10 124 RX10 yX10_isPerson wsX10_isPerson) := goodIn_app (goodIn_of _ (by decide +kernel)) ggX10_works_X10_isPerson
theorem dX10_works_2 : decode cX10_works 2 = .ok (.invokevirtual 124, 3) := by decide +kernel
theorem dX10_works_5 : decode cX10_works 5 = .ok (.ifCond .ne 6, 3) := by decide +kernel
theorem dX10_works_8 : decode cX10_works 8 = .ok (.bipush (-2), 2) := by decide +kernel
theorem dX10_works_10 : decode cX10_works 10 = .ok (.ireturn, 1) := by decide +kernel
theorem dX10_covers_0 : decode cX10_covers 0 = .ok (.aload_n 0, 1) := by decide +kernel
set_option maxRecDepth 20000 in
theorem ggX10_covers_X10_hasCity : GoodIn wsX10_covers wsX10_hasCity := goodIn_r _ [7, 2, 8, 9, 64, 65, 66, 67, 68, 69, 70, 71, 72, 73, 74, 75, 76, 77, 78, 79, 80, 81, 82, 83, 84, 85] (by decide +kernel) (by decide +kernel)
set_option maxRecDepth 20000 in
theorem gX10_covers_X10_hasCity : GoodIn wsX10_covers (wsV RX10 163 RX10 yX10_hasCity wsX10_hasCity) := goodIn_app (goodIn_of _ (by decide +kernel)) ggX10_covers_X10_hasCity
theorem dX10_covers_1 : decode cX10_covers 1 = .ok (.invokevirtual 163, 3) := by decide +kernel
theorem dX10_covers_4 : decode cX10_covers 4 = .ok (.ifCond .eq 10, 3) := by decide +kernel
theorem dX10_covers_14 : decode cX10_covers 14 = .ok (.bipush (-2), 2) := by decide +kernel
theorem dX10_covers_16 : decode cX10_covers 16 = .ok (.ireturn, 1) := by decide +kernel
theorem dX10_cover_0 : decode cX10_cover 0 = .ok (.aload_n 0, 1) := by decide +kernel
theorem dX10_cover_1 : decode cX10_cover 1 = .ok (.iload_n 1, 1) := by decide +kernel
set_option maxRecDepth 20000 in
theorem ggX10_cover_X10_covers : GoodIn wsX10_cover wsX10_covers := goodIn_r _ [5, 6, 7, 8, 9, 10, 4, 11, 12, 13, 14, 15, 16, 17, 18, 19, 20, 21, 22, 23, 24, 25, 26, 27, 28, 29, 30, 31, 32, 33, 34, 35, 36, 37, 38, 39, 40, 41, 42, 43, 44, 45, 46, 47, 48, 49, 50, 51, 52, 53, 54, 55, 56, 57, 58, 59, 60, 61, 62, 63, 64, 65, 66, 67, 75, 76, 77, 78, 79, 80, 81, 82, 83, 84, 85, 86, 87, 88, 89, 90, 91, 92, 93, 94, 95, 96, 97, 98, 99, 100, 101, 102, 103, 104, 105, 106, 107, 108, 109] (by decide +kernel) (by decide +kernel)
set_option maxRecDepth 20000 in
theorem gX10_cover_X10_covers : GoodIn wsX10_cover (wsV RX10 253 RX10 yX10_covers wsX10_covers) := goodIn_app (goodIn_of _ (by decide +kernel)) ggX10_cover_X10_covers
theorem dX10_cover_2 : decode cX10_cover 2 = .ok (.invokevirtual 253, 3) := by decide +kernel
theorem dX10_cover_5 : decode cX10_cover 5 = .ok (.istore_n 2, 1) := by decide +kernel
theorem dX10_cover_6 : decode cX10_cover 6 = .ok (.iload_n 2, 1) := by decide +kernel
theorem dX10_cover_7 : decode cX10_cover 7 = .ok (.ifCond .ge 7, 3) := by decide +kernel
theorem dX10_cover_10 : decode cX10_cover 10 = .ok (.iload_n 2, 1) := by decide +kernel
theorem dX10_cover_11 : decode cX10_cover 11 = .ok (.goto 7, 3) := by decide +kernel
theorem dX10_cover_18 : decode cX10_cover 18 = .ok (.ireturn, 1) := by decide +kernel
theorem dX10_bought_0 : decode cX10_bought 0 = .ok (.aload_n 0, 1) := by decide +kernel
set_option maxRecDepth 20000 in
theorem ggX10_bought_X10_hasCity : GoodIn wsX10_bought wsX10_hasCity := goodIn_r _ [7, 2, 8, 9, 50, 51, 52, 53, 54, 55, 56, 57, 58, 59, 60, 61, 62, 63, 64, 65, 66, 67, 68, 69, 70, 71] (by decide +kernel) (by decide +kernel)
set_option maxRecDepth 20000 in
theorem gX10_bought_X10_hasCity : GoodIn wsX10_bought (wsV RX10 163 RX10 yX10_hasCity wsX10_hasCity) := goodIn_app (goodIn_of _ (by decide +kernel)) ggX10_bought_X10_hasCity
theorem dX10_bought_1 : decode cX10_bought 1 = .ok (.invokevirtual 163, 3) := by decide +kernel
theorem dX10_bought_4 : decode cX10_bought 4 = .ok (.ifCond .eq 10, 3) := by decide +kernel
theorem dX10_bought_14 : decode cX10_bought 14 = .ok (.bipush (-2), 2) := by decide +kernel
theorem dX10_bought_16 : decode cX10_bought 16 = .ok (.ireturn, 1) := by decide +kernel
theorem dX10_buy_0 : decode cX10_buy 0 = .ok (.aload_n 0, 1) := by decide +kernel
theorem dX10_buy_1 : decode cX10_buy 1 = .ok (.iload_n 1, 1) := by decide +kernel
set_option maxRecDepth 20000 in
theorem ggX10_buy_X10_bought : GoodIn wsX10_buy wsX10_bought := goodIn_r _ [6, 1, 7, 8, 9, 10, 5, 11, 12, 13, 14, 15, 16, 17, 18, 19, 20, 21, 22, 23, 24, 25, 26, 27, 28, 29, 30, 31, 32, 33, 34, 35, 36, 37, 38, 39, 40, 41, 42, 43, 44, 45, 46, 47, 48, 49, 50, 51, 52, 53, 58, 59, 60, 61, 62, 63, 64, 65, 66, 67, 68, 69, 70, 71, 72, 73, 74, 75, 76, 77, 78, 79, 80, 81, 82, 83, 84] (by decide +kernel) (by decide +kernel)
set_option maxRecDepth 20000 in
theorem gX10_buy_X10_bought : GoodIn wsX10_buy (wsV RX10 271 RX10 yX10_bought wsX10_bought) := goodIn_app (goodIn_of _ (by decide +kernel)) ggX10_buy_X10_bought
theorem dX10_buy_2 : decode cX10_buy 2 = .ok (.invokevirtual 271, 3) := by decide +kernel
theorem dX10_buy_5 : decode cX10_buy 5 = .ok (.istore_n 2, 1) := by decide +kernel
theorem dX10_buy_6 : decode cX10_buy 6 = .ok (.iload_n 2, 1) := by decide +kernel
theorem dX10_buy_7 : decode cX10_buy 7 = .ok (.ifCond .ge 7, 3) := by decide +kernel
theorem dX10_buy_10 : decode cX10_buy 10 = .ok (.iload_n 2, 1) := by decide +kernel
theorem dX10_buy_11 : decode cX10_buy 11 = .ok (.goto 11, 3) := by decide +kernel
theorem dX10_buy_22 : decode cX10_buy 22 = .ok (.ireturn, 1) := by decide +kernel
theorem dX10_hired_0 : decode cX10_hired 0 = .ok (.aload_n 0, 1) := by decide +kernel
set_option maxRecDepth 20000 in
theorem ggX10_hired_X10_hasCity : GoodIn wsX10_hired wsX10_hasCity := goodIn_r _ [7, 2, 8, 9, 54, 55, 56, 57, 58, 59, 60, 61, 62, 63, 64, 65, 66, 67, 68, 69, 70, 71, 72, 73, 74, 75] (by decide +kernel) (by decide +kernel)
set_option maxRecDepth 20000 in
theorem gX10_hired_X10_hasCity : GoodIn wsX10_hired (wsV RX10 163 RX10 yX10_hasCity wsX10_hasCity) := goodIn_app (goodIn_of _ (by decide +kernel)) ggX10_hired_X10_hasCity
theorem dX10_hired_1 : decode cX10_hired 1 = .ok (.invokevirtual 163, 3) := by decide +kernel
theorem dX10_hired_4 : decode cX10_hired 4 = .ok (.ifCond .eq 14, 3) := by decide +kernel
theorem dX10_hired_18 : decode cX10_hired 18 = .ok (.bipush (-2), 2) := by decide +kernel
theorem dX10_hired_20 : decode cX10_hired 20 = .ok (.ireturn, 1) := by decide +kernel
theorem dX10_deeds_0 : decode cX10_deeds 0 = .ok (.aload_n 0, 1) := by decide +kernel
theorem dX10_deeds_1 : decode cX10_deeds 1 = .ok (.iload_n 1, 1) := by decide +kernel
set_option maxRecDepth 20000 in
theorem ggX10_deeds_X10_hired : GoodIn wsX10_deeds wsX10_hired := goodIn_r _ [6, 1, 7, 8, 9, 10, 5, 11, 12, 13, 14, 15, 16, 17, 18, 19, 20, 21, 22, 23, 24, 25, 26, 27, 28, 29, 30, 31, 32, 33, 34, 35, 36, 37, 38, 39, 40, 41, 42, 43, 44, 45, 46, 47, 48, 49, 50, 51, 52, 53, 54, 55, 56, 57, 63, 64, 65, 66, 67, 68, 69, 70, 71, 72, 73, 74, 75, 76, 77, 78, 79, 80, 81, 82, 83, 84, 85, 86, 87, 88, 89] (by decide +kernel) (by decide +kernel)
set_option maxRecDepth 20000 in
theorem gX10_deeds_X10_hired : GoodIn wsX10_deeds (wsV RX10 280 RX10 yX10_hired wsX10_hired) := goodIn_app (goodIn_of _ (by decide +kernel)) ggX10_deeds_X10_hired
theorem dX10_deeds_2 : decode cX10_deeds 2 = .ok (.invokevirtual 280, 3) := by decide +kernel
theorem dX10_deeds_5 : decode cX10_deeds 5 = .ok (.istore_n 2, 1) := by decide +kernel
theorem dX10_deeds_6 : decode cX10_deeds 6 = .ok (.iload_n 2, 1) := by decide +kernel
theorem dX10_deeds_7 : decode cX10_deeds 7 = .ok (.ifCond .ge 7, 3) := by decide +kernel
theorem dX10_deeds_10 : decode cX10_deeds 10 = .ok (.iload_n 2, 1) := by decide +kernel
theorem dX10_deeds_11 : decode cX10_deeds 11 = .ok (.goto 14, 3) := by decide +kernel
theorem dX10_deeds_25 : decode cX10_deeds 25 = .ok (.ireturn, 1) := by decide +kernel
theorem dX6_isSlot_0 : decode cX6_isSlot 0 = .ok (.iload_n 1, 1) := by decide +kernel
theorem dX6_isSlot_1 : decode cX6_isSlot 1 = .ok (.ifCond .lt 12, 3) := by decide +kernel
theorem dX6_isSlot_13 : decode cX6_isSlot 13 = .ok (.iconst 0, 1) := by decide +kernel
theorem dX6_isSlot_14 : decode cX6_isSlot 14 = .ok (.ireturn, 1) := by decide +kernel
theorem dX6_isSlot_4 : decode cX6_isSlot 4 = .ok (.iload_n 1, 1) := by decide +kernel
theorem dX6_isSlot_5 : decode cX6_isSlot 5 = .ok (.iconst 4, 1) := by decide +kernel
theorem dX6_isSlot_6 : decode cX6_isSlot 6 = .ok (.if_icmp .ge 7, 3) := by decide +kernel
theorem dX6_isSlot_9 : decode cX6_isSlot 9 = .ok (.iconst 1, 1) := by decide +kernel
theorem dX6_isSlot_10 : decode cX6_isSlot 10 = .ok (.goto 4, 3) := by decide +kernel
theorem dX10_isSeed_0 : decode cX10_isSeed 0 = .ok (.iload_n 0, 1) := by decide +kernel
theorem dX10_isSeed_1 : decode cX10_isSeed 1 = .ok (.ifCond .lt 14, 3) := by decide +kernel
theorem dX10_isSeed_15 : decode cX10_isSeed 15 = .ok (.iconst 0, 1) := by decide +kernel
theorem dX10_isSeed_16 : decode cX10_isSeed 16 = .ok (.ireturn, 1) := by decide +kernel
theorem dX10_isSeed_4 : decode cX10_isSeed 4 = .ok (.iload_n 0, 1) := by decide +kernel
theorem dX10_isSeed_5 : decode cX10_isSeed 5 = .ok (.ldc_w 457, 3) := by decide +kernel
theorem dX10_isSeed_8 : decode cX10_isSeed 8 = .ok (.if_icmp .gt 7, 3) := by decide +kernel
theorem dX10_isSeed_11 : decode cX10_isSeed 11 = .ok (.iconst 1, 1) := by decide +kernel
theorem dX10_isSeed_12 : decode cX10_isSeed 12 = .ok (.goto 4, 3) := by decide +kernel
theorem dX10_isSquareNumber_0 : decode cX10_isSquareNumber 0 = .ok (.iload_n 0, 1) := by decide +kernel
theorem dX10_isSquareNumber_1 : decode cX10_isSquareNumber 1 = .ok (.iconst 1, 1) := by decide +kernel
theorem dX10_isSquareNumber_2 : decode cX10_isSquareNumber 2 = .ok (.if_icmp .lt 13, 3) := by decide +kernel
theorem dX10_isSquareNumber_15 : decode cX10_isSquareNumber 15 = .ok (.iconst 0, 1) := by decide +kernel
theorem dX10_isSquareNumber_16 : decode cX10_isSquareNumber 16 = .ok (.ireturn, 1) := by decide +kernel
theorem dX10_isSquareNumber_5 : decode cX10_isSquareNumber 5 = .ok (.iload_n 0, 1) := by decide +kernel
theorem dX10_isSquareNumber_6 : decode cX10_isSquareNumber 6 = .ok (.bipush 20, 2) := by decide +kernel
theorem dX10_isSquareNumber_8 : decode cX10_isSquareNumber 8 = .ok (.if_icmp .gt 7, 3) := by decide +kernel
theorem dX10_isSquareNumber_11 : decode cX10_isSquareNumber 11 = .ok (.iconst 1, 1) := by decide +kernel
theorem dX10_isSquareNumber_12 : decode cX10_isSquareNumber 12 = .ok (.goto 4, 3) := by decide +kernel
theorem dX10_isDeed_0 : decode cX10_isDeed 0 = .ok (.iload_n 0, 1) := by decide +kernel
theorem dX10_isDeed_1 : decode cX10_isDeed 1 = .ok (.ifCond .lt 13, 3) := by decide +kernel
theorem dX10_isDeed_14 : decode cX10_isDeed 14 = .ok (.iconst 0, 1) := by decide +kernel
theorem dX10_isDeed_15 : decode cX10_isDeed 15 = .ok (.ireturn, 1) := by decide +kernel
theorem dX10_isDeed_4 : decode cX10_isDeed 4 = .ok (.iload_n 0, 1) := by decide +kernel
theorem dX10_isDeed_5 : decode cX10_isDeed 5 = .ok (.bipush 6, 2) := by decide +kernel
theorem dX10_isDeed_7 : decode cX10_isDeed 7 = .ok (.if_icmp .ge 7, 3) := by decide +kernel
theorem dX10_isDeed_10 : decode cX10_isDeed 10 = .ok (.iconst 1, 1) := by decide +kernel
theorem dX10_isDeed_11 : decode cX10_isDeed 11 = .ok (.goto 4, 3) := by decide +kernel
theorem dX10_isDeedSet_0 : decode cX10_isDeedSet 0 = .ok (.iload_n 0, 1) := by decide +kernel
theorem dX10_isDeedSet_1 : decode cX10_isDeedSet 1 = .ok (.ifCond .lt 13, 3) := by decide +kernel
theorem dX10_isDeedSet_14 : decode cX10_isDeedSet 14 = .ok (.iconst 0, 1) := by decide +kernel
theorem dX10_isDeedSet_15 : decode cX10_isDeedSet 15 = .ok (.ireturn, 1) := by decide +kernel
theorem dX10_isDeedSet_4 : decode cX10_isDeedSet 4 = .ok (.iload_n 0, 1) := by decide +kernel
theorem dX10_isDeedSet_5 : decode cX10_isDeedSet 5 = .ok (.bipush 64, 2) := by decide +kernel
theorem dX10_isDeedSet_7 : decode cX10_isDeedSet 7 = .ok (.if_icmp .ge 7, 3) := by decide +kernel
theorem dX10_isDeedSet_10 : decode cX10_isDeedSet 10 = .ok (.iconst 1, 1) := by decide +kernel
theorem dX10_isDeedSet_11 : decode cX10_isDeedSet 11 = .ok (.goto 4, 3) := by decide +kernel
theorem dX10_person_0 : decode cX10_person 0 = .ok (.aload_n 0, 1) := by decide +kernel
theorem dX10_person_1 : decode cX10_person 1 = .ok (.iload_n 1, 1) := by decide +kernel
set_option maxRecDepth 20000 in
theorem ggX10_person_X10_isPerson : GoodIn wsX10_person wsX10_isPerson := goodIn_r _ [9, 1, 3, 10, 11, 12, 13, 14, 15, 16, 72, 73, 74, 75, 76, 77, 78, 79, 80, 81, 82, 83, 84, 85, 86, 87, 88, 89, 90, 91, 92, 93, 94, 95, 96] (by decide +kernel) (by decide +kernel)
set_option maxRecDepth 20000 in
theorem gX10_person_X10_isPerson : GoodIn wsX10_person (wsV RX10 124 RX10 yX10_isPerson wsX10_isPerson) := goodIn_app (goodIn_of _ (by decide +kernel)) ggX10_person_X10_isPerson
theorem dX10_person_2 : decode cX10_person 2 = .ok (.invokevirtual 124, 3) := by decide +kernel
theorem dX10_person_5 : decode cX10_person 5 = .ok (.ifCond .ne 6, 3) := by decide +kernel
theorem dX10_person_8 : decode cX10_person 8 = .ok (.bipush (-2), 2) := by decide +kernel
theorem dX10_person_10 : decode cX10_person 10 = .ok (.ireturn, 1) := by decide +kernel
theorem dX10_slotState_0 : decode cX10_slotState 0 = .ok (.aload_n 0, 1) := by decide +kernel
theorem dX10_slotState_1 : decode cX10_slotState 1 = .ok (.getfield 43, 3) := by decide +kernel
theorem dX10_slotState_4 : decode cX10_slotState 4 = .ok (.iload_n 1, 1) := by decide +kernel
set_option maxRecDepth 20000 in
theorem ggX10_slotState_X6_isSlot : GoodIn wsX10_slotState wsX6_isSlot := goodIn_r _ [6] (by decide +kernel) (by decide +kernel)
set_option maxRecDepth 20000 in
theorem gX10_slotState_X6_isSlot : GoodIn wsX10_slotState (wsV RX10 397 RX6 yX6_isSlot wsX6_isSlot) := goodIn_app (goodIn_of _ (by decide +kernel)) ggX10_slotState_X6_isSlot
theorem dX10_slotState_5 : decode cX10_slotState 5 = .ok (.invokevirtual 397, 3) := by decide +kernel
theorem dX10_slotState_8 : decode cX10_slotState 8 = .ok (.ifCond .eq 10, 3) := by decide +kernel
theorem dX10_slotState_18 : decode cX10_slotState 18 = .ok (.bipush (-2), 2) := by decide +kernel
theorem dX10_slotState_20 : decode cX10_slotState 20 = .ok (.ireturn, 1) := by decide +kernel
theorem dX10_slotState_11 : decode cX10_slotState 11 = .ok (.aload_n 0, 1) := by decide +kernel
set_option maxRecDepth 20000 in
theorem ggX10_slotState_X10_hasCity : GoodIn wsX10_slotState wsX10_hasCity := goodIn_r _ [11, 12, 13, 14, 23, 24, 25, 26, 27, 28, 29, 30, 31, 32, 33, 34, 35, 36, 37, 38, 39, 40, 41, 42, 43, 44] (by decide +kernel) (by decide +kernel)
set_option maxRecDepth 20000 in
theorem gX10_slotState_X10_hasCity : GoodIn wsX10_slotState (wsV RX10 163 RX10 yX10_hasCity wsX10_hasCity) := goodIn_app (goodIn_of _ (by decide +kernel)) ggX10_slotState_X10_hasCity
theorem dX10_slotState_12 : decode cX10_slotState 12 = .ok (.invokevirtual 163, 3) := by decide +kernel
theorem dX10_slotState_15 : decode cX10_slotState 15 = .ok (.ifCond .ne 6, 3) := by decide +kernel
theorem dX10_deedRowState_0 : decode cX10_deedRowState 0 = .ok (.aload_n 0, 1) := by decide +kernel
theorem dX10_deedRowState_1 : decode cX10_deedRowState 1 = .ok (.iload_n 1, 1) := by decide +kernel
set_option maxRecDepth 20000 in
theorem ggX10_deedRowState_X10_slotState : GoodIn wsX10_deedRowState wsX10_slotState := goodIn_r _ [7, 1, 8, 9, 10, 11, 12, 13, 14, 15, 6, 16, 17, 18, 19, 20, 21, 22, 23, 24, 25, 26, 27, 43, 44, 45, 46, 47, 48, 49, 50, 51, 52, 53, 54, 55, 56, 57, 58, 59, 60, 61, 62, 63, 64, 65, 66, 67, 68] (by decide +kernel) (by decide +kernel)
set_option maxRecDepth 20000 in
theorem gX10_deedRowState_X10_slotState : GoodIn wsX10_deedRowState (wsV RX10 431 RX10 yX10_slotState wsX10_slotState) := goodIn_app (goodIn_of _ (by decide +kernel)) ggX10_deedRowState_X10_slotState
theorem dX10_deedRowState_2 : decode cX10_deedRowState 2 = .ok (.invokevirtual 431, 3) := by decide +kernel
theorem dX10_deedRowState_5 : decode cX10_deedRowState 5 = .ok (.istore_n 2, 1) := by decide +kernel
theorem dX10_deedRowState_6 : decode cX10_deedRowState 6 = .ok (.iload_n 2, 1) := by decide +kernel
theorem dX10_deedRowState_7 : decode cX10_deedRowState 7 = .ok (.ifCond .eq 5, 3) := by decide +kernel
theorem dX10_deedRowState_10 : decode cX10_deedRowState 10 = .ok (.iload_n 2, 1) := by decide +kernel
theorem dX10_deedRowState_11 : decode cX10_deedRowState 11 = .ok (.ireturn, 1) := by decide +kernel
theorem dX10_askingRowState_0 : decode cX10_askingRowState 0 = .ok (.aload_n 0, 1) := by decide +kernel
theorem dX10_askingRowState_1 : decode cX10_askingRowState 1 = .ok (.iload_n 1, 1) := by decide +kernel
set_option maxRecDepth 20000 in
theorem ggX10_askingRowState_X10_slotState : GoodIn wsX10_askingRowState wsX10_slotState := goodIn_r _ [6, 1, 7, 8, 9, 10, 11, 12, 13, 14, 5, 15, 16, 17, 18, 19, 20, 21, 22, 23, 24, 25, 26, 60, 61, 62, 63, 64, 65, 66, 67, 68, 69, 70, 71, 72, 73, 74, 75, 76, 77, 78, 79, 80, 81, 82, 83, 84, 85] (by decide +kernel) (by decide +kernel)
set_option maxRecDepth 20000 in
theorem gX10_askingRowState_X10_slotState : GoodIn wsX10_askingRowState (wsV RX10 431 RX10 yX10_slotState wsX10_slotState) := goodIn_app (goodIn_of _ (by decide +kernel)) ggX10_askingRowState_X10_slotState
theorem dX10_askingRowState_2 : decode cX10_askingRowState 2 = .ok (.invokevirtual 431, 3) := by decide +kernel
theorem dX10_askingRowState_5 : decode cX10_askingRowState 5 = .ok (.istore_n 2, 1) := by decide +kernel
theorem dX10_askingRowState_6 : decode cX10_askingRowState 6 = .ok (.iload_n 2, 1) := by decide +kernel
theorem dX10_askingRowState_7 : decode cX10_askingRowState 7 = .ok (.ifCond .eq 5, 3) := by decide +kernel
theorem dX10_askingRowState_10 : decode cX10_askingRowState 10 = .ok (.iload_n 2, 1) := by decide +kernel
theorem dX10_askingRowState_11 : decode cX10_askingRowState 11 = .ok (.ireturn, 1) := by decide +kernel
theorem dX10_suspects_0 : decode cX10_suspects 0 = .ok (.aload_n 0, 1) := by decide +kernel
theorem dX10_suspects_1 : decode cX10_suspects 1 = .ok (.iload_n 1, 1) := by decide +kernel
set_option maxRecDepth 20000 in
theorem ggX10_suspects_X10_deedRowState : GoodIn wsX10_suspects wsX10_deedRowState := goodIn_r _ [8, 3, 9, 10, 11, 12, 7, 13, 14, 15, 16, 17, 18, 19, 20, 21, 22, 1, 2, 23, 24, 25, 26, 27, 28, 29, 30, 31, 32, 33, 34, 35, 36, 37, 38, 39, 40, 41, 42, 43, 44, 45, 46, 70, 71, 72, 73, 74, 75, 76, 77, 78, 79, 80, 81, 82, 83, 84, 85, 86, 87, 88, 89, 90, 91, 92, 93, 94, 95] (by decide +kernel) (by decide +kernel)
set_option maxRecDepth 20000 in
theorem gX10_suspects_X10_deedRowState : GoodIn wsX10_suspects (wsV RX10 287 RX10 yX10_deedRowState wsX10_deedRowState) := goodIn_app (goodIn_of _ (by decide +kernel)) ggX10_suspects_X10_deedRowState
theorem dX10_suspects_2 : decode cX10_suspects 2 = .ok (.invokevirtual 287, 3) := by decide +kernel
theorem dX10_suspects_5 : decode cX10_suspects 5 = .ok (.istore_n 2, 1) := by decide +kernel
theorem dX10_suspects_6 : decode cX10_suspects 6 = .ok (.iload_n 2, 1) := by decide +kernel
theorem dX10_suspects_7 : decode cX10_suspects 7 = .ok (.ifCond .eq 7, 3) := by decide +kernel
theorem dX10_suspects_10 : decode cX10_suspects 10 = .ok (.iload_n 2, 1) := by decide +kernel
theorem dX10_suspects_11 : decode cX10_suspects 11 = .ok (.goto 21, 3) := by decide +kernel
theorem dX10_suspects_32 : decode cX10_suspects 32 = .ok (.ireturn, 1) := by decide +kernel
theorem dX10_watch_0 : decode cX10_watch 0 = .ok (.aload_n 0, 1) := by decide +kernel
theorem dX10_watch_1 : decode cX10_watch 1 = .ok (.iload_n 1, 1) := by decide +kernel
set_option maxRecDepth 20000 in
theorem ggX10_watch_X10_deedRowState : GoodIn wsX10_watch wsX10_deedRowState := goodIn_r _ [8, 3, 9, 10, 11, 12, 7, 13, 14, 15, 16, 17, 18, 19, 20, 21, 22, 1, 2, 23, 24, 25, 26, 27, 28, 29, 30, 31, 32, 33, 34, 35, 36, 37, 38, 39, 40, 41, 42, 43, 44, 45, 46, 90, 91, 92, 93, 94, 95, 96, 97, 98, 99, 100, 101, 102, 103, 104, 105, 106, 107, 108, 109, 110, 111, 112, 113, 114, 115] (by decide +kernel) (by decide +kernel)
set_option maxRecDepth 20000 in
theorem gX10_watch_X10_deedRowState : GoodIn wsX10_watch (wsV RX10 287 RX10 yX10_deedRowState wsX10_deedRowState) := goodIn_app (goodIn_of _ (by decide +kernel)) ggX10_watch_X10_deedRowState
theorem dX10_watch_2 : decode cX10_watch 2 = .ok (.invokevirtual 287, 3) := by decide +kernel
theorem dX10_watch_5 : decode cX10_watch 5 = .ok (.istore_n 2, 1) := by decide +kernel
theorem dX10_watch_6 : decode cX10_watch 6 = .ok (.iload_n 2, 1) := by decide +kernel
theorem dX10_watch_7 : decode cX10_watch 7 = .ok (.ifCond .eq 5, 3) := by decide +kernel
theorem dX10_watch_10 : decode cX10_watch 10 = .ok (.iload_n 2, 1) := by decide +kernel
theorem dX10_watch_11 : decode cX10_watch 11 = .ok (.ireturn, 1) := by decide +kernel
theorem dX10_leaves_0 : decode cX10_leaves 0 = .ok (.aload_n 0, 1) := by decide +kernel
theorem dX10_leaves_1 : decode cX10_leaves 1 = .ok (.iload_n 1, 1) := by decide +kernel
set_option maxRecDepth 20000 in
theorem ggX10_leaves_X10_deedRowState : GoodIn wsX10_leaves wsX10_deedRowState := goodIn_r _ [8, 3, 9, 10, 11, 12, 7, 13, 14, 15, 16, 17, 18, 19, 20, 21, 22, 1, 2, 23, 24, 25, 26, 27, 28, 29, 30, 31, 32, 33, 34, 35, 36, 37, 38, 39, 40, 41, 42, 43, 44, 45, 46, 92, 93, 94, 95, 96, 97, 98, 99, 100, 101, 102, 103, 104, 105, 106, 107, 108, 109, 110, 111, 112, 113, 114, 115, 116, 117] (by decide +kernel) (by decide +kernel)
set_option maxRecDepth 20000 in
theorem gX10_leaves_X10_deedRowState : GoodIn wsX10_leaves (wsV RX10 287 RX10 yX10_deedRowState wsX10_deedRowState) := goodIn_app (goodIn_of _ (by decide +kernel)) ggX10_leaves_X10_deedRowState
theorem dX10_leaves_2 : decode cX10_leaves 2 = .ok (.invokevirtual 287, 3) := by decide +kernel
theorem dX10_leaves_5 : decode cX10_leaves 5 = .ok (.istore_n 2, 1) := by decide +kernel
theorem dX10_leaves_6 : decode cX10_leaves 6 = .ok (.iload_n 2, 1) := by decide +kernel
theorem dX10_leaves_7 : decode cX10_leaves 7 = .ok (.ifCond .eq 5, 3) := by decide +kernel
theorem dX10_leaves_10 : decode cX10_leaves 10 = .ok (.iload_n 2, 1) := by decide +kernel
theorem dX10_leaves_11 : decode cX10_leaves 11 = .ok (.ireturn, 1) := by decide +kernel
theorem dX10_proof_0 : decode cX10_proof 0 = .ok (.aload_n 0, 1) := by decide +kernel
theorem dX10_proof_1 : decode cX10_proof 1 = .ok (.iload_n 1, 1) := by decide +kernel
set_option maxRecDepth 20000 in
theorem ggX10_proof_X10_deedRowState : GoodIn wsX10_proof wsX10_deedRowState := goodIn_r _ [8, 1, 9, 10, 11, 12, 7, 13, 14, 15, 16, 17, 18, 19, 20, 21, 22, 2, 3, 23, 24, 25, 26, 27, 28, 29, 30, 31, 32, 33, 34, 35, 36, 37, 38, 39, 40, 41, 42, 43, 44, 45, 46, 77, 78, 79, 80, 81, 82, 83, 84, 85, 86, 87, 88, 89, 90, 91, 92, 93, 94, 95, 96, 97, 98, 99, 100, 101, 102] (by decide +kernel) (by decide +kernel)
set_option maxRecDepth 20000 in
theorem gX10_proof_X10_deedRowState : GoodIn wsX10_proof (wsV RX10 287 RX10 yX10_deedRowState wsX10_deedRowState) := goodIn_app (goodIn_of _ (by decide +kernel)) ggX10_proof_X10_deedRowState
theorem dX10_proof_2 : decode cX10_proof 2 = .ok (.invokevirtual 287, 3) := by decide +kernel
theorem dX10_proof_5 : decode cX10_proof 5 = .ok (.istore_n 2, 1) := by decide +kernel
theorem dX10_proof_6 : decode cX10_proof 6 = .ok (.iload_n 2, 1) := by decide +kernel
theorem dX10_proof_7 : decode cX10_proof 7 = .ok (.ifCond .eq 5, 3) := by decide +kernel
theorem dX10_proof_10 : decode cX10_proof 10 = .ok (.iload_n 2, 1) := by decide +kernel
theorem dX10_proof_11 : decode cX10_proof 11 = .ok (.ireturn, 1) := by decide +kernel
theorem dX10_canDuel_0 : decode cX10_canDuel 0 = .ok (.aload_n 0, 1) := by decide +kernel
theorem dX10_canDuel_1 : decode cX10_canDuel 1 = .ok (.iload_n 1, 1) := by decide +kernel
set_option maxRecDepth 20000 in
theorem ggX10_canDuel_X10_isPerson : GoodIn wsX10_canDuel wsX10_isPerson := goodIn_r _ [5, 6, 7, 8, 9, 10, 11, 12, 13, 14, 29, 30, 31, 32, 33, 34, 35, 36, 37, 38, 39, 40, 41, 42, 43, 44, 45, 46, 47, 48, 49, 50, 51, 52, 53] (by decide +kernel) (by decide +kernel)
set_option maxRecDepth 20000 in
theorem gX10_canDuel_X10_isPerson : GoodIn wsX10_canDuel (wsV RX10 124 RX10 yX10_isPerson wsX10_isPerson) := goodIn_app (goodIn_of _ (by decide +kernel)) ggX10_canDuel_X10_isPerson
theorem dX10_canDuel_2 : decode cX10_canDuel 2 = .ok (.invokevirtual 124, 3) := by decide +kernel
theorem dX10_canDuel_5 : decode cX10_canDuel 5 = .ok (.ifCond .eq 42, 3) := by decide +kernel
theorem dX10_canDuel_47 : decode cX10_canDuel 47 = .ok (.iconst 0, 1) := by decide +kernel
theorem dX10_canDuel_48 : decode cX10_canDuel 48 = .ok (.ireturn, 1) := by decide +kernel
theorem dX10_duel_0 : decode cX10_duel 0 = .ok (.aload_n 0, 1) := by decide +kernel
theorem dX10_duel_1 : decode cX10_duel 1 = .ok (.iload_n 1, 1) := by decide +kernel
theorem dX10_duel_2 : decode cX10_duel 2 = .ok (.iload_n 2, 1) := by decide +kernel
set_option maxRecDepth 20000 in
theorem ggX10_duel_X10_canDuel : GoodIn wsX10_duel wsX10_canDuel := goodIn_r _ [7, 8, 9, 10, 6, 11, 1, 12, 13, 14, 15, 16, 17, 18, 19, 20, 21, 22, 23, 24, 25, 26, 27, 28, 29, 30, 31, 32, 33, 59, 60, 61, 62, 63, 64, 65, 66, 67, 68, 69, 70, 71, 72, 73, 74, 75, 76, 77, 78, 79, 80, 81, 82, 83] (by decide +kernel) (by decide +kernel)
set_option maxRecDepth 20000 in
theorem gX10_duel_X10_canDuel : GoodIn wsX10_duel (wsV RX10 302 RX10 yX10_canDuel wsX10_canDuel) := goodIn_app (goodIn_of _ (by decide +kernel)) ggX10_duel_X10_canDuel
theorem dX10_duel_3 : decode cX10_duel 3 = .ok (.invokevirtual 302, 3) := by decide +kernel
theorem dX10_duel_6 : decode cX10_duel 6 = .ok (.ifCond .eq 12, 3) := by decide +kernel
theorem dX10_duel_18 : decode cX10_duel 18 = .ok (.bipush (-2), 2) := by decide +kernel
theorem dX10_duel_20 : decode cX10_duel 20 = .ok (.ireturn, 1) := by decide +kernel
theorem dX10_lays_0 : decode cX10_lays 0 = .ok (.aload_n 0, 1) := by decide +kernel
theorem dX10_lays_1 : decode cX10_lays 1 = .ok (.iload_n 1, 1) := by decide +kernel
theorem dX10_lays_2 : decode cX10_lays 2 = .ok (.iload_n 2, 1) := by decide +kernel
set_option maxRecDepth 20000 in
theorem ggX10_lays_X10_canDuel : GoodIn wsX10_lays wsX10_canDuel := goodIn_r _ [7, 8, 9, 10, 6, 11, 1, 12, 13, 14, 15, 16, 17, 18, 19, 20, 21, 22, 23, 24, 25, 26, 27, 28, 29, 30, 31, 32, 33, 61, 62, 63, 64, 65, 66, 67, 68, 69, 70, 71, 72, 73, 74, 75, 76, 77, 78, 79, 80, 81, 82, 83, 84, 85] (by decide +kernel) (by decide +kernel)
set_option maxRecDepth 20000 in
theorem gX10_lays_X10_canDuel : GoodIn wsX10_lays (wsV RX10 302 RX10 yX10_canDuel wsX10_canDuel) := goodIn_app (goodIn_of _ (by decide +kernel)) ggX10_lays_X10_canDuel
theorem dX10_lays_3 : decode cX10_lays 3 = .ok (.invokevirtual 302, 3) := by decide +kernel
theorem dX10_lays_6 : decode cX10_lays 6 = .ok (.ifCond .ne 6, 3) := by decide +kernel
theorem dX10_lays_9 : decode cX10_lays 9 = .ok (.bipush (-2), 2) := by decide +kernel
theorem dX10_lays_11 : decode cX10_lays 11 = .ok (.ireturn, 1) := by decide +kernel
theorem dX10_reply_0 : decode cX10_reply 0 = .ok (.aload_n 0, 1) := by decide +kernel
theorem dX10_reply_1 : decode cX10_reply 1 = .ok (.iload_n 1, 1) := by decide +kernel
theorem dX10_reply_2 : decode cX10_reply 2 = .ok (.iload_n 2, 1) := by decide +kernel
set_option maxRecDepth 20000 in
theorem ggX10_reply_X10_lays : GoodIn wsX10_reply wsX10_lays := goodIn_r _ [7, 1, 2, 8, 9, 10, 6, 11, 12, 13, 14, 15, 16, 17, 18, 19, 20, 21, 22, 23, 24, 25, 26, 27, 28, 29, 30, 31, 32, 33, 34, 35, 36, 37, 38, 39, 40, 41, 42, 43, 44, 45, 46, 47, 48, 49, 50, 51, 52, 53, 54, 55, 56, 57, 58, 59, 60, 61, 62, 63, 64, 69, 70, 71, 72, 73, 74, 75, 76, 77, 78, 79, 80, 81, 82, 83, 84, 85, 86, 87, 88, 89, 90, 91, 92, 93, 94, 95, 96, 97, 98, 99, 100] (by decide +kernel) (by decide +kernel)
set_option maxRecDepth 20000 in
theorem gX10_reply_X10_lays : GoodIn wsX10_reply (wsV RX10 312 RX10 yX10_lays wsX10_lays) := goodIn_app (goodIn_of _ (by decide +kernel)) ggX10_reply_X10_lays
theorem dX10_reply_3 : decode cX10_reply 3 = .ok (.invokevirtual 312, 3) := by decide +kernel
theorem dX10_reply_6 : decode cX10_reply 6 = .ok (.istore_n 3, 1) := by decide +kernel
theorem dX10_reply_7 : decode cX10_reply 7 = .ok (.iload_n 3, 1) := by decide +kernel
theorem dX10_reply_8 : decode cX10_reply 8 = .ok (.ifCond .ge 6, 3) := by decide +kernel
theorem dX10_reply_11 : decode cX10_reply 11 = .ok (.bipush (-2), 2) := by decide +kernel
theorem dX10_reply_13 : decode cX10_reply 13 = .ok (.ireturn, 1) := by decide +kernel
theorem dX10_leave_0 : decode cX10_leave 0 = .ok (.aload_n 0, 1) := by decide +kernel
set_option maxRecDepth 20000 in
theorem ggX10_leave_X10_hasCity : GoodIn wsX10_leave wsX10_hasCity := goodIn_r _ [7, 2, 8, 9, 82, 83, 84, 85, 86, 87, 88, 89, 90, 91, 92, 93, 94, 95, 96, 97, 98, 99, 100, 101, 102, 103] (by decide +kernel) (by decide +kernel)
set_option maxRecDepth 20000 in
theorem gX10_leave_X10_hasCity : GoodIn wsX10_leave (wsV RX10 163 RX10 yX10_hasCity wsX10_hasCity) := goodIn_app (goodIn_of _ (by decide +kernel)) ggX10_leave_X10_hasCity
theorem dX10_leave_1 : decode cX10_leave 1 = .ok (.invokevirtual 163, 3) := by decide +kernel
theorem dX10_leave_4 : decode cX10_leave 4 = .ok (.ifCond .eq 11, 3) := by decide +kernel
theorem dX10_leave_15 : decode cX10_leave 15 = .ok (.bipush (-2), 2) := by decide +kernel
theorem dX10_leave_17 : decode cX10_leave 17 = .ok (.ireturn, 1) := by decide +kernel
theorem dX10_firm_0 : decode cX10_firm 0 = .ok (.aload_n 0, 1) := by decide +kernel
theorem dX10_firm_1 : decode cX10_firm 1 = .ok (.iload_n 1, 1) := by decide +kernel
set_option maxRecDepth 20000 in
theorem ggX10_firm_X10_leave : GoodIn wsX10_firm wsX10_leave := goodIn_r _ [5, 6, 7, 8, 9, 10, 4, 11, 12, 13, 14, 15, 16, 17, 18, 19, 20, 21, 22, 23, 24, 25, 26, 27, 28, 29, 30, 31, 32, 33, 34, 35, 36, 37, 38, 39, 40, 41, 42, 43, 44, 45, 46, 47, 48, 49, 50, 51, 52, 53, 54, 55, 56, 57, 58, 59, 60, 61, 62, 63, 64, 65, 66, 67, 68, 69, 70, 71, 72, 73, 74, 75, 76, 77, 78, 79, 80, 81, 82, 83, 84, 85, 86, 87, 88, 89, 90, 91, 92, 93, 94, 95, 96, 97, 98, 99, 100, 101, 102, 103, 104, 105, 106, 107, 108, 109, 110, 111, 112, 113, 114, 115, 116, 117, 118, 119, 120, 121] (by decide +kernel) (by decide +kernel)
set_option maxRecDepth 20000 in
theorem gX10_firm_X10_leave : GoodIn wsX10_firm (wsV RX10 324 RX10 yX10_leave wsX10_leave) := goodIn_app (goodIn_of _ (by decide +kernel)) ggX10_firm_X10_leave
theorem dX10_firm_2 : decode cX10_firm 2 = .ok (.invokevirtual 324, 3) := by decide +kernel
theorem dX10_firm_5 : decode cX10_firm 5 = .ok (.istore_n 2, 1) := by decide +kernel
theorem dX10_firm_6 : decode cX10_firm 6 = .ok (.iload_n 2, 1) := by decide +kernel
theorem dX10_firm_7 : decode cX10_firm 7 = .ok (.bipush (-2), 2) := by decide +kernel
theorem dX10_firm_9 : decode cX10_firm 9 = .ok (.if_icmp .ne 6, 3) := by decide +kernel
theorem dX10_firm_12 : decode cX10_firm 12 = .ok (.bipush (-2), 2) := by decide +kernel
theorem dX10_firm_14 : decode cX10_firm 14 = .ok (.ireturn, 1) := by decide +kernel
theorem dX10_firms_0 : decode cX10_firms 0 = .ok (.aload_n 0, 1) := by decide +kernel
set_option maxRecDepth 20000 in
theorem ggX10_firms_X10_hasCity : GoodIn wsX10_firms wsX10_hasCity := goodIn_r _ [7, 2, 8, 9, 78, 79, 80, 81, 82, 83, 84, 85, 86, 87, 88, 89, 90, 91, 92, 93, 94, 95, 96, 97, 98, 99] (by decide +kernel) (by decide +kernel)
set_option maxRecDepth 20000 in
theorem gX10_firms_X10_hasCity : GoodIn wsX10_firms (wsV RX10 163 RX10 yX10_hasCity wsX10_hasCity) := goodIn_app (goodIn_of _ (by decide +kernel)) ggX10_firms_X10_hasCity
theorem dX10_firms_1 : decode cX10_firms 1 = .ok (.invokevirtual 163, 3) := by decide +kernel
theorem dX10_firms_4 : decode cX10_firms 4 = .ok (.ifCond .ne 6, 3) := by decide +kernel
theorem dX10_firms_7 : decode cX10_firms 7 = .ok (.bipush (-2), 2) := by decide +kernel
theorem dX10_firms_9 : decode cX10_firms 9 = .ok (.ireturn, 1) := by decide +kernel
theorem dX10_firmest_0 : decode cX10_firmest 0 = .ok (.aload_n 0, 1) := by decide +kernel
set_option maxRecDepth 20000 in
theorem ggX10_firmest_X10_hasCity : GoodIn wsX10_firmest wsX10_hasCity := goodIn_r _ [7, 2, 8, 9, 85, 86, 87, 88, 89, 90, 91, 92, 93, 94, 95, 96, 97, 98, 99, 100, 101, 102, 103, 104, 105, 106] (by decide +kernel) (by decide +kernel)
set_option maxRecDepth 20000 in
theorem gX10_firmest_X10_hasCity : GoodIn wsX10_firmest (wsV RX10 163 RX10 yX10_hasCity wsX10_hasCity) := goodIn_app (goodIn_of _ (by decide +kernel)) ggX10_firmest_X10_hasCity
theorem dX10_firmest_1 : decode cX10_firmest 1 = .ok (.invokevirtual 163, 3) := by decide +kernel
theorem dX10_firmest_4 : decode cX10_firmest 4 = .ok (.ifCond .ne 6, 3) := by decide +kernel
theorem dX10_firmest_7 : decode cX10_firmest 7 = .ok (.bipush (-2), 2) := by decide +kernel
theorem dX10_firmest_9 : decode cX10_firmest 9 = .ok (.ireturn, 1) := by decide +kernel
theorem dX10_lay_0 : decode cX10_lay 0 = .ok (.aload_n 0, 1) := by decide +kernel
theorem dX10_lay_1 : decode cX10_lay 1 = .ok (.iload_n 1, 1) := by decide +kernel
theorem dX10_lay_2 : decode cX10_lay 2 = .ok (.iload_n 2, 1) := by decide +kernel
set_option maxRecDepth 20000 in
theorem ggX10_lay_X10_lays : GoodIn wsX10_lay wsX10_lays := goodIn_r _ [7, 1, 2, 8, 9, 10, 6, 11, 12, 13, 14, 15, 16, 17, 18, 19, 20, 21, 22, 23, 24, 25, 26, 27, 28, 29, 30, 31, 32, 33, 34, 35, 36, 37, 38, 39, 40, 41, 42, 43, 44, 45, 46, 47, 48, 49, 50, 51, 52, 53, 54, 55, 56, 57, 58, 59, 60, 61, 62, 63, 64, 66, 67, 68, 69, 70, 71, 72, 73, 74, 75, 76, 77, 78, 79, 80, 81, 82, 83, 84, 85, 86, 87, 88, 89, 90, 91, 92, 93, 94, 95, 96, 97] (by decide +kernel) (by decide +kernel)
set_option maxRecDepth 20000 in
theorem gX10_lay_X10_lays : GoodIn wsX10_lay (wsV RX10 312 RX10 yX10_lays wsX10_lays) := goodIn_app (goodIn_of _ (by decide +kernel)) ggX10_lay_X10_lays
theorem dX10_lay_3 : decode cX10_lay 3 = .ok (.invokevirtual 312, 3) := by decide +kernel
theorem dX10_lay_6 : decode cX10_lay 6 = .ok (.istore_n 3, 1) := by decide +kernel
theorem dX10_lay_7 : decode cX10_lay 7 = .ok (.iload_n 3, 1) := by decide +kernel
theorem dX10_lay_8 : decode cX10_lay 8 = .ok (.ifCond .ge 9, 3) := by decide +kernel
theorem dX10_lay_11 : decode cX10_lay 11 = .ok (.sipush (-1000), 3) := by decide +kernel
theorem dX10_lay_14 : decode cX10_lay 14 = .ok (.goto 22, 3) := by decide +kernel
theorem dX10_lay_36 : decode cX10_lay 36 = .ok (.ireturn, 1) := by decide +kernel
theorem dX10_wins_0 : decode cX10_wins 0 = .ok (.aload_n 0, 1) := by decide +kernel
set_option maxRecDepth 20000 in
theorem ggX10_wins_X10_hasCity : GoodIn wsX10_wins wsX10_hasCity := goodIn_r _ [7, 2, 8, 9, 84, 85, 86, 87, 88, 89, 90, 91, 92, 93, 94, 95, 96, 97, 98, 99, 100, 101, 102, 103, 104, 105] (by decide +kernel) (by decide +kernel)
set_option maxRecDepth 20000 in
theorem gX10_wins_X10_hasCity : GoodIn wsX10_wins (wsV RX10 163 RX10 yX10_hasCity wsX10_hasCity) := goodIn_app (goodIn_of _ (by decide +kernel)) ggX10_wins_X10_hasCity
theorem dX10_wins_1 : decode cX10_wins 1 = .ok (.invokevirtual 163, 3) := by decide +kernel
theorem dX10_wins_4 : decode cX10_wins 4 = .ok (.ifCond .eq 27, 3) := by decide +kernel
theorem dX10_wins_31 : decode cX10_wins 31 = .ok (.sipush (-10000), 3) := by decide +kernel
theorem dX10_wins_34 : decode cX10_wins 34 = .ok (.ireturn, 1) := by decide +kernel
theorem dX10_ransomed_0 : decode cX10_ransomed 0 = .ok (.aload_n 0, 1) := by decide +kernel
theorem dX10_ransomed_1 : decode cX10_ransomed 1 = .ok (.iload_n 1, 1) := by decide +kernel
set_option maxRecDepth 20000 in
theorem ggX10_ransomed_X10_isPerson : GoodIn wsX10_ransomed wsX10_isPerson := goodIn_r _ [6, 1, 7, 8, 9, 10, 11, 12, 13, 14, 42, 43, 44, 45, 46, 47, 48, 49, 50, 51, 52, 53, 54, 55, 56, 57, 58, 59, 60, 61, 62, 63, 64, 65, 66] (by decide +kernel) (by decide +kernel)
set_option maxRecDepth 20000 in
theorem gX10_ransomed_X10_isPerson : GoodIn wsX10_ransomed (wsV RX10 124 RX10 yX10_isPerson wsX10_isPerson) := goodIn_app (goodIn_of _ (by decide +kernel)) ggX10_ransomed_X10_isPerson
theorem dX10_ransomed_2 : decode cX10_ransomed 2 = .ok (.invokevirtual 124, 3) := by decide +kernel
theorem dX10_ransomed_5 : decode cX10_ransomed 5 = .ok (.ifCond .eq 11, 3) := by decide +kernel
theorem dX10_ransomed_16 : decode cX10_ransomed 16 = .ok (.bipush (-2), 2) := by decide +kernel
theorem dX10_ransomed_18 : decode cX10_ransomed 18 = .ok (.ireturn, 1) := by decide +kernel
theorem dX10_ransom_0 : decode cX10_ransom 0 = .ok (.aload_n 0, 1) := by decide +kernel
theorem dX10_ransom_1 : decode cX10_ransom 1 = .ok (.iload_n 1, 1) := by decide +kernel
theorem dX10_ransom_2 : decode cX10_ransom 2 = .ok (.iload_n 2, 1) := by decide +kernel
set_option maxRecDepth 20000 in
theorem ggX10_ransom_X10_ransomed : GoodIn wsX10_ransom wsX10_ransomed := goodIn_r _ [7, 1, 8, 9, 10, 6, 11, 12, 13, 14, 15, 16, 17, 18, 19, 20, 21, 22, 23, 24, 25, 26, 27, 28, 29, 30, 31, 32, 33, 34, 35, 36, 37, 38, 39, 40, 41, 42, 43, 44, 45, 46, 48, 49, 50, 51, 52, 53, 54, 55, 56, 57, 58, 59, 60, 61, 62, 63, 64, 65, 66, 67, 68, 69, 70, 71, 72, 73, 74, 75, 76, 77, 78, 79] (by decide +kernel) (by decide +kernel)
set_option maxRecDepth 20000 in
theorem gX10_ransom_X10_ransomed : GoodIn wsX10_ransom (wsV RX10 342 RX10 yX10_ransomed wsX10_ransomed) := goodIn_app (goodIn_of _ (by decide +kernel)) ggX10_ransom_X10_ransomed
theorem dX10_ransom_3 : decode cX10_ransom 3 = .ok (.invokevirtual 342, 3) := by decide +kernel
theorem dX10_ransom_6 : decode cX10_ransom 6 = .ok (.istore_n 3, 1) := by decide +kernel
theorem dX10_ransom_7 : decode cX10_ransom 7 = .ok (.iload_n 3, 1) := by decide +kernel
theorem dX10_ransom_8 : decode cX10_ransom 8 = .ok (.ifCond .ge 7, 3) := by decide +kernel
theorem dX10_ransom_11 : decode cX10_ransom 11 = .ok (.iload_n 3, 1) := by decide +kernel
theorem dX10_ransom_12 : decode cX10_ransom 12 = .ok (.goto 14, 3) := by decide +kernel
theorem dX10_ransom_26 : decode cX10_ransom 26 = .ok (.ireturn, 1) := by decide +kernel
theorem dX10_power_0 : decode cX10_power 0 = .ok (.aload_n 0, 1) := by decide +kernel
theorem dX10_power_1 : decode cX10_power 1 = .ok (.iload_n 1, 1) := by decide +kernel
set_option maxRecDepth 20000 in
theorem ggX10_power_X10_isPerson : GoodIn wsX10_power wsX10_isPerson := goodIn_r _ [7, 1, 8, 9, 10, 11, 12, 13, 14, 15, 60, 61, 62, 63, 64, 65, 66, 67, 68, 69, 70, 71, 72, 73, 74, 75, 76, 77, 78, 79, 80, 81, 82, 83, 84] (by decide +kernel) (by decide +kernel)
set_option maxRecDepth 20000 in
theorem gX10_power_X10_isPerson : GoodIn wsX10_power (wsV RX10 124 RX10 yX10_isPerson wsX10_isPerson) := goodIn_app (goodIn_of _ (by decide +kernel)) ggX10_power_X10_isPerson
theorem dX10_power_2 : decode cX10_power 2 = .ok (.invokevirtual 124, 3) := by decide +kernel
theorem dX10_power_5 : decode cX10_power 5 = .ok (.ifCond .eq 21, 3) := by decide +kernel
theorem dX10_power_26 : decode cX10_power 26 = .ok (.bipush (-2), 2) := by decide +kernel
theorem dX10_power_28 : decode cX10_power 28 = .ok (.ireturn, 1) := by decide +kernel
theorem dX10_mighty_0 : decode cX10_mighty 0 = .ok (.aload_n 0, 1) := by decide +kernel
set_option maxRecDepth 20000 in
theorem ggX10_mighty_X10_hasCity : GoodIn wsX10_mighty wsX10_hasCity := goodIn_r _ [8, 2, 3, 9, 63, 64, 65, 66, 67, 68, 69, 70, 71, 72, 73, 74, 75, 76, 77, 78, 79, 80, 81, 82, 83, 84] (by decide +kernel) (by decide +kernel)
set_option maxRecDepth 20000 in
theorem gX10_mighty_X10_hasCity : GoodIn wsX10_mighty (wsV RX10 163 RX10 yX10_hasCity wsX10_hasCity) := goodIn_app (goodIn_of _ (by decide +kernel)) ggX10_mighty_X10_hasCity
theorem dX10_mighty_1 : decode cX10_mighty 1 = .ok (.invokevirtual 163, 3) := by decide +kernel
theorem dX10_mighty_4 : decode cX10_mighty 4 = .ok (.ifCond .ne 6, 3) := by decide +kernel
theorem dX10_mighty_7 : decode cX10_mighty 7 = .ok (.bipush (-2), 2) := by decide +kernel
theorem dX10_mighty_9 : decode cX10_mighty 9 = .ok (.ireturn, 1) := by decide +kernel
theorem dX10_covet_0 : decode cX10_covet 0 = .ok (.aload_n 0, 1) := by decide +kernel
theorem dX10_covet_1 : decode cX10_covet 1 = .ok (.iload_n 1, 1) := by decide +kernel
set_option maxRecDepth 20000 in
theorem ggX10_covet_X10_isPerson : GoodIn wsX10_covet wsX10_isPerson := goodIn_r _ [9, 1, 10, 11, 12, 13, 14, 15, 16, 17, 75, 76, 77, 78, 79, 80, 81, 82, 83, 84, 85, 86, 87, 88, 89, 92, 93, 94, 95, 96, 97, 98, 99, 90, 91] (by decide +kernel) (by decide +kernel)
set_option maxRecDepth 20000 in
theorem gX10_covet_X10_isPerson : GoodIn wsX10_covet (wsV RX10 124 RX10 yX10_isPerson wsX10_isPerson) := goodIn_app (goodIn_of _ (by decide +kernel)) ggX10_covet_X10_isPerson
theorem dX10_covet_2 : decode cX10_covet 2 = .ok (.invokevirtual 124, 3) := by decide +kernel
theorem dX10_covet_5 : decode cX10_covet 5 = .ok (.ifCond .ne 6, 3) := by decide +kernel
theorem dX10_covet_8 : decode cX10_covet 8 = .ok (.bipush (-2), 2) := by decide +kernel
theorem dX10_covet_10 : decode cX10_covet 10 = .ok (.ireturn, 1) := by decide +kernel
theorem dX10_judge_0 : decode cX10_judge 0 = .ok (.aload_n 0, 1) := by decide +kernel
theorem dX10_judge_1 : decode cX10_judge 1 = .ok (.iload_n 1, 1) := by decide +kernel
set_option maxRecDepth 20000 in
theorem ggX10_judge_X10_askingRowState : GoodIn wsX10_judge wsX10_askingRowState := goodIn_r _ [5, 6, 7, 8, 9, 4, 10, 11, 12, 13, 14, 15, 16, 17, 18, 19, 20, 21, 22, 23, 24, 25, 26, 27, 28, 29, 30, 31, 32, 33, 34, 35, 36, 37, 38, 39, 40, 41, 42, 43, 44, 45, 46, 47, 48, 49, 50, 51, 52, 53, 54, 55, 56, 57, 58, 59, 60, 61, 62, 63, 138, 139, 140, 141, 142, 143, 144, 145, 146, 147, 148, 149, 150, 151, 152, 153, 154, 155, 156, 157, 158, 159, 160, 161, 162, 163, 164, 165, 166, 167, 168, 169, 170, 171, 172, 173] (by decide +kernel) (by decide +kernel)
set_option maxRecDepth 20000 in
theorem gX10_judge_X10_askingRowState : GoodIn wsX10_judge (wsV RX10 360 RX10 yX10_askingRowState wsX10_askingRowState) := goodIn_app (goodIn_of _ (by decide +kernel)) ggX10_judge_X10_askingRowState
theorem dX10_judge_2 : decode cX10_judge 2 = .ok (.invokevirtual 360, 3) := by decide +kernel
theorem dX10_judge_5 : decode cX10_judge 5 = .ok (.istore_n 2, 1) := by decide +kernel
theorem dX10_judge_6 : decode cX10_judge 6 = .ok (.iload_n 2, 1) := by decide +kernel
theorem dX10_judge_7 : decode cX10_judge 7 = .ok (.ifCond .eq 7, 3) := by decide +kernel
theorem dX10_judge_10 : decode cX10_judge 10 = .ok (.iload_n 2, 1) := by decide +kernel
theorem dX10_judge_11 : decode cX10_judge 11 = .ok (.goto 8, 3) := by decide +kernel
theorem dX10_judge_19 : decode cX10_judge 19 = .ok (.ireturn, 1) := by decide +kernel
theorem dX10_freed_0 : decode cX10_freed 0 = .ok (.aload_n 0, 1) := by decide +kernel
theorem dX10_freed_1 : decode cX10_freed 1 = .ok (.iload_n 1, 1) := by decide +kernel
set_option maxRecDepth 20000 in
theorem ggX10_freed_X10_askingRowState : GoodIn wsX10_freed wsX10_askingRowState := goodIn_r _ [7, 8, 9, 10, 11, 6, 12, 13, 14, 15, 16, 17, 18, 19, 20, 21, 22, 23, 24, 25, 26, 27, 28, 29, 30, 31, 32, 33, 34, 35, 36, 37, 38, 39, 40, 41, 42, 43, 44, 45, 46, 47, 48, 49, 50, 51, 52, 53, 54, 55, 56, 57, 58, 59, 60, 61, 62, 63, 2, 64, 147, 148, 149, 150, 151, 152, 153, 154, 155, 156, 157, 166, 167, 168, 169, 170, 171, 172, 173, 174, 175, 176, 177, 178, 179, 180, 181, 182, 158, 159, 160, 161, 162, 163, 164, 165] (by decide +kernel) (by decide +kernel)
set_option maxRecDepth 20000 in
theorem gX10_freed_X10_askingRowState : GoodIn wsX10_freed (wsV RX10 360 RX10 yX10_askingRowState wsX10_askingRowState) := goodIn_app (goodIn_of _ (by decide +kernel)) ggX10_freed_X10_askingRowState
theorem dX10_freed_2 : decode cX10_freed 2 = .ok (.invokevirtual 360, 3) := by decide +kernel
theorem dX10_freed_5 : decode cX10_freed 5 = .ok (.istore_n 2, 1) := by decide +kernel
theorem dX10_freed_6 : decode cX10_freed 6 = .ok (.iload_n 2, 1) := by decide +kernel
theorem dX10_freed_7 : decode cX10_freed 7 = .ok (.ifCond .eq 5, 3) := by decide +kernel
theorem dX10_freed_10 : decode cX10_freed 10 = .ok (.iload_n 2, 1) := by decide +kernel
theorem dX10_freed_11 : decode cX10_freed 11 = .ok (.ireturn, 1) := by decide +kernel
theorem dX10_drawn_0 : decode cX10_drawn 0 = .ok (.iload_n 1, 1) := by decide +kernel
set_option maxRecDepth 20000 in
theorem ggX10_drawn_X10_isSeed : GoodIn wsX10_drawn wsX10_isSeed := goodIn_r _ [7, 8] (by decide +kernel) (by decide +kernel)
set_option maxRecDepth 20000 in
theorem gX10_drawn_X10_isSeed : GoodIn wsX10_drawn (va_wsS RX10 368 yX10_isSeed wsX10_isSeed) := goodIn_app (goodIn_of _ (by decide +kernel)) ggX10_drawn_X10_isSeed
theorem dX10_drawn_1 : decode cX10_drawn 1 = .ok (.invokestatic 368, 3) := by decide +kernel
theorem dX10_drawn_4 : decode cX10_drawn 4 = .ok (.ifCond .eq 11, 3) := by decide +kernel
theorem dX10_drawn_15 : decode cX10_drawn 15 = .ok (.bipush (-2), 2) := by decide +kernel
theorem dX10_drawn_17 : decode cX10_drawn 17 = .ok (.ireturn, 1) := by decide +kernel
theorem dX10_drawn_7 : decode cX10_drawn 7 = .ok (.aload_n 0, 1) := by decide +kernel
theorem dX10_drawn_8 : decode cX10_drawn 8 = .ok (.iload_n 2, 1) := by decide +kernel
set_option maxRecDepth 20000 in
theorem ggX10_drawn_X10_isPerson : GoodIn wsX10_drawn wsX10_isPerson := goodIn_r _ [12, 13, 14, 15, 16, 17, 18, 19, 20, 21, 57, 58, 59, 60, 61, 62, 63, 64, 65, 66, 67, 73, 74, 75, 76, 77, 78, 79, 80, 81, 82, 83, 84, 68, 69] (by decide +kernel) (by decide +kernel)
set_option maxRecDepth 20000 in
theorem gX10_drawn_X10_isPerson : GoodIn wsX10_drawn (wsV RX10 124 RX10 yX10_isPerson wsX10_isPerson) := goodIn_app (goodIn_of _ (by decide +kernel)) ggX10_drawn_X10_isPerson
theorem dX10_drawn_9 : decode cX10_drawn 9 = .ok (.invokevirtual 124, 3) := by decide +kernel
theorem dX10_drawn_12 : decode cX10_drawn 12 = .ok (.ifCond .ne 6, 3) := by decide +kernel
theorem dX10_luck_0 : decode cX10_luck 0 = .ok (.iload_n 1, 1) := by decide +kernel
set_option maxRecDepth 20000 in
theorem ggX10_luck_X10_isSeed : GoodIn wsX10_luck wsX10_isSeed := goodIn_r _ [7, 8] (by decide +kernel) (by decide +kernel)
set_option maxRecDepth 20000 in
theorem gX10_luck_X10_isSeed : GoodIn wsX10_luck (va_wsS RX10 368 yX10_isSeed wsX10_isSeed) := goodIn_app (goodIn_of _ (by decide +kernel)) ggX10_luck_X10_isSeed
theorem dX10_luck_1 : decode cX10_luck 1 = .ok (.invokestatic 368, 3) := by decide +kernel
theorem dX10_luck_4 : decode cX10_luck 4 = .ok (.ifCond .eq 18, 3) := by decide +kernel
theorem dX10_luck_22 : decode cX10_luck 22 = .ok (.bipush (-2), 2) := by decide +kernel
theorem dX10_luck_24 : decode cX10_luck 24 = .ok (.ireturn, 1) := by decide +kernel
theorem dX10_luck_7 : decode cX10_luck 7 = .ok (.iload_n 2, 1) := by decide +kernel
set_option maxRecDepth 20000 in
theorem ggX10_luck_X10_isSquareNumber : GoodIn wsX10_luck wsX10_isSquareNumber := goodIn_r _ [11] (by decide +kernel) (by decide +kernel)
set_option maxRecDepth 20000 in
theorem gX10_luck_X10_isSquareNumber : GoodIn wsX10_luck (va_wsS RX10 377 yX10_isSquareNumber wsX10_isSquareNumber) := goodIn_app (goodIn_of _ (by decide +kernel)) ggX10_luck_X10_isSquareNumber
theorem dX10_luck_8 : decode cX10_luck 8 = .ok (.invokestatic 377, 3) := by decide +kernel
theorem dX10_luck_11 : decode cX10_luck 11 = .ok (.ifCond .eq 11, 3) := by decide +kernel
theorem dX10_luck_14 : decode cX10_luck 14 = .ok (.aload_n 0, 1) := by decide +kernel
theorem dX10_luck_15 : decode cX10_luck 15 = .ok (.iload_n 3, 1) := by decide +kernel
set_option maxRecDepth 20000 in
theorem ggX10_luck_X10_isPerson : GoodIn wsX10_luck wsX10_isPerson := goodIn_r _ [15, 16, 17, 18, 19, 20, 21, 22, 23, 24, 60, 61, 62, 63, 64, 65, 66, 67, 68, 69, 70, 76, 77, 78, 79, 80, 81, 82, 83, 84, 85, 86, 87, 71, 72] (by decide +kernel) (by decide +kernel)
set_option maxRecDepth 20000 in
theorem gX10_luck_X10_isPerson : GoodIn wsX10_luck (wsV RX10 124 RX10 yX10_isPerson wsX10_isPerson) := goodIn_app (goodIn_of _ (by decide +kernel)) ggX10_luck_X10_isPerson
theorem dX10_luck_16 : decode cX10_luck 16 = .ok (.invokevirtual 124, 3) := by decide +kernel
theorem dX10_luck_19 : decode cX10_luck 19 = .ok (.ifCond .ne 6, 3) := by decide +kernel
theorem dX10_winds_0 : decode cX10_winds 0 = .ok (.aload_n 0, 1) := by decide +kernel
set_option maxRecDepth 20000 in
theorem ggX10_winds_X10_hasCity : GoodIn wsX10_winds wsX10_hasCity := goodIn_r _ [8, 9, 10, 11, 80, 81, 82, 83, 84, 85, 86, 87, 88, 89, 90, 96, 97, 98, 99, 100, 101, 102, 103, 104, 105, 106] (by decide +kernel) (by decide +kernel)
set_option maxRecDepth 20000 in
theorem gX10_winds_X10_hasCity : GoodIn wsX10_winds (wsV RX10 163 RX10 yX10_hasCity wsX10_hasCity) := goodIn_app (goodIn_of _ (by decide +kernel)) ggX10_winds_X10_hasCity
theorem dX10_winds_1 : decode cX10_winds 1 = .ok (.invokevirtual 163, 3) := by decide +kernel
theorem dX10_winds_4 : decode cX10_winds 4 = .ok (.ifCond .eq 17, 3) := by decide +kernel
theorem dX10_winds_21 : decode cX10_winds 21 = .ok (.bipush (-2), 2) := by decide +kernel
theorem dX10_winds_23 : decode cX10_winds 23 = .ok (.ireturn, 1) := by decide +kernel
theorem dX10_rate_0 : decode cX10_rate 0 = .ok (.aload_n 0, 1) := by decide +kernel
theorem dX10_rate_1 : decode cX10_rate 1 = .ok (.iload_n 1, 1) := by decide +kernel
set_option maxRecDepth 20000 in
theorem ggX10_rate_X10_isPerson : GoodIn wsX10_rate wsX10_isPerson := goodIn_r _ [9, 1, 10, 11, 12, 13, 14, 15, 16, 17, 26, 27, 28, 29, 30, 31, 32, 33, 34, 35, 36, 37, 38, 39, 40, 48, 49, 50, 51, 52, 53, 54, 55, 56, 57] (by decide +kernel) (by decide +kernel)
set_option maxRecDepth 20000 in
theorem gX10_rate_X10_isPerson : GoodIn wsX10_rate (wsV RX10 124 RX10 yX10_isPerson wsX10_isPerson) := goodIn_app (goodIn_of _ (by decide +kernel)) ggX10_rate_X10_isPerson
theorem dX10_rate_2 : decode cX10_rate 2 = .ok (.invokevirtual 124, 3) := by decide +kernel
theorem dX10_rate_5 : decode cX10_rate 5 = .ok (.ifCond .eq 15, 3) := by decide +kernel
theorem dX10_rate_20 : decode cX10_rate 20 = .ok (.bipush (-2), 2) := by decide +kernel
theorem dX10_rate_22 : decode cX10_rate 22 = .ok (.ireturn, 1) := by decide +kernel
theorem dX10_forge_0 : decode cX10_forge 0 = .ok (.aload_n 0, 1) := by decide +kernel
theorem dX10_forge_1 : decode cX10_forge 1 = .ok (.iload_n 1, 1) := by decide +kernel
set_option maxRecDepth 20000 in
theorem ggX10_forge_X10_isPerson : GoodIn wsX10_forge wsX10_isPerson := goodIn_r _ [9, 1, 10, 11, 12, 13, 14, 15, 16, 17, 26, 27, 28, 29, 30, 31, 32, 33, 34, 35, 36, 37, 38, 39, 40, 48, 49, 50, 51, 52, 53, 54, 55, 56, 57] (by decide +kernel) (by decide +kernel)
set_option maxRecDepth 20000 in
theorem gX10_forge_X10_isPerson : GoodIn wsX10_forge (wsV RX10 124 RX10 yX10_isPerson wsX10_isPerson) := goodIn_app (goodIn_of _ (by decide +kernel)) ggX10_forge_X10_isPerson
theorem dX10_forge_2 : decode cX10_forge 2 = .ok (.invokevirtual 124, 3) := by decide +kernel
theorem dX10_forge_5 : decode cX10_forge 5 = .ok (.ifCond .eq 12, 3) := by decide +kernel
theorem dX10_forge_17 : decode cX10_forge 17 = .ok (.bipush (-2), 2) := by decide +kernel
theorem dX10_forge_19 : decode cX10_forge 19 = .ok (.ireturn, 1) := by decide +kernel
set_option maxHeartbeats 4000000 in
set_option maxRecDepth 100000 in
theorem c_X10_isPerson (l : Launch) (G : va_G) (ct : Nat → ClassId) (a : Nat → Nat) (rr : Nat → Nat) (p0 : Int32)  : Met l yX10_isPerson wsX10_isPerson ({ frames := 1, cells := 0, slots := 0, locals := 21 }) (va_Pc [.ref (a 0), .int p0] (roP G ct (xF a rr ct))) (roQ (fun r => r = 0)) 0 0 no := by
  refine Met.ofW (cc := cX10_isPerson) (maxL := 2) (ret := (some .boolean)) (by decide) rfl ?_
  intro p e s m args below meth c s₁ B hml hv
  obtain ⟨rfl, hP, hK⟩ := hv
  have hx := B.exec
  have hb := B.bytes
  have hr := B.returns
  have hts := atoms_spec (ws := wsX10_isPerson) B.pre
  have hown : s.vm.findClass RX10 = some m.cls := findClass_of_methodNamed B.named
  have hlocks := B.notSynchronized
  have hS : va_S no s.heap s.heap [] := va_S.rf
  have hl := lv_entry ([.ref (a 0), .int p0]) (n := 2) (Nat.le_of_ble_eq_true rfl)
  rw [lg_entry_eq]
  generalize (lg_sl ([.ref (a 0), .int p0]) ++ List.replicate (2 - (lg_sl ([.ref (a 0), .int p0])).length) Slot.unset).toArray = ls at hl ⊢
  have hl : lv_has ls 2 [(0, .ref (a 0)), (1, .int p0)] := hl
  refine lv_aload_n hx hb dX10_isPerson_0 rfl (lv_at hl 0 rfl) ?_
  refine va_get (D := G) (ci := 10) (v := .ref (a 11)) (C := RX10) (T := TX10) (N := 11) hx hb hts (by decide +kernel) hown hK.1 hP 0 rfl rfl 2 (by decide) (hts (.fieldLink RX10 28 "CardHolder" "play" "LCardHolder$Play;") (by decide +kernel)) (fun _ h9 => h9) rfl dX10_isPerson_1 ?_
  refine va_get (D := G) (ci := 4) (v := .ref (a 19)) (C := RX4) (T := TX4) (N := 4) hx hb hts (by decide +kernel) hown hK.1 hP 11 rfl rfl 1 (by decide) (hts (.fieldLink RX10 147 "CardHolder$Play" "hands" "LCardHolder$Hands;") (by decide +kernel)) (fun _ h9 => h9) rfl dX10_isPerson_4 ?_
  refine va_get (D := G) (ci := 2) (v := .ref (a 20)) (C := RX2) (T := TX2) (N := 8) hx hb hts (by decide +kernel) hown hK.1 hP 19 rfl rfl 1 (by decide) (hts (.fieldLink RX10 366 "CardHolder$Hands" "bonds" "LCardHolder$Bonds;") (by decide +kernel)) (fun _ h9 => h9) rfl dX10_isPerson_7 ?_
  refine lv_iload_n hx hb dX10_isPerson_10 rfl (lv_at hl 1 rfl) ?_
  refine ro_calli (va_runV (As := [.int p0]) (rest := []) ⟨hx, hb, hml, hown, hts⟩ (c_X0_has l G ct (a 20) (a 21) 0 p0) (cwV 1 hts gX10_isPerson_X0_has rfl rfl rfl (by decide +kernel) ⟨Nat.le_of_ble_eq_true rfl, Nat.le_of_ble_eq_true rfl⟩) (ro_preV 0 0 hK (hP.sub [20] rfl) rfl rfl) rfl rfl hl.1 rfl (lv_room (Nat.le_of_ble_eq_true rfl)) dX10_isPerson_11 ⟨Nat.zero_le _, Nat.zero_le _⟩) hS hP (fun r_1 H locs wr_1 hP hS => ?_)
  obtain rfl := has_0 wr_1
  exact W.zret (v := 0) (ty := .boolean) hx hb hr (rfl) (fun t ht hW => ⟨⟨0, (), rfl, rfl, trivial⟩, hS.F ht⟩) hS.2.2 dX10_isPerson_14

set_option maxHeartbeats 4000000 in
set_option maxRecDepth 100000 in
theorem c_X10_hasCity (l : Launch) (G : va_G) (ct : Nat → ClassId) (a : Nat → Nat) (rr : Nat → Nat)  : Met l yX10_hasCity wsX10_hasCity ({ frames := 0, cells := 0, slots := 0, locals := 0 }) (va_Pc [.ref (a 0)] (roP G ct (xF a rr ct))) (roQ (fun r => r = 0)) 0 0 no := by
  refine Met.ofW (cc := cX10_hasCity) (maxL := 1) (ret := (some .boolean)) (by decide) rfl ?_
  intro p e s m args below meth c s₁ B hml hv
  obtain ⟨rfl, hP, hK⟩ := hv
  have hx := B.exec
  have hb := B.bytes
  have hr := B.returns
  have hts := atoms_spec (ws := wsX10_hasCity) B.pre
  have hown : s.vm.findClass RX10 = some m.cls := findClass_of_methodNamed B.named
  have hlocks := B.notSynchronized
  have hS : va_S no s.heap s.heap [] := va_S.rf
  have hl := lv_entry ([.ref (a 0)]) (n := 1) (Nat.le_of_ble_eq_true rfl)
  rw [lg_entry_eq]
  generalize (lg_sl ([.ref (a 0)]) ++ List.replicate (1 - (lg_sl ([.ref (a 0)])).length) Slot.unset).toArray = ls at hl ⊢
  have hl : lv_has ls 1 [(0, .ref (a 0))] := hl
  refine lv_aload_n hx hb dX10_hasCity_0 rfl (lv_at hl 0 rfl) ?_
  refine va_get (D := G) (ci := 10) (v := .ref (a 11)) (C := RX10) (T := TX10) (N := 11) hx hb hts (by decide +kernel) hown hK.1 hP 0 rfl rfl 2 (by decide) (hts (.fieldLink RX10 28 "CardHolder" "play" "LCardHolder$Play;") (by decide +kernel)) (fun _ h9 => h9) rfl dX10_hasCity_1 ?_
  refine va_get (D := G) (ci := 4) (v := .ref (a 12)) (C := RX4) (T := TX4) (N := 4) hx hb hts (by decide +kernel) hown hK.1 hP 11 rfl rfl 0 (by decide) (hts (.fieldLink RX10 49 "CardHolder$Play" "town" "LCardHolder$Town;") (by decide +kernel)) (fun _ h9 => h9) rfl dX10_hasCity_4 ?_
  refine va_get (D := G) (ci := 9) (v := .int 0) (C := RX9) (T := TX9) (N := 7) hx hb hts (by decide +kernel) hown hK.1 hP 12 rfl rfl 5 (by decide) (hts (.fieldLink RX10 113 "CardHolder$Town" "lines" "I") (by decide +kernel)) (fun _ h9 => h9) rfl dX10_hasCity_7 ?_
  refine lv_if_le (tgt := 17) hx hb dX10_hasCity_10 (by decide) (fun c_1 => ?_) (fun c_1 => ?_)
  · refine lv_iconst (v := 0) hx hb dX10_hasCity_17 (by decide) ?_
    exact W.zret (v := 0) (ty := .boolean) hx hb hr (rfl) (fun t ht hW => ⟨⟨0, (), rfl, rfl, trivial⟩, hS.F ht⟩) hS.2.2 dX10_hasCity_18
  · exact absurd c_1 (by decide)

set_option maxHeartbeats 4000000 in
set_option maxRecDepth 100000 in
theorem c_X10_free (l : Launch) (G : va_G) (ct : Nat → ClassId) (a : Nat → Nat) (rr : Nat → Nat)  : Met l yX10_free wsX10_free ({ frames := 4, cells := 0, slots := 0, locals := 85 }) (va_Pc [.ref (a 0)] (roP G ct (xF a rr ct))) (roQ (fun r => r = (-2))) 0 0 no := by
  refine Met.ofW (cc := cX10_free) (maxL := 1) (ret := (some .int)) (by decide) rfl ?_
  intro p e s m args below meth c s₁ B hml hv
  obtain ⟨rfl, hP, hK⟩ := hv
  have hx := B.exec
  have hb := B.bytes
  have hr := B.returns
  have hts := atoms_spec (ws := wsX10_free) B.pre
  have hown : s.vm.findClass RX10 = some m.cls := findClass_of_methodNamed B.named
  have hlocks := B.notSynchronized
  have hS : va_S no s.heap s.heap [] := va_S.rf
  have hl := lv_entry ([.ref (a 0)]) (n := 1) (Nat.le_of_ble_eq_true rfl)
  rw [lg_entry_eq]
  generalize (lg_sl ([.ref (a 0)]) ++ List.replicate (1 - (lg_sl ([.ref (a 0)])).length) Slot.unset).toArray = ls at hl ⊢
  have hl : lv_has ls 1 [(0, .ref (a 0))] := hl
  refine lv_aload_n hx hb dX10_free_0 rfl (lv_at hl 0 rfl) ?_
  refine ro_calli (va_runV (As := []) (rest := []) ⟨hx, hb, hml, hown, hts⟩ (c_X10_hasCity l G ct a rr) (cwV 0 hts gX10_free_X10_hasCity rfl rfl rfl (by decide +kernel) ⟨Nat.le_of_ble_eq_true rfl, Nat.le_of_ble_eq_true rfl⟩) (ro_preV 10 0 hK hP rfl rfl) rfl rfl hl.1 rfl (lv_room (Nat.le_of_ble_eq_true rfl)) dX10_free_1 ⟨Nat.zero_le _, Nat.zero_le _⟩) hS hP (fun r_1 H locs wr_1 hP hS => ?_)
  obtain rfl := wr_1
  refine lv_if_eq (tgt := 17) hx hb dX10_free_4 (by decide) (fun c_2 => ?_) (fun c_2 => ?_)
  · refine lv_bipush (v := (-2)) hx hb dX10_free_17 (by decide) ?_
    exact W.iret (v := (-2)) hx hb hr (fun t ht hW => ⟨⟨(-2), (), rfl, rfl, trivial⟩, hS.F ht⟩) hS.2.2 dX10_free_19
  · exact absurd c_2 (by decide)

set_option maxHeartbeats 4000000 in
set_option maxRecDepth 100000 in
theorem c_X10_under (l : Launch) (G : va_G) (ct : Nat → ClassId) (a : Nat → Nat) (rr : Nat → Nat) (p0 : Int32)  : Met l yX10_under wsX10_under ({ frames := 4, cells := 0, slots := 0, locals := 89 }) (va_Pc [.ref (a 0), .int p0] (roP G ct (xF a rr ct))) (roQ (fun r => r = (-2))) 0 0 no := by
  refine Met.ofW (cc := cX10_under) (maxL := 2) (ret := (some .int)) (by decide) rfl ?_
  intro p e s m args below meth c s₁ B hml hv
  obtain ⟨rfl, hP, hK⟩ := hv
  have hx := B.exec
  have hb := B.bytes
  have hr := B.returns
  have hts := atoms_spec (ws := wsX10_under) B.pre
  have hown : s.vm.findClass RX10 = some m.cls := findClass_of_methodNamed B.named
  have hlocks := B.notSynchronized
  have hS : va_S no s.heap s.heap [] := va_S.rf
  have hl := lv_entry ([.ref (a 0), .int p0]) (n := 2) (Nat.le_of_ble_eq_true rfl)
  rw [lg_entry_eq]
  generalize (lg_sl ([.ref (a 0), .int p0]) ++ List.replicate (2 - (lg_sl ([.ref (a 0), .int p0])).length) Slot.unset).toArray = ls at hl ⊢
  have hl : lv_has ls 2 [(0, .ref (a 0)), (1, .int p0)] := hl
  refine lv_aload_n hx hb dX10_under_0 rfl (lv_at hl 0 rfl) ?_
  refine lv_iload_n hx hb dX10_under_1 rfl (lv_at hl 1 rfl) ?_
  refine ro_calli (va_runV (As := [.int p0]) (rest := []) ⟨hx, hb, hml, hown, hts⟩ (c_X10_isPerson l G ct a rr p0) (cwV 1 hts gX10_under_X10_isPerson rfl rfl rfl (by decide +kernel) ⟨Nat.le_of_ble_eq_true rfl, Nat.le_of_ble_eq_true rfl⟩) (ro_preV 10 0 hK hP rfl rfl) rfl rfl hl.1 rfl (lv_room (Nat.le_of_ble_eq_true rfl)) dX10_under_2 ⟨Nat.zero_le _, Nat.zero_le _⟩) hS hP (fun r_1 H locs wr_1 hP hS => ?_)
  obtain rfl := wr_1
  refine lv_if_eq (tgt := 19) hx hb dX10_under_5 (by decide) (fun c_2 => ?_) (fun c_2 => ?_)
  · refine lv_bipush (v := (-2)) hx hb dX10_under_19 (by decide) ?_
    exact W.iret (v := (-2)) hx hb hr (fun t ht hW => ⟨⟨(-2), (), rfl, rfl, trivial⟩, hS.F ht⟩) hS.2.2 dX10_under_21
  · exact absurd c_2 (by decide)

set_option maxHeartbeats 4000000 in
set_option maxRecDepth 100000 in
theorem c_X10_time (l : Launch) (G : va_G) (ct : Nat → ClassId) (a : Nat → Nat) (rr : Nat → Nat) (p0 : Int32) (p1 : Int32)  : Met l yX10_time wsX10_time ({ frames := 4, cells := 0, slots := 0, locals := 92 }) (va_Pc [.ref (a 0), .int p0, .int p1] (roP G ct (xF a rr ct))) (roQ (fun r => r = (-2))) 0 0 no := by
  refine Met.ofW (cc := cX10_time) (maxL := 3) (ret := (some .int)) (by decide) rfl ?_
  intro p e s m args below meth c s₁ B hml hv
  obtain ⟨rfl, hP, hK⟩ := hv
  have hx := B.exec
  have hb := B.bytes
  have hr := B.returns
  have hts := atoms_spec (ws := wsX10_time) B.pre
  have hown : s.vm.findClass RX10 = some m.cls := findClass_of_methodNamed B.named
  have hlocks := B.notSynchronized
  have hS : va_S no s.heap s.heap [] := va_S.rf
  have hl := lv_entry ([.ref (a 0), .int p0, .int p1]) (n := 3) (Nat.le_of_ble_eq_true rfl)
  rw [lg_entry_eq]
  generalize (lg_sl ([.ref (a 0), .int p0, .int p1]) ++ List.replicate (3 - (lg_sl ([.ref (a 0), .int p0, .int p1])).length) Slot.unset).toArray = ls at hl ⊢
  have hl : lv_has ls 3 [(0, .ref (a 0)), (1, .int p0), (2, .int p1)] := hl
  refine lv_aload_n hx hb dX10_time_0 rfl (lv_at hl 0 rfl) ?_
  refine lv_iload_n hx hb dX10_time_1 rfl (lv_at hl 1 rfl) ?_
  refine ro_calli (va_runV (As := [.int p0]) (rest := []) ⟨hx, hb, hml, hown, hts⟩ (c_X10_isPerson l G ct a rr p0) (cwV 1 hts gX10_time_X10_isPerson rfl rfl rfl (by decide +kernel) ⟨Nat.le_of_ble_eq_true rfl, Nat.le_of_ble_eq_true rfl⟩) (ro_preV 10 0 hK hP rfl rfl) rfl rfl hl.1 rfl (lv_room (Nat.le_of_ble_eq_true rfl)) dX10_time_2 ⟨Nat.zero_le _, Nat.zero_le _⟩) hS hP (fun r_1 H locs wr_1 hP hS => ?_)
  obtain rfl := wr_1
  refine lv_if_eq (tgt := 16) hx hb dX10_time_5 (by decide) (fun c_2 => ?_) (fun c_2 => ?_)
  · refine lv_bipush (v := (-2)) hx hb dX10_time_16 (by decide) ?_
    exact W.iret (v := (-2)) hx hb hr (fun t ht hW => ⟨⟨(-2), (), rfl, rfl, trivial⟩, hS.F ht⟩) hS.2.2 dX10_time_18
  · exact absurd c_2 (by decide)

set_option maxHeartbeats 4000000 in
set_option maxRecDepth 100000 in
theorem c_X10_top (l : Launch) (G : va_G) (ct : Nat → ClassId) (a : Nat → Nat) (rr : Nat → Nat) (p0 : Int32)  : Met l yX10_top wsX10_top ({ frames := 3, cells := 0, slots := 0, locals := 66 }) (va_Pc [.ref (a 0), .int p0] (roP G ct (xF a rr ct))) (roQ (fun r => r = (-2))) 0 0 no := by
  refine Met.ofW (cc := cX10_top) (maxL := 2) (ret := (some .int)) (by decide) rfl ?_
  intro p e s m args below meth c s₁ B hml hv
  obtain ⟨rfl, hP, hK⟩ := hv
  have hx := B.exec
  have hb := B.bytes
  have hr := B.returns
  have hts := atoms_spec (ws := wsX10_top) B.pre
  have hown : s.vm.findClass RX10 = some m.cls := findClass_of_methodNamed B.named
  have hlocks := B.notSynchronized
  have hS : va_S no s.heap s.heap [] := va_S.rf
  have hl := lv_entry ([.ref (a 0), .int p0]) (n := 2) (Nat.le_of_ble_eq_true rfl)
  rw [lg_entry_eq]
  generalize (lg_sl ([.ref (a 0), .int p0]) ++ List.replicate (2 - (lg_sl ([.ref (a 0), .int p0])).length) Slot.unset).toArray = ls at hl ⊢
  have hl : lv_has ls 2 [(0, .ref (a 0)), (1, .int p0)] := hl
  refine lv_aload_n hx hb dX10_top_0 rfl (lv_at hl 0 rfl) ?_
  refine lv_iload_n hx hb dX10_top_1 rfl (lv_at hl 1 rfl) ?_
  refine ro_calli (va_runV (As := [.int p0]) (rest := []) ⟨hx, hb, hml, hown, hts⟩ (c_X10_isPerson l G ct a rr p0) (cwV 1 hts gX10_top_X10_isPerson rfl rfl rfl (by decide +kernel) ⟨Nat.le_of_ble_eq_true rfl, Nat.le_of_ble_eq_true rfl⟩) (ro_preV 10 0 hK hP rfl rfl) rfl rfl hl.1 rfl (lv_room (Nat.le_of_ble_eq_true rfl)) dX10_top_2 ⟨Nat.zero_le _, Nat.zero_le _⟩) hS hP (fun r_1 H locs wr_1 hP hS => ?_)
  obtain rfl := wr_1
  refine lv_if_eq (tgt := 19) hx hb dX10_top_5 (by decide) (fun c_2 => ?_) (fun c_2 => ?_)
  · refine lv_bipush (v := (-2)) hx hb dX10_top_19 (by decide) ?_
    exact W.iret (v := (-2)) hx hb hr (fun t ht hW => ⟨⟨(-2), (), rfl, rfl, trivial⟩, hS.F ht⟩) hS.2.2 dX10_top_21
  · exact absurd c_2 (by decide)

set_option maxHeartbeats 4000000 in
set_option maxRecDepth 100000 in
theorem c_X10_ring (l : Launch) (G : va_G) (ct : Nat → ClassId) (a : Nat → Nat) (rr : Nat → Nat) (p0 : Int32)  : Met l yX10_ring wsX10_ring ({ frames := 4, cells := 0, slots := 0, locals := 87 }) (va_Pc [.ref (a 0), .int p0] (roP G ct (xF a rr ct))) (roQ (fun r => r = (-2))) 0 0 no := by
  refine Met.ofW (cc := cX10_ring) (maxL := 2) (ret := (some .int)) (by decide) rfl ?_
  intro p e s m args below meth c s₁ B hml hv
  obtain ⟨rfl, hP, hK⟩ := hv
  have hx := B.exec
  have hb := B.bytes
  have hr := B.returns
  have hts := atoms_spec (ws := wsX10_ring) B.pre
  have hown : s.vm.findClass RX10 = some m.cls := findClass_of_methodNamed B.named
  have hlocks := B.notSynchronized
  have hS : va_S no s.heap s.heap [] := va_S.rf
  have hl := lv_entry ([.ref (a 0), .int p0]) (n := 2) (Nat.le_of_ble_eq_true rfl)
  rw [lg_entry_eq]
  generalize (lg_sl ([.ref (a 0), .int p0]) ++ List.replicate (2 - (lg_sl ([.ref (a 0), .int p0])).length) Slot.unset).toArray = ls at hl ⊢
  have hl : lv_has ls 2 [(0, .ref (a 0)), (1, .int p0)] := hl
  refine lv_aload_n hx hb dX10_ring_0 rfl (lv_at hl 0 rfl) ?_
  refine lv_iload_n hx hb dX10_ring_1 rfl (lv_at hl 1 rfl) ?_
  refine ro_calli (va_runV (As := [.int p0]) (rest := []) ⟨hx, hb, hml, hown, hts⟩ (c_X10_isPerson l G ct a rr p0) (cwV 1 hts gX10_ring_X10_isPerson rfl rfl rfl (by decide +kernel) ⟨Nat.le_of_ble_eq_true rfl, Nat.le_of_ble_eq_true rfl⟩) (ro_preV 10 0 hK hP rfl rfl) rfl rfl hl.1 rfl (lv_room (Nat.le_of_ble_eq_true rfl)) dX10_ring_2 ⟨Nat.zero_le _, Nat.zero_le _⟩) hS hP (fun r_1 H locs wr_1 hP hS => ?_)
  obtain rfl := wr_1
  refine lv_if_eq (tgt := 19) hx hb dX10_ring_5 (by decide) (fun c_2 => ?_) (fun c_2 => ?_)
  · refine lv_bipush (v := (-2)) hx hb dX10_ring_19 (by decide) ?_
    exact W.iret (v := (-2)) hx hb hr (fun t ht hW => ⟨⟨(-2), (), rfl, rfl, trivial⟩, hS.F ht⟩) hS.2.2 dX10_ring_21
  · exact absurd c_2 (by decide)

set_option maxHeartbeats 4000000 in
set_option maxRecDepth 100000 in
theorem c_X10_rings (l : Launch) (G : va_G) (ct : Nat → ClassId) (a : Nat → Nat) (rr : Nat → Nat)  : Met l yX10_rings wsX10_rings ({ frames := 6, cells := 0, slots := 0, locals := 133 }) (va_Pc [.ref (a 0)] (roP G ct (xF a rr ct))) (roQ (fun r => r = (-2))) 0 0 no := by
  refine Met.ofW (cc := cX10_rings) (maxL := 1) (ret := (some .int)) (by decide) rfl ?_
  intro p e s m args below meth c s₁ B hml hv
  obtain ⟨rfl, hP, hK⟩ := hv
  have hx := B.exec
  have hb := B.bytes
  have hr := B.returns
  have hts := atoms_spec (ws := wsX10_rings) B.pre
  have hown : s.vm.findClass RX10 = some m.cls := findClass_of_methodNamed B.named
  have hlocks := B.notSynchronized
  have hS : va_S no s.heap s.heap [] := va_S.rf
  have hl := lv_entry ([.ref (a 0)]) (n := 1) (Nat.le_of_ble_eq_true rfl)
  rw [lg_entry_eq]
  generalize (lg_sl ([.ref (a 0)]) ++ List.replicate (1 - (lg_sl ([.ref (a 0)])).length) Slot.unset).toArray = ls at hl ⊢
  have hl : lv_has ls 1 [(0, .ref (a 0))] := hl
  refine lv_aload_n hx hb dX10_rings_0 rfl (lv_at hl 0 rfl) ?_
  refine ro_calli (va_runV (As := []) (rest := []) ⟨hx, hb, hml, hown, hts⟩ (c_X10_hasCity l G ct a rr) (cwV 0 hts gX10_rings_X10_hasCity rfl rfl rfl (by decide +kernel) ⟨Nat.le_of_ble_eq_true rfl, Nat.le_of_ble_eq_true rfl⟩) (ro_preV 10 0 hK hP rfl rfl) rfl rfl hl.1 rfl (lv_room (Nat.le_of_ble_eq_true rfl)) dX10_rings_1 ⟨Nat.zero_le _, Nat.zero_le _⟩) hS hP (fun r_1 H locs wr_1 hP hS => ?_)
  obtain rfl := wr_1
  refine lv_if_eq (tgt := 17) hx hb dX10_rings_4 (by decide) (fun c_2 => ?_) (fun c_2 => ?_)
  · refine lv_bipush (v := (-2)) hx hb dX10_rings_17 (by decide) ?_
    exact W.iret (v := (-2)) hx hb hr (fun t ht hW => ⟨⟨(-2), (), rfl, rfl, trivial⟩, hS.F ht⟩) hS.2.2 dX10_rings_19
  · exact absurd c_2 (by decide)

set_option maxHeartbeats 4000000 in
set_option maxRecDepth 100000 in
theorem c_X10_doer (l : Launch) (G : va_G) (ct : Nat → ClassId) (a : Nat → Nat) (rr : Nat → Nat) (p0 : Int32) (p1 : Int32)  : Met l yX10_doer wsX10_doer ({ frames := 5, cells := 0, slots := 0, locals := 119 }) (va_Pc [.ref (a 0), .int p0, .int p1] (roP G ct (xF a rr ct))) (roQ (fun r => r = (-2))) 0 0 no := by
  refine Met.ofW (cc := cX10_doer) (maxL := 3) (ret := (some .int)) (by decide) rfl ?_
  intro p e s m args below meth c s₁ B hml hv
  obtain ⟨rfl, hP, hK⟩ := hv
  have hx := B.exec
  have hb := B.bytes
  have hr := B.returns
  have hts := atoms_spec (ws := wsX10_doer) B.pre
  have hown : s.vm.findClass RX10 = some m.cls := findClass_of_methodNamed B.named
  have hlocks := B.notSynchronized
  have hS : va_S no s.heap s.heap [] := va_S.rf
  have hl := lv_entry ([.ref (a 0), .int p0, .int p1]) (n := 3) (Nat.le_of_ble_eq_true rfl)
  rw [lg_entry_eq]
  generalize (lg_sl ([.ref (a 0), .int p0, .int p1]) ++ List.replicate (3 - (lg_sl ([.ref (a 0), .int p0, .int p1])).length) Slot.unset).toArray = ls at hl ⊢
  have hl : lv_has ls 3 [(0, .ref (a 0)), (1, .int p0), (2, .int p1)] := hl
  refine lv_aload_n hx hb dX10_doer_0 rfl (lv_at hl 0 rfl) ?_
  refine lv_iload_n hx hb dX10_doer_1 rfl (lv_at hl 1 rfl) ?_
  refine ro_calli (va_runV (As := [.int p0]) (rest := []) ⟨hx, hb, hml, hown, hts⟩ (c_X10_isPerson l G ct a rr p0) (cwV 1 hts gX10_doer_X10_isPerson rfl rfl rfl (by decide +kernel) ⟨Nat.le_of_ble_eq_true rfl, Nat.le_of_ble_eq_true rfl⟩) (ro_preV 10 0 hK hP rfl rfl) rfl rfl hl.1 rfl (lv_room (Nat.le_of_ble_eq_true rfl)) dX10_doer_2 ⟨Nat.zero_le _, Nat.zero_le _⟩) hS hP (fun r_1 H locs wr_1 hP hS => ?_)
  obtain rfl := wr_1
  refine lv_if_eq (tgt := 15) hx hb dX10_doer_5 (by decide) (fun c_2 => ?_) (fun c_2 => ?_)
  · refine lv_bipush (v := (-2)) hx hb dX10_doer_15 (by decide) ?_
    exact W.iret (v := (-2)) hx hb hr (fun t ht hW => ⟨⟨(-2), (), rfl, rfl, trivial⟩, hS.F ht⟩) hS.2.2 dX10_doer_17
  · exact absurd c_2 (by decide)

set_option maxHeartbeats 4000000 in
set_option maxRecDepth 100000 in
theorem c_X10_chain (l : Launch) (G : va_G) (ct : Nat → ClassId) (a : Nat → Nat) (rr : Nat → Nat) (p0 : Int32) (p1 : Int32)  : Met l yX10_chain wsX10_chain ({ frames := 6, cells := 0, slots := 0, locals := 141 }) (va_Pc [.ref (a 0), .int p0, .int p1] (roP G ct (xF a rr ct))) (roQ (fun r => r = (-2))) 0 0 no := by
  refine Met.ofW (cc := cX10_chain) (maxL := 4) (ret := (some .int)) (by decide) rfl ?_
  intro p e s m args below meth c s₁ B hml hv
  obtain ⟨rfl, hP, hK⟩ := hv
  have hx := B.exec
  have hb := B.bytes
  have hr := B.returns
  have hts := atoms_spec (ws := wsX10_chain) B.pre
  have hown : s.vm.findClass RX10 = some m.cls := findClass_of_methodNamed B.named
  have hlocks := B.notSynchronized
  have hS : va_S no s.heap s.heap [] := va_S.rf
  have hl := lv_entry ([.ref (a 0), .int p0, .int p1]) (n := 4) (Nat.le_of_ble_eq_true rfl)
  rw [lg_entry_eq]
  generalize (lg_sl ([.ref (a 0), .int p0, .int p1]) ++ List.replicate (4 - (lg_sl ([.ref (a 0), .int p0, .int p1])).length) Slot.unset).toArray = ls at hl ⊢
  have hl : lv_has ls 4 [(0, .ref (a 0)), (1, .int p0), (2, .int p1)] := hl
  refine lv_aload_n hx hb dX10_chain_0 rfl (lv_at hl 0 rfl) ?_
  refine lv_iload_n hx hb dX10_chain_1 rfl (lv_at hl 1 rfl) ?_
  refine lv_iload_n hx hb dX10_chain_2 rfl (lv_at hl 2 rfl) ?_
  refine ro_calli (va_runV (As := [.int p0, .int p1]) (rest := []) ⟨hx, hb, hml, hown, hts⟩ (c_X10_doer l G ct a rr p0 p1) (cwV 2 hts gX10_chain_X10_doer rfl rfl rfl (by decide +kernel) ⟨Nat.le_of_ble_eq_true rfl, Nat.le_of_ble_eq_true rfl⟩) (ro_preV 10 0 hK hP rfl rfl) rfl rfl hl.1 rfl (lv_room (Nat.le_of_ble_eq_true rfl)) dX10_chain_3 ⟨Nat.zero_le _, Nat.zero_le _⟩) hS hP (fun r_1 H locs wr_1 hP hS => ?_)
  obtain rfl := wr_1
  refine lv_istore_n (lv' := [(3, .int (-2)), (0, .ref (a 0)), (1, .int p0), (2, .int p1)]) hx hb dX10_chain_6 rfl hl (by decide) rfl (fun ls hl => ?_)
  refine lv_iload_n hx hb dX10_chain_7 rfl (lv_at hl 0 rfl) ?_
  refine lv_if_ge (tgt := 15) hx hb dX10_chain_8 (by decide) (fun c_2 => ?_) (fun c_2 => ?_)
  · exact absurd c_2 (by decide)
  · refine lv_iload_n hx hb dX10_chain_11 rfl (lv_at hl 0 rfl) ?_
    refine lv_goto (tgt := 24) hx hb dX10_chain_12 (by decide) ?_
    exact W.iret (v := (-2)) hx hb hr (fun t ht hW => ⟨⟨(-2), (), rfl, rfl, trivial⟩, hS.F ht⟩) hS.2.2 dX10_chain_24

set_option maxHeartbeats 4000000 in
set_option maxRecDepth 100000 in
theorem c_X10_asked (l : Launch) (G : va_G) (ct : Nat → ClassId) (a : Nat → Nat) (rr : Nat → Nat) (p0 : Int32) (p1 : Int32) (p2 : Int32)  : Met l yX10_asked wsX10_asked ({ frames := 6, cells := 0, slots := 0, locals := 141 }) (va_Pc [.ref (a 0), .int p0, .int p1, .int p2] (roP G ct (xF a rr ct))) (roQ (fun r => r = (-2))) 0 0 no := by
  refine Met.ofW (cc := cX10_asked) (maxL := 6) (ret := (some .int)) (by decide) rfl ?_
  intro p e s m args below meth c s₁ B hml hv
  obtain ⟨rfl, hP, hK⟩ := hv
  have hx := B.exec
  have hb := B.bytes
  have hr := B.returns
  have hts := atoms_spec (ws := wsX10_asked) B.pre
  have hown : s.vm.findClass RX10 = some m.cls := findClass_of_methodNamed B.named
  have hlocks := B.notSynchronized
  have hS : va_S no s.heap s.heap [] := va_S.rf
  have hl := lv_entry ([.ref (a 0), .int p0, .int p1, .int p2]) (n := 6) (Nat.le_of_ble_eq_true rfl)
  rw [lg_entry_eq]
  generalize (lg_sl ([.ref (a 0), .int p0, .int p1, .int p2]) ++ List.replicate (6 - (lg_sl ([.ref (a 0), .int p0, .int p1, .int p2])).length) Slot.unset).toArray = ls at hl ⊢
  have hl : lv_has ls 6 [(0, .ref (a 0)), (1, .int p0), (2, .int p1), (3, .int p2)] := hl
  refine lv_aload_n hx hb dX10_asked_0 rfl (lv_at hl 0 rfl) ?_
  refine lv_iload_n hx hb dX10_asked_1 rfl (lv_at hl 1 rfl) ?_
  refine lv_iload_n hx hb dX10_asked_2 rfl (lv_at hl 2 rfl) ?_
  refine ro_calli (va_runV (As := [.int p0, .int p1]) (rest := []) ⟨hx, hb, hml, hown, hts⟩ (c_X10_doer l G ct a rr p0 p1) (cwV 2 hts gX10_asked_X10_doer rfl rfl rfl (by decide +kernel) ⟨Nat.le_of_ble_eq_true rfl, Nat.le_of_ble_eq_true rfl⟩) (ro_preV 10 0 hK hP rfl rfl) rfl rfl hl.1 rfl (lv_room (Nat.le_of_ble_eq_true rfl)) dX10_asked_3 ⟨Nat.zero_le _, Nat.zero_le _⟩) hS hP (fun r_1 H locs wr_1 hP hS => ?_)
  obtain rfl := wr_1
  refine lv_istore (lv' := [(4, .int (-2)), (0, .ref (a 0)), (1, .int p0), (2, .int p1), (3, .int p2)]) hx hb dX10_asked_6 hl (by decide) rfl (fun ls hl => ?_)
  refine lv_iload hx hb dX10_asked_8 (lv_at hl 0 rfl) ?_
  refine lv_if_ge (tgt := 16) hx hb dX10_asked_10 (by decide) (fun c_2 => ?_) (fun c_2 => ?_)
  · exact absurd c_2 (by decide)
  · refine lv_iload hx hb dX10_asked_13 (lv_at hl 0 rfl) ?_
    exact W.iret (v := (-2)) hx hb hr (fun t ht hW => ⟨⟨(-2), (), rfl, rfl, trivial⟩, hS.F ht⟩) hS.2.2 dX10_asked_15

set_option maxHeartbeats 4000000 in
set_option maxRecDepth 100000 in
theorem c_X10_can (l : Launch) (G : va_G) (ct : Nat → ClassId) (a : Nat → Nat) (rr : Nat → Nat) (p0 : Int32)  : Met l yX10_can wsX10_can ({ frames := 4, cells := 0, slots := 0, locals := 89 }) (va_Pc [.ref (a 0), .int p0] (roP G ct (xF a rr ct))) (roQ (fun r => r = (-2))) 0 0 no := by
  refine Met.ofW (cc := cX10_can) (maxL := 2) (ret := (some .int)) (by decide) rfl ?_
  intro p e s m args below meth c s₁ B hml hv
  obtain ⟨rfl, hP, hK⟩ := hv
  have hx := B.exec
  have hb := B.bytes
  have hr := B.returns
  have hts := atoms_spec (ws := wsX10_can) B.pre
  have hown : s.vm.findClass RX10 = some m.cls := findClass_of_methodNamed B.named
  have hlocks := B.notSynchronized
  have hS : va_S no s.heap s.heap [] := va_S.rf
  have hl := lv_entry ([.ref (a 0), .int p0]) (n := 2) (Nat.le_of_ble_eq_true rfl)
  rw [lg_entry_eq]
  generalize (lg_sl ([.ref (a 0), .int p0]) ++ List.replicate (2 - (lg_sl ([.ref (a 0), .int p0])).length) Slot.unset).toArray = ls at hl ⊢
  have hl : lv_has ls 2 [(0, .ref (a 0)), (1, .int p0)] := hl
  refine lv_aload_n hx hb dX10_can_0 rfl (lv_at hl 0 rfl) ?_
  refine lv_iload_n hx hb dX10_can_1 rfl (lv_at hl 1 rfl) ?_
  refine ro_calli (va_runV (As := [.int p0]) (rest := []) ⟨hx, hb, hml, hown, hts⟩ (c_X10_isPerson l G ct a rr p0) (cwV 1 hts gX10_can_X10_isPerson rfl rfl rfl (by decide +kernel) ⟨Nat.le_of_ble_eq_true rfl, Nat.le_of_ble_eq_true rfl⟩) (ro_preV 10 0 hK hP rfl rfl) rfl rfl hl.1 rfl (lv_room (Nat.le_of_ble_eq_true rfl)) dX10_can_2 ⟨Nat.zero_le _, Nat.zero_le _⟩) hS hP (fun r_1 H locs wr_1 hP hS => ?_)
  obtain rfl := wr_1
  refine lv_if_ne (tgt := 11) hx hb dX10_can_5 (by decide) (fun c_2 => ?_) (fun c_2 => ?_)
  · exact absurd c_2 (by decide)
  · refine lv_bipush (v := (-2)) hx hb dX10_can_8 (by decide) ?_
    exact W.iret (v := (-2)) hx hb hr (fun t ht hW => ⟨⟨(-2), (), rfl, rfl, trivial⟩, hS.F ht⟩) hS.2.2 dX10_can_10

set_option maxHeartbeats 4000000 in
set_option maxRecDepth 100000 in
theorem c_X10_why (l : Launch) (G : va_G) (ct : Nat → ClassId) (a : Nat → Nat) (rr : Nat → Nat) (p0 : Int32) (p1 : Int32) (p2 : Int32)  : Met l yX10_why wsX10_why ({ frames := 4, cells := 0, slots := 0, locals := 88 }) (va_Pc [.ref (a 0), .int p0, .int p1, .int p2] (roP G ct (xF a rr ct))) (roQ (fun r => r = (-2))) 0 0 no := by
  refine Met.ofW (cc := cX10_why) (maxL := 4) (ret := (some .int)) (by decide) rfl ?_
  intro p e s m args below meth c s₁ B hml hv
  obtain ⟨rfl, hP, hK⟩ := hv
  have hx := B.exec
  have hb := B.bytes
  have hr := B.returns
  have hts := atoms_spec (ws := wsX10_why) B.pre
  have hown : s.vm.findClass RX10 = some m.cls := findClass_of_methodNamed B.named
  have hlocks := B.notSynchronized
  have hS : va_S no s.heap s.heap [] := va_S.rf
  have hl := lv_entry ([.ref (a 0), .int p0, .int p1, .int p2]) (n := 4) (Nat.le_of_ble_eq_true rfl)
  rw [lg_entry_eq]
  generalize (lg_sl ([.ref (a 0), .int p0, .int p1, .int p2]) ++ List.replicate (4 - (lg_sl ([.ref (a 0), .int p0, .int p1, .int p2])).length) Slot.unset).toArray = ls at hl ⊢
  have hl : lv_has ls 4 [(0, .ref (a 0)), (1, .int p0), (2, .int p1), (3, .int p2)] := hl
  refine lv_aload_n hx hb dX10_why_0 rfl (lv_at hl 0 rfl) ?_
  refine lv_iload_n hx hb dX10_why_1 rfl (lv_at hl 1 rfl) ?_
  refine ro_calli (va_runV (As := [.int p0]) (rest := []) ⟨hx, hb, hml, hown, hts⟩ (c_X10_isPerson l G ct a rr p0) (cwV 1 hts gX10_why_X10_isPerson rfl rfl rfl (by decide +kernel) ⟨Nat.le_of_ble_eq_true rfl, Nat.le_of_ble_eq_true rfl⟩) (ro_preV 10 0 hK hP rfl rfl) rfl rfl hl.1 rfl (lv_room (Nat.le_of_ble_eq_true rfl)) dX10_why_2 ⟨Nat.zero_le _, Nat.zero_le _⟩) hS hP (fun r_1 H locs wr_1 hP hS => ?_)
  obtain rfl := wr_1
  refine lv_if_eq (tgt := 23) hx hb dX10_why_5 (by decide) (fun c_2 => ?_) (fun c_2 => ?_)
  · refine lv_bipush (v := (-2)) hx hb dX10_why_23 (by decide) ?_
    exact W.iret (v := (-2)) hx hb hr (fun t ht hW => ⟨⟨(-2), (), rfl, rfl, trivial⟩, hS.F ht⟩) hS.2.2 dX10_why_25
  · exact absurd c_2 (by decide)

set_option maxHeartbeats 4000000 in
set_option maxRecDepth 100000 in
theorem c_X10_ask (l : Launch) (G : va_G) (ct : Nat → ClassId) (a : Nat → Nat) (rr : Nat → Nat) (p0 : Int32) (p1 : Int32) (p2 : Int32)  : Met l yX10_ask wsX10_ask ({ frames := 5, cells := 0, slots := 0, locals := 114 }) (va_Pc [.ref (a 0), .int p0, .int p1, .int p2] (roP G ct (xF a rr ct))) (roQ (fun r => r = (-2))) 0 0 no := by
  refine Met.ofW (cc := cX10_ask) (maxL := 5) (ret := (some .int)) (by decide) rfl ?_
  intro p e s m args below meth c s₁ B hml hv
  obtain ⟨rfl, hP, hK⟩ := hv
  have hx := B.exec
  have hb := B.bytes
  have hr := B.returns
  have hts := atoms_spec (ws := wsX10_ask) B.pre
  have hown : s.vm.findClass RX10 = some m.cls := findClass_of_methodNamed B.named
  have hlocks := B.notSynchronized
  have hS : va_S no s.heap s.heap [] := va_S.rf
  have hl := lv_entry ([.ref (a 0), .int p0, .int p1, .int p2]) (n := 5) (Nat.le_of_ble_eq_true rfl)
  rw [lg_entry_eq]
  generalize (lg_sl ([.ref (a 0), .int p0, .int p1, .int p2]) ++ List.replicate (5 - (lg_sl ([.ref (a 0), .int p0, .int p1, .int p2])).length) Slot.unset).toArray = ls at hl ⊢
  have hl : lv_has ls 5 [(0, .ref (a 0)), (1, .int p0), (2, .int p1), (3, .int p2)] := hl
  refine lv_aload_n hx hb dX10_ask_0 rfl (lv_at hl 0 rfl) ?_
  refine lv_iload_n hx hb dX10_ask_1 rfl (lv_at hl 1 rfl) ?_
  refine lv_iload_n hx hb dX10_ask_2 rfl (lv_at hl 2 rfl) ?_
  refine lv_iload_n hx hb dX10_ask_3 rfl (lv_at hl 3 rfl) ?_
  refine ro_calli (va_runV (As := [.int p0, .int p1, .int p2]) (rest := []) ⟨hx, hb, hml, hown, hts⟩ (c_X10_why l G ct a rr p0 p1 p2) (cwV 3 hts gX10_ask_X10_why rfl rfl rfl (by decide +kernel) ⟨Nat.le_of_ble_eq_true rfl, Nat.le_of_ble_eq_true rfl⟩) (ro_preV 10 0 hK hP rfl rfl) rfl rfl hl.1 rfl (lv_room (Nat.le_of_ble_eq_true rfl)) dX10_ask_4 ⟨Nat.zero_le _, Nat.zero_le _⟩) hS hP (fun r_1 H locs wr_1 hP hS => ?_)
  obtain rfl := wr_1
  refine lv_istore (lv' := [(4, .int (-2)), (0, .ref (a 0)), (1, .int p0), (2, .int p1), (3, .int p2)]) hx hb dX10_ask_7 hl (by decide) rfl (fun ls hl => ?_)
  refine lv_iload hx hb dX10_ask_9 (lv_at hl 0 rfl) ?_
  refine lv_bipush (v := (-2)) hx hb dX10_ask_11 (by decide) ?_
  refine lv_icmp_ne (tgt := 19) hx hb dX10_ask_13 (by decide) (fun c_2 => ?_) (fun c_2 => ?_)
  · exact absurd c_2 (by decide)
  · refine lv_bipush (v := (-2)) hx hb dX10_ask_16 (by decide) ?_
    exact W.iret (v := (-2)) hx hb hr (fun t ht hW => ⟨⟨(-2), (), rfl, rfl, trivial⟩, hS.F ht⟩) hS.2.2 dX10_ask_18

set_option maxHeartbeats 4000000 in
set_option maxRecDepth 100000 in
theorem c_X10_give (l : Launch) (G : va_G) (ct : Nat → ClassId) (a : Nat → Nat) (rr : Nat → Nat) (p0 : Int32) (p1 : Int32) (p2 : Int32) (p3 : Int32)  : Met l yX10_give wsX10_give ({ frames := 5, cells := 0, slots := 0, locals := 114 }) (va_Pc [.ref (a 0), .int p0, .int p1, .int p2, .int p3] (roP G ct (xF a rr ct))) (roQ (fun r => r = (-2))) 0 0 no := by
  refine Met.ofW (cc := cX10_give) (maxL := 6) (ret := (some .int)) (by decide) rfl ?_
  intro p e s m args below meth c s₁ B hml hv
  obtain ⟨rfl, hP, hK⟩ := hv
  have hx := B.exec
  have hb := B.bytes
  have hr := B.returns
  have hts := atoms_spec (ws := wsX10_give) B.pre
  have hown : s.vm.findClass RX10 = some m.cls := findClass_of_methodNamed B.named
  have hlocks := B.notSynchronized
  have hS : va_S no s.heap s.heap [] := va_S.rf
  have hl := lv_entry ([.ref (a 0), .int p0, .int p1, .int p2, .int p3]) (n := 6) (Nat.le_of_ble_eq_true rfl)
  rw [lg_entry_eq]
  generalize (lg_sl ([.ref (a 0), .int p0, .int p1, .int p2, .int p3]) ++ List.replicate (6 - (lg_sl ([.ref (a 0), .int p0, .int p1, .int p2, .int p3])).length) Slot.unset).toArray = ls at hl ⊢
  have hl : lv_has ls 6 [(0, .ref (a 0)), (1, .int p0), (2, .int p1), (3, .int p2), (4, .int p3)] := hl
  refine lv_aload_n hx hb dX10_give_0 rfl (lv_at hl 0 rfl) ?_
  refine lv_iload_n hx hb dX10_give_1 rfl (lv_at hl 1 rfl) ?_
  refine ro_calli (va_runV (As := [.int p0]) (rest := []) ⟨hx, hb, hml, hown, hts⟩ (c_X10_isPerson l G ct a rr p0) (cwV 1 hts gX10_give_X10_isPerson rfl rfl rfl (by decide +kernel) ⟨Nat.le_of_ble_eq_true rfl, Nat.le_of_ble_eq_true rfl⟩) (ro_preV 10 0 hK hP rfl rfl) rfl rfl hl.1 rfl (lv_room (Nat.le_of_ble_eq_true rfl)) dX10_give_2 ⟨Nat.zero_le _, Nat.zero_le _⟩) hS hP (fun r_1 H locs wr_1 hP hS => ?_)
  obtain rfl := wr_1
  refine lv_if_eq (tgt := 33) hx hb dX10_give_5 (by decide) (fun c_2 => ?_) (fun c_2 => ?_)
  · refine lv_bipush (v := (-2)) hx hb dX10_give_33 (by decide) ?_
    exact W.iret (v := (-2)) hx hb hr (fun t ht hW => ⟨⟨(-2), (), rfl, rfl, trivial⟩, hS.F ht⟩) hS.2.2 dX10_give_35
  · exact absurd c_2 (by decide)

set_option maxHeartbeats 4000000 in
set_option maxRecDepth 100000 in
theorem c_X10_swap (l : Launch) (G : va_G) (ct : Nat → ClassId) (a : Nat → Nat) (rr : Nat → Nat) (p0 : Int32) (p1 : Int32)  : Met l yX10_swap wsX10_swap ({ frames := 5, cells := 0, slots := 0, locals := 114 }) (va_Pc [.ref (a 0), .int p0, .int p1] (roP G ct (xF a rr ct))) (roQ (fun r => r = (-2))) 0 0 no := by
  refine Met.ofW (cc := cX10_swap) (maxL := 5) (ret := (some .int)) (by decide) rfl ?_
  intro p e s m args below meth c s₁ B hml hv
  obtain ⟨rfl, hP, hK⟩ := hv
  have hx := B.exec
  have hb := B.bytes
  have hr := B.returns
  have hts := atoms_spec (ws := wsX10_swap) B.pre
  have hown : s.vm.findClass RX10 = some m.cls := findClass_of_methodNamed B.named
  have hlocks := B.notSynchronized
  have hS : va_S no s.heap s.heap [] := va_S.rf
  have hl := lv_entry ([.ref (a 0), .int p0, .int p1]) (n := 5) (Nat.le_of_ble_eq_true rfl)
  rw [lg_entry_eq]
  generalize (lg_sl ([.ref (a 0), .int p0, .int p1]) ++ List.replicate (5 - (lg_sl ([.ref (a 0), .int p0, .int p1])).length) Slot.unset).toArray = ls at hl ⊢
  have hl : lv_has ls 5 [(0, .ref (a 0)), (1, .int p0), (2, .int p1)] := hl
  refine lv_aload_n hx hb dX10_swap_0 rfl (lv_at hl 0 rfl) ?_
  refine lv_iload_n hx hb dX10_swap_1 rfl (lv_at hl 1 rfl) ?_
  refine ro_calli (va_runV (As := [.int p0]) (rest := []) ⟨hx, hb, hml, hown, hts⟩ (c_X10_isPerson l G ct a rr p0) (cwV 1 hts gX10_swap_X10_isPerson rfl rfl rfl (by decide +kernel) ⟨Nat.le_of_ble_eq_true rfl, Nat.le_of_ble_eq_true rfl⟩) (ro_preV 10 0 hK hP rfl rfl) rfl rfl hl.1 rfl (lv_room (Nat.le_of_ble_eq_true rfl)) dX10_swap_2 ⟨Nat.zero_le _, Nat.zero_le _⟩) hS hP (fun r_1 H locs wr_1 hP hS => ?_)
  obtain rfl := wr_1
  refine lv_if_eq (tgt := 21) hx hb dX10_swap_5 (by decide) (fun c_2 => ?_) (fun c_2 => ?_)
  · refine lv_bipush (v := (-2)) hx hb dX10_swap_21 (by decide) ?_
    exact W.iret (v := (-2)) hx hb hr (fun t ht hW => ⟨⟨(-2), (), rfl, rfl, trivial⟩, hS.F ht⟩) hS.2.2 dX10_swap_23
  · exact absurd c_2 (by decide)

set_option maxHeartbeats 4000000 in
set_option maxRecDepth 100000 in
theorem c_X10_steal (l : Launch) (G : va_G) (ct : Nat → ClassId) (a : Nat → Nat) (rr : Nat → Nat) (p0 : Int32) (p1 : Int32)  : Met l yX10_steal wsX10_steal ({ frames := 5, cells := 0, slots := 0, locals := 114 }) (va_Pc [.ref (a 0), .int p0, .int p1] (roP G ct (xF a rr ct))) (roQ (fun r => r = (-2))) 0 0 no := by
  refine Met.ofW (cc := cX10_steal) (maxL := 5) (ret := (some .int)) (by decide) rfl ?_
  intro p e s m args below meth c s₁ B hml hv
  obtain ⟨rfl, hP, hK⟩ := hv
  have hx := B.exec
  have hb := B.bytes
  have hr := B.returns
  have hts := atoms_spec (ws := wsX10_steal) B.pre
  have hown : s.vm.findClass RX10 = some m.cls := findClass_of_methodNamed B.named
  have hlocks := B.notSynchronized
  have hS : va_S no s.heap s.heap [] := va_S.rf
  have hl := lv_entry ([.ref (a 0), .int p0, .int p1]) (n := 5) (Nat.le_of_ble_eq_true rfl)
  rw [lg_entry_eq]
  generalize (lg_sl ([.ref (a 0), .int p0, .int p1]) ++ List.replicate (5 - (lg_sl ([.ref (a 0), .int p0, .int p1])).length) Slot.unset).toArray = ls at hl ⊢
  have hl : lv_has ls 5 [(0, .ref (a 0)), (1, .int p0), (2, .int p1)] := hl
  refine lv_aload_n hx hb dX10_steal_0 rfl (lv_at hl 0 rfl) ?_
  refine lv_iload_n hx hb dX10_steal_1 rfl (lv_at hl 1 rfl) ?_
  refine ro_calli (va_runV (As := [.int p0]) (rest := []) ⟨hx, hb, hml, hown, hts⟩ (c_X10_isPerson l G ct a rr p0) (cwV 1 hts gX10_steal_X10_isPerson rfl rfl rfl (by decide +kernel) ⟨Nat.le_of_ble_eq_true rfl, Nat.le_of_ble_eq_true rfl⟩) (ro_preV 10 0 hK hP rfl rfl) rfl rfl hl.1 rfl (lv_room (Nat.le_of_ble_eq_true rfl)) dX10_steal_2 ⟨Nat.zero_le _, Nat.zero_le _⟩) hS hP (fun r_1 H locs wr_1 hP hS => ?_)
  obtain rfl := wr_1
  refine lv_if_eq (tgt := 16) hx hb dX10_steal_5 (by decide) (fun c_2 => ?_) (fun c_2 => ?_)
  · refine lv_bipush (v := (-2)) hx hb dX10_steal_16 (by decide) ?_
    exact W.iret (v := (-2)) hx hb hr (fun t ht hW => ⟨⟨(-2), (), rfl, rfl, trivial⟩, hS.F ht⟩) hS.2.2 dX10_steal_18
  · exact absurd c_2 (by decide)

set_option maxHeartbeats 4000000 in
set_option maxRecDepth 100000 in
theorem c_X10_day (l : Launch) (G : va_G) (ct : Nat → ClassId) (a : Nat → Nat) (rr : Nat → Nat)  : Met l yX10_day wsX10_day ({ frames := 5, cells := 0, slots := 0, locals := 114 }) (va_Pc [.ref (a 0)] (roP G ct (xF a rr ct))) (roQ (fun r => r = (-2))) 0 0 no := by
  refine Met.ofW (cc := cX10_day) (maxL := 2) (ret := (some .int)) (by decide) rfl ?_
  intro p e s m args below meth c s₁ B hml hv
  obtain ⟨rfl, hP, hK⟩ := hv
  have hx := B.exec
  have hb := B.bytes
  have hr := B.returns
  have hts := atoms_spec (ws := wsX10_day) B.pre
  have hown : s.vm.findClass RX10 = some m.cls := findClass_of_methodNamed B.named
  have hlocks := B.notSynchronized
  have hS : va_S no s.heap s.heap [] := va_S.rf
  have hl := lv_entry ([.ref (a 0)]) (n := 2) (Nat.le_of_ble_eq_true rfl)
  rw [lg_entry_eq]
  generalize (lg_sl ([.ref (a 0)]) ++ List.replicate (2 - (lg_sl ([.ref (a 0)])).length) Slot.unset).toArray = ls at hl ⊢
  have hl : lv_has ls 2 [(0, .ref (a 0))] := hl
  refine lv_aload_n hx hb dX10_day_0 rfl (lv_at hl 0 rfl) ?_
  refine ro_calli (va_runV (As := []) (rest := []) ⟨hx, hb, hml, hown, hts⟩ (c_X10_hasCity l G ct a rr) (cwV 0 hts gX10_day_X10_hasCity rfl rfl rfl (by decide +kernel) ⟨Nat.le_of_ble_eq_true rfl, Nat.le_of_ble_eq_true rfl⟩) (ro_preV 10 0 hK hP rfl rfl) rfl rfl hl.1 rfl (lv_room (Nat.le_of_ble_eq_true rfl)) dX10_day_1 ⟨Nat.zero_le _, Nat.zero_le _⟩) hS hP (fun r_1 H locs wr_1 hP hS => ?_)
  obtain rfl := wr_1
  refine lv_if_ne (tgt := 10) hx hb dX10_day_4 (by decide) (fun c_2 => ?_) (fun c_2 => ?_)
  · exact absurd c_2 (by decide)
  · refine lv_bipush (v := (-2)) hx hb dX10_day_7 (by decide) ?_
    exact W.iret (v := (-2)) hx hb hr (fun t ht hW => ⟨⟨(-2), (), rfl, rfl, trivial⟩, hS.F ht⟩) hS.2.2 dX10_day_9

set_option maxHeartbeats 4000000 in
set_option maxRecDepth 100000 in
theorem c_X10_undo (l : Launch) (G : va_G) (ct : Nat → ClassId) (a : Nat → Nat) (rr : Nat → Nat)  : Met l yX10_undo wsX10_undo ({ frames := 5, cells := 0, slots := 0, locals := 124 }) (va_Pc [.ref (a 0)] (roP G ct (xF a rr ct))) (roQ (fun r => r = (-2))) 0 0 no := by
  refine Met.ofW (cc := cX10_undo) (maxL := 1) (ret := (some .int)) (by decide) rfl ?_
  intro p e s m args below meth c s₁ B hml hv
  obtain ⟨rfl, hP, hK⟩ := hv
  have hx := B.exec
  have hb := B.bytes
  have hr := B.returns
  have hts := atoms_spec (ws := wsX10_undo) B.pre
  have hown : s.vm.findClass RX10 = some m.cls := findClass_of_methodNamed B.named
  have hlocks := B.notSynchronized
  have hS : va_S no s.heap s.heap [] := va_S.rf
  have hl := lv_entry ([.ref (a 0)]) (n := 1) (Nat.le_of_ble_eq_true rfl)
  rw [lg_entry_eq]
  generalize (lg_sl ([.ref (a 0)]) ++ List.replicate (1 - (lg_sl ([.ref (a 0)])).length) Slot.unset).toArray = ls at hl ⊢
  have hl : lv_has ls 1 [(0, .ref (a 0))] := hl
  refine lv_aload_n hx hb dX10_undo_0 rfl (lv_at hl 0 rfl) ?_
  refine ro_calli (va_runV (As := []) (rest := []) ⟨hx, hb, hml, hown, hts⟩ (c_X10_hasCity l G ct a rr) (cwV 0 hts gX10_undo_X10_hasCity rfl rfl rfl (by decide +kernel) ⟨Nat.le_of_ble_eq_true rfl, Nat.le_of_ble_eq_true rfl⟩) (ro_preV 10 0 hK hP rfl rfl) rfl rfl hl.1 rfl (lv_room (Nat.le_of_ble_eq_true rfl)) dX10_undo_1 ⟨Nat.zero_le _, Nat.zero_le _⟩) hS hP (fun r_1 H locs wr_1 hP hS => ?_)
  obtain rfl := wr_1
  refine lv_if_ne (tgt := 10) hx hb dX10_undo_4 (by decide) (fun c_2 => ?_) (fun c_2 => ?_)
  · exact absurd c_2 (by decide)
  · refine lv_bipush (v := (-2)) hx hb dX10_undo_7 (by decide) ?_
    exact W.iret (v := (-2)) hx hb hr (fun t ht hW => ⟨⟨(-2), (), rfl, rfl, trivial⟩, hS.F ht⟩) hS.2.2 dX10_undo_9

set_option maxHeartbeats 4000000 in
set_option maxRecDepth 100000 in
theorem c_X10_anew (l : Launch) (G : va_G) (ct : Nat → ClassId) (a : Nat → Nat) (rr : Nat → Nat)  : Met l yX10_anew wsX10_anew ({ frames := 5, cells := 0, slots := 0, locals := 124 }) (va_Pc [.ref (a 0)] (roP G ct (xF a rr ct))) (roQ (fun r => r = (-2))) 0 0 no := by
  refine Met.ofW (cc := cX10_anew) (maxL := 2) (ret := (some .int)) (by decide) rfl ?_
  intro p e s m args below meth c s₁ B hml hv
  obtain ⟨rfl, hP, hK⟩ := hv
  have hx := B.exec
  have hb := B.bytes
  have hr := B.returns
  have hts := atoms_spec (ws := wsX10_anew) B.pre
  have hown : s.vm.findClass RX10 = some m.cls := findClass_of_methodNamed B.named
  have hlocks := B.notSynchronized
  have hS : va_S no s.heap s.heap [] := va_S.rf
  have hl := lv_entry ([.ref (a 0)]) (n := 2) (Nat.le_of_ble_eq_true rfl)
  rw [lg_entry_eq]
  generalize (lg_sl ([.ref (a 0)]) ++ List.replicate (2 - (lg_sl ([.ref (a 0)])).length) Slot.unset).toArray = ls at hl ⊢
  have hl : lv_has ls 2 [(0, .ref (a 0))] := hl
  refine lv_aload_n hx hb dX10_anew_0 rfl (lv_at hl 0 rfl) ?_
  refine ro_calli (va_runV (As := []) (rest := []) ⟨hx, hb, hml, hown, hts⟩ (c_X10_hasCity l G ct a rr) (cwV 0 hts gX10_anew_X10_hasCity rfl rfl rfl (by decide +kernel) ⟨Nat.le_of_ble_eq_true rfl, Nat.le_of_ble_eq_true rfl⟩) (ro_preV 10 0 hK hP rfl rfl) rfl rfl hl.1 rfl (lv_room (Nat.le_of_ble_eq_true rfl)) dX10_anew_1 ⟨Nat.zero_le _, Nat.zero_le _⟩) hS hP (fun r_1 H locs wr_1 hP hS => ?_)
  obtain rfl := wr_1
  refine lv_if_ne (tgt := 10) hx hb dX10_anew_4 (by decide) (fun c_2 => ?_) (fun c_2 => ?_)
  · exact absurd c_2 (by decide)
  · refine lv_bipush (v := (-2)) hx hb dX10_anew_7 (by decide) ?_
    exact W.iret (v := (-2)) hx hb hr (fun t ht hW => ⟨⟨(-2), (), rfl, rfl, trivial⟩, hS.F ht⟩) hS.2.2 dX10_anew_9

set_option maxHeartbeats 4000000 in
set_option maxRecDepth 100000 in
theorem c_X10_now (l : Launch) (G : va_G) (ct : Nat → ClassId) (a : Nat → Nat) (rr : Nat → Nat) (p0 : Int32)  : Met l yX10_now wsX10_now ({ frames := 1, cells := 0, slots := 0, locals := 20 }) (va_Pc [.ref (a 0), .int p0] (roP G ct (xF a rr ct))) (roQ (fun r => r = (-2))) 0 0 no := by
  refine Met.ofW (cc := cX10_now) (maxL := 2) (ret := (some .int)) (by decide) rfl ?_
  intro p e s m args below meth c s₁ B hml hv
  obtain ⟨rfl, hP, hK⟩ := hv
  have hx := B.exec
  have hb := B.bytes
  have hr := B.returns
  have hts := atoms_spec (ws := wsX10_now) B.pre
  have hown : s.vm.findClass RX10 = some m.cls := findClass_of_methodNamed B.named
  have hlocks := B.notSynchronized
  have hS : va_S no s.heap s.heap [] := va_S.rf
  have hl := lv_entry ([.ref (a 0), .int p0]) (n := 2) (Nat.le_of_ble_eq_true rfl)
  rw [lg_entry_eq]
  generalize (lg_sl ([.ref (a 0), .int p0]) ++ List.replicate (2 - (lg_sl ([.ref (a 0), .int p0])).length) Slot.unset).toArray = ls at hl ⊢
  have hl : lv_has ls 2 [(0, .ref (a 0)), (1, .int p0)] := hl
  refine lv_aload_n hx hb dX10_now_0 rfl (lv_at hl 0 rfl) ?_
  refine ro_calli (va_runV (As := []) (rest := []) ⟨hx, hb, hml, hown, hts⟩ (c_X10_hasCity l G ct a rr) (cwV 0 hts gX10_now_X10_hasCity rfl rfl rfl (by decide +kernel) ⟨Nat.le_of_ble_eq_true rfl, Nat.le_of_ble_eq_true rfl⟩) (ro_preV 10 0 hK hP rfl rfl) rfl rfl hl.1 rfl (lv_room (Nat.le_of_ble_eq_true rfl)) dX10_now_1 ⟨Nat.zero_le _, Nat.zero_le _⟩) hS hP (fun r_1 H locs wr_1 hP hS => ?_)
  obtain rfl := wr_1
  refine lv_if_ne (tgt := 10) hx hb dX10_now_4 (by decide) (fun c_2 => ?_) (fun c_2 => ?_)
  · exact absurd c_2 (by decide)
  · refine lv_bipush (v := (-2)) hx hb dX10_now_7 (by decide) ?_
    exact W.iret (v := (-2)) hx hb hr (fun t ht hW => ⟨⟨(-2), (), rfl, rfl, trivial⟩, hS.F ht⟩) hS.2.2 dX10_now_9

set_option maxHeartbeats 4000000 in
set_option maxRecDepth 100000 in
theorem c_X10_own (l : Launch) (G : va_G) (ct : Nat → ClassId) (a : Nat → Nat) (rr : Nat → Nat)  : Met l yX10_own wsX10_own ({ frames := 6, cells := 0, slots := 0, locals := 133 }) (va_Pc [.ref (a 0)] (roP G ct (xF a rr ct))) (roQ (fun r => r = (-2))) 0 0 no := by
  refine Met.ofW (cc := cX10_own) (maxL := 1) (ret := (some .int)) (by decide) rfl ?_
  intro p e s m args below meth c s₁ B hml hv
  obtain ⟨rfl, hP, hK⟩ := hv
  have hx := B.exec
  have hb := B.bytes
  have hr := B.returns
  have hts := atoms_spec (ws := wsX10_own) B.pre
  have hown : s.vm.findClass RX10 = some m.cls := findClass_of_methodNamed B.named
  have hlocks := B.notSynchronized
  have hS : va_S no s.heap s.heap [] := va_S.rf
  have hl := lv_entry ([.ref (a 0)]) (n := 1) (Nat.le_of_ble_eq_true rfl)
  rw [lg_entry_eq]
  generalize (lg_sl ([.ref (a 0)]) ++ List.replicate (1 - (lg_sl ([.ref (a 0)])).length) Slot.unset).toArray = ls at hl ⊢
  have hl : lv_has ls 1 [(0, .ref (a 0))] := hl
  refine lv_aload_n hx hb dX10_own_0 rfl (lv_at hl 0 rfl) ?_
  refine ro_calli (va_runV (As := []) (rest := []) ⟨hx, hb, hml, hown, hts⟩ (c_X10_hasCity l G ct a rr) (cwV 0 hts gX10_own_X10_hasCity rfl rfl rfl (by decide +kernel) ⟨Nat.le_of_ble_eq_true rfl, Nat.le_of_ble_eq_true rfl⟩) (ro_preV 10 0 hK hP rfl rfl) rfl rfl hl.1 rfl (lv_room (Nat.le_of_ble_eq_true rfl)) dX10_own_1 ⟨Nat.zero_le _, Nat.zero_le _⟩) hS hP (fun r_1 H locs wr_1 hP hS => ?_)
  obtain rfl := wr_1
  refine lv_if_ne (tgt := 10) hx hb dX10_own_4 (by decide) (fun c_2 => ?_) (fun c_2 => ?_)
  · exact absurd c_2 (by decide)
  · refine lv_bipush (v := (-2)) hx hb dX10_own_7 (by decide) ?_
    exact W.iret (v := (-2)) hx hb hr (fun t ht hW => ⟨⟨(-2), (), rfl, rfl, trivial⟩, hS.F ht⟩) hS.2.2 dX10_own_9

set_option maxHeartbeats 4000000 in
set_option maxRecDepth 100000 in
theorem c_X10_first (l : Launch) (G : va_G) (ct : Nat → ClassId) (a : Nat → Nat) (rr : Nat → Nat) (p0 : Int32)  : Met l yX10_first wsX10_first ({ frames := 4, cells := 0, slots := 0, locals := 88 }) (va_Pc [.ref (a 0), .int p0] (roP G ct (xF a rr ct))) (roQ (fun r => r = (-2))) 0 0 no := by
  refine Met.ofW (cc := cX10_first) (maxL := 3) (ret := (some .int)) (by decide) rfl ?_
  intro p e s m args below meth c s₁ B hml hv
  obtain ⟨rfl, hP, hK⟩ := hv
  have hx := B.exec
  have hb := B.bytes
  have hr := B.returns
  have hts := atoms_spec (ws := wsX10_first) B.pre
  have hown : s.vm.findClass RX10 = some m.cls := findClass_of_methodNamed B.named
  have hlocks := B.notSynchronized
  have hS : va_S no s.heap s.heap [] := va_S.rf
  have hl := lv_entry ([.ref (a 0), .int p0]) (n := 3) (Nat.le_of_ble_eq_true rfl)
  rw [lg_entry_eq]
  generalize (lg_sl ([.ref (a 0), .int p0]) ++ List.replicate (3 - (lg_sl ([.ref (a 0), .int p0])).length) Slot.unset).toArray = ls at hl ⊢
  have hl : lv_has ls 3 [(0, .ref (a 0)), (1, .int p0)] := hl
  refine lv_aload_n hx hb dX10_first_0 rfl (lv_at hl 0 rfl) ?_
  refine ro_calli (va_runV (As := []) (rest := []) ⟨hx, hb, hml, hown, hts⟩ (c_X10_hasCity l G ct a rr) (cwV 0 hts gX10_first_X10_hasCity rfl rfl rfl (by decide +kernel) ⟨Nat.le_of_ble_eq_true rfl, Nat.le_of_ble_eq_true rfl⟩) (ro_preV 10 0 hK hP rfl rfl) rfl rfl hl.1 rfl (lv_room (Nat.le_of_ble_eq_true rfl)) dX10_first_1 ⟨Nat.zero_le _, Nat.zero_le _⟩) hS hP (fun r_1 H locs wr_1 hP hS => ?_)
  obtain rfl := wr_1
  refine lv_if_eq (tgt := 16) hx hb dX10_first_4 (by decide) (fun c_2 => ?_) (fun c_2 => ?_)
  · refine lv_bipush (v := (-2)) hx hb dX10_first_16 (by decide) ?_
    exact W.iret (v := (-2)) hx hb hr (fun t ht hW => ⟨⟨(-2), (), rfl, rfl, trivial⟩, hS.F ht⟩) hS.2.2 dX10_first_18
  · exact absurd c_2 (by decide)

set_option maxHeartbeats 4000000 in
set_option maxRecDepth 100000 in
theorem c_X10_work (l : Launch) (G : va_G) (ct : Nat → ClassId) (a : Nat → Nat) (rr : Nat → Nat)  : Met l yX10_work wsX10_work ({ frames := 4, cells := 0, slots := 0, locals := 91 }) (va_Pc [.ref (a 0)] (roP G ct (xF a rr ct))) (roQ (fun r => r = (-2))) 0 0 no := by
  refine Met.ofW (cc := cX10_work) (maxL := 3) (ret := (some .int)) (by decide) rfl ?_
  intro p e s m args below meth c s₁ B hml hv
  obtain ⟨rfl, hP, hK⟩ := hv
  have hx := B.exec
  have hb := B.bytes
  have hr := B.returns
  have hts := atoms_spec (ws := wsX10_work) B.pre
  have hown : s.vm.findClass RX10 = some m.cls := findClass_of_methodNamed B.named
  have hlocks := B.notSynchronized
  have hS : va_S no s.heap s.heap [] := va_S.rf
  have hl := lv_entry ([.ref (a 0)]) (n := 3) (Nat.le_of_ble_eq_true rfl)
  rw [lg_entry_eq]
  generalize (lg_sl ([.ref (a 0)]) ++ List.replicate (3 - (lg_sl ([.ref (a 0)])).length) Slot.unset).toArray = ls at hl ⊢
  have hl : lv_has ls 3 [(0, .ref (a 0))] := hl
  refine lv_aload_n hx hb dX10_work_0 rfl (lv_at hl 0 rfl) ?_
  refine ro_calli (va_runV (As := []) (rest := []) ⟨hx, hb, hml, hown, hts⟩ (c_X10_hasCity l G ct a rr) (cwV 0 hts gX10_work_X10_hasCity rfl rfl rfl (by decide +kernel) ⟨Nat.le_of_ble_eq_true rfl, Nat.le_of_ble_eq_true rfl⟩) (ro_preV 10 0 hK hP rfl rfl) rfl rfl hl.1 rfl (lv_room (Nat.le_of_ble_eq_true rfl)) dX10_work_1 ⟨Nat.zero_le _, Nat.zero_le _⟩) hS hP (fun r_1 H locs wr_1 hP hS => ?_)
  obtain rfl := wr_1
  refine lv_if_ne (tgt := 10) hx hb dX10_work_4 (by decide) (fun c_2 => ?_) (fun c_2 => ?_)
  · exact absurd c_2 (by decide)
  · refine lv_bipush (v := (-2)) hx hb dX10_work_7 (by decide) ?_
    exact W.iret (v := (-2)) hx hb hr (fun t ht hW => ⟨⟨(-2), (), rfl, rfl, trivial⟩, hS.F ht⟩) hS.2.2 dX10_work_9

set_option maxHeartbeats 4000000 in
set_option maxRecDepth 100000 in
theorem c_X10_works (l : Launch) (G : va_G) (ct : Nat → ClassId) (a : Nat → Nat) (rr : Nat → Nat) (p0 : Int32)  : Met l yX10_works wsX10_works ({ frames := 6, cells := 0, slots := 0, locals := 143 }) (va_Pc [.ref (a 0), .int p0] (roP G ct (xF a rr ct))) (roQ (fun r => r = (-2))) 0 0 no := by
  refine Met.ofW (cc := cX10_works) (maxL := 2) (ret := (some .int)) (by decide) rfl ?_
  intro p e s m args below meth c s₁ B hml hv
  obtain ⟨rfl, hP, hK⟩ := hv
  have hx := B.exec
  have hb := B.bytes
  have hr := B.returns
  have hts := atoms_spec (ws := wsX10_works) B.pre
  have hown : s.vm.findClass RX10 = some m.cls := findClass_of_methodNamed B.named
  have hlocks := B.notSynchronized
  have hS : va_S no s.heap s.heap [] := va_S.rf
  have hl := lv_entry ([.ref (a 0), .int p0]) (n := 2) (Nat.le_of_ble_eq_true rfl)
  rw [lg_entry_eq]
  generalize (lg_sl ([.ref (a 0), .int p0]) ++ List.replicate (2 - (lg_sl ([.ref (a 0), .int p0])).length) Slot.unset).toArray = ls at hl ⊢
  have hl : lv_has ls 2 [(0, .ref (a 0)), (1, .int p0)] := hl
  refine lv_aload_n hx hb dX10_works_0 rfl (lv_at hl 0 rfl) ?_
  refine lv_iload_n hx hb dX10_works_1 rfl (lv_at hl 1 rfl) ?_
  refine ro_calli (va_runV (As := [.int p0]) (rest := []) ⟨hx, hb, hml, hown, hts⟩ (c_X10_isPerson l G ct a rr p0) (cwV 1 hts gX10_works_X10_isPerson rfl rfl rfl (by decide +kernel) ⟨Nat.le_of_ble_eq_true rfl, Nat.le_of_ble_eq_true rfl⟩) (ro_preV 10 0 hK hP rfl rfl) rfl rfl hl.1 rfl (lv_room (Nat.le_of_ble_eq_true rfl)) dX10_works_2 ⟨Nat.zero_le _, Nat.zero_le _⟩) hS hP (fun r_1 H locs wr_1 hP hS => ?_)
  obtain rfl := wr_1
  refine lv_if_ne (tgt := 11) hx hb dX10_works_5 (by decide) (fun c_2 => ?_) (fun c_2 => ?_)
  · exact absurd c_2 (by decide)
  · refine lv_bipush (v := (-2)) hx hb dX10_works_8 (by decide) ?_
    exact W.iret (v := (-2)) hx hb hr (fun t ht hW => ⟨⟨(-2), (), rfl, rfl, trivial⟩, hS.F ht⟩) hS.2.2 dX10_works_10

set_option maxHeartbeats 4000000 in
set_option maxRecDepth 100000 in
theorem c_X10_covers (l : Launch) (G : va_G) (ct : Nat → ClassId) (a : Nat → Nat) (rr : Nat → Nat) (p0 : Int32)  : Met l yX10_covers wsX10_covers ({ frames := 4, cells := 0, slots := 0, locals := 87 }) (va_Pc [.ref (a 0), .int p0] (roP G ct (xF a rr ct))) (roQ (fun r => r = (-2))) 0 0 no := by
  refine Met.ofW (cc := cX10_covers) (maxL := 2) (ret := (some .int)) (by decide) rfl ?_
  intro p e s m args below meth c s₁ B hml hv
  obtain ⟨rfl, hP, hK⟩ := hv
  have hx := B.exec
  have hb := B.bytes
  have hr := B.returns
  have hts := atoms_spec (ws := wsX10_covers) B.pre
  have hown : s.vm.findClass RX10 = some m.cls := findClass_of_methodNamed B.named
  have hlocks := B.notSynchronized
  have hS : va_S no s.heap s.heap [] := va_S.rf
  have hl := lv_entry ([.ref (a 0), .int p0]) (n := 2) (Nat.le_of_ble_eq_true rfl)
  rw [lg_entry_eq]
  generalize (lg_sl ([.ref (a 0), .int p0]) ++ List.replicate (2 - (lg_sl ([.ref (a 0), .int p0])).length) Slot.unset).toArray = ls at hl ⊢
  have hl : lv_has ls 2 [(0, .ref (a 0)), (1, .int p0)] := hl
  refine lv_aload_n hx hb dX10_covers_0 rfl (lv_at hl 0 rfl) ?_
  refine ro_calli (va_runV (As := []) (rest := []) ⟨hx, hb, hml, hown, hts⟩ (c_X10_hasCity l G ct a rr) (cwV 0 hts gX10_covers_X10_hasCity rfl rfl rfl (by decide +kernel) ⟨Nat.le_of_ble_eq_true rfl, Nat.le_of_ble_eq_true rfl⟩) (ro_preV 10 0 hK hP rfl rfl) rfl rfl hl.1 rfl (lv_room (Nat.le_of_ble_eq_true rfl)) dX10_covers_1 ⟨Nat.zero_le _, Nat.zero_le _⟩) hS hP (fun r_1 H locs wr_1 hP hS => ?_)
  obtain rfl := wr_1
  refine lv_if_eq (tgt := 14) hx hb dX10_covers_4 (by decide) (fun c_2 => ?_) (fun c_2 => ?_)
  · refine lv_bipush (v := (-2)) hx hb dX10_covers_14 (by decide) ?_
    exact W.iret (v := (-2)) hx hb hr (fun t ht hW => ⟨⟨(-2), (), rfl, rfl, trivial⟩, hS.F ht⟩) hS.2.2 dX10_covers_16
  · exact absurd c_2 (by decide)

set_option maxHeartbeats 4000000 in
set_option maxRecDepth 100000 in
theorem c_X10_cover (l : Launch) (G : va_G) (ct : Nat → ClassId) (a : Nat → Nat) (rr : Nat → Nat) (p0 : Int32)  : Met l yX10_cover wsX10_cover ({ frames := 5, cells := 0, slots := 0, locals := 108 }) (va_Pc [.ref (a 0), .int p0] (roP G ct (xF a rr ct))) (roQ (fun r => r = (-2))) 0 0 no := by
  refine Met.ofW (cc := cX10_cover) (maxL := 3) (ret := (some .int)) (by decide) rfl ?_
  intro p e s m args below meth c s₁ B hml hv
  obtain ⟨rfl, hP, hK⟩ := hv
  have hx := B.exec
  have hb := B.bytes
  have hr := B.returns
  have hts := atoms_spec (ws := wsX10_cover) B.pre
  have hown : s.vm.findClass RX10 = some m.cls := findClass_of_methodNamed B.named
  have hlocks := B.notSynchronized
  have hS : va_S no s.heap s.heap [] := va_S.rf
  have hl := lv_entry ([.ref (a 0), .int p0]) (n := 3) (Nat.le_of_ble_eq_true rfl)
  rw [lg_entry_eq]
  generalize (lg_sl ([.ref (a 0), .int p0]) ++ List.replicate (3 - (lg_sl ([.ref (a 0), .int p0])).length) Slot.unset).toArray = ls at hl ⊢
  have hl : lv_has ls 3 [(0, .ref (a 0)), (1, .int p0)] := hl
  refine lv_aload_n hx hb dX10_cover_0 rfl (lv_at hl 0 rfl) ?_
  refine lv_iload_n hx hb dX10_cover_1 rfl (lv_at hl 1 rfl) ?_
  refine ro_calli (va_runV (As := [.int p0]) (rest := []) ⟨hx, hb, hml, hown, hts⟩ (c_X10_covers l G ct a rr p0) (cwV 1 hts gX10_cover_X10_covers rfl rfl rfl (by decide +kernel) ⟨Nat.le_of_ble_eq_true rfl, Nat.le_of_ble_eq_true rfl⟩) (ro_preV 10 0 hK hP rfl rfl) rfl rfl hl.1 rfl (lv_room (Nat.le_of_ble_eq_true rfl)) dX10_cover_2 ⟨Nat.zero_le _, Nat.zero_le _⟩) hS hP (fun r_1 H locs wr_1 hP hS => ?_)
  obtain rfl := wr_1
  refine lv_istore_n (lv' := [(2, .int (-2)), (0, .ref (a 0)), (1, .int p0)]) hx hb dX10_cover_5 rfl hl (by decide) rfl (fun ls hl => ?_)
  refine lv_iload_n hx hb dX10_cover_6 rfl (lv_at hl 0 rfl) ?_
  refine lv_if_ge (tgt := 14) hx hb dX10_cover_7 (by decide) (fun c_2 => ?_) (fun c_2 => ?_)
  · exact absurd c_2 (by decide)
  · refine lv_iload_n hx hb dX10_cover_10 rfl (lv_at hl 0 rfl) ?_
    refine lv_goto (tgt := 18) hx hb dX10_cover_11 (by decide) ?_
    exact W.iret (v := (-2)) hx hb hr (fun t ht hW => ⟨⟨(-2), (), rfl, rfl, trivial⟩, hS.F ht⟩) hS.2.2 dX10_cover_18

set_option maxHeartbeats 4000000 in
set_option maxRecDepth 100000 in
theorem c_X10_bought (l : Launch) (G : va_G) (ct : Nat → ClassId) (a : Nat → Nat) (rr : Nat → Nat) (p0 : Int32)  : Met l yX10_bought wsX10_bought ({ frames := 3, cells := 0, slots := 0, locals := 64 }) (va_Pc [.ref (a 0), .int p0] (roP G ct (xF a rr ct))) (roQ (fun r => r = (-2))) 0 0 no := by
  refine Met.ofW (cc := cX10_bought) (maxL := 2) (ret := (some .int)) (by decide) rfl ?_
  intro p e s m args below meth c s₁ B hml hv
  obtain ⟨rfl, hP, hK⟩ := hv
  have hx := B.exec
  have hb := B.bytes
  have hr := B.returns
  have hts := atoms_spec (ws := wsX10_bought) B.pre
  have hown : s.vm.findClass RX10 = some m.cls := findClass_of_methodNamed B.named
  have hlocks := B.notSynchronized
  have hS : va_S no s.heap s.heap [] := va_S.rf
  have hl := lv_entry ([.ref (a 0), .int p0]) (n := 2) (Nat.le_of_ble_eq_true rfl)
  rw [lg_entry_eq]
  generalize (lg_sl ([.ref (a 0), .int p0]) ++ List.replicate (2 - (lg_sl ([.ref (a 0), .int p0])).length) Slot.unset).toArray = ls at hl ⊢
  have hl : lv_has ls 2 [(0, .ref (a 0)), (1, .int p0)] := hl
  refine lv_aload_n hx hb dX10_bought_0 rfl (lv_at hl 0 rfl) ?_
  refine ro_calli (va_runV (As := []) (rest := []) ⟨hx, hb, hml, hown, hts⟩ (c_X10_hasCity l G ct a rr) (cwV 0 hts gX10_bought_X10_hasCity rfl rfl rfl (by decide +kernel) ⟨Nat.le_of_ble_eq_true rfl, Nat.le_of_ble_eq_true rfl⟩) (ro_preV 10 0 hK hP rfl rfl) rfl rfl hl.1 rfl (lv_room (Nat.le_of_ble_eq_true rfl)) dX10_bought_1 ⟨Nat.zero_le _, Nat.zero_le _⟩) hS hP (fun r_1 H locs wr_1 hP hS => ?_)
  obtain rfl := wr_1
  refine lv_if_eq (tgt := 14) hx hb dX10_bought_4 (by decide) (fun c_2 => ?_) (fun c_2 => ?_)
  · refine lv_bipush (v := (-2)) hx hb dX10_bought_14 (by decide) ?_
    exact W.iret (v := (-2)) hx hb hr (fun t ht hW => ⟨⟨(-2), (), rfl, rfl, trivial⟩, hS.F ht⟩) hS.2.2 dX10_bought_16
  · exact absurd c_2 (by decide)

set_option maxHeartbeats 4000000 in
set_option maxRecDepth 100000 in
theorem c_X10_buy (l : Launch) (G : va_G) (ct : Nat → ClassId) (a : Nat → Nat) (rr : Nat → Nat) (p0 : Int32)  : Met l yX10_buy wsX10_buy ({ frames := 4, cells := 0, slots := 0, locals := 85 }) (va_Pc [.ref (a 0), .int p0] (roP G ct (xF a rr ct))) (roQ (fun r => r = (-2))) 0 0 no := by
  refine Met.ofW (cc := cX10_buy) (maxL := 3) (ret := (some .int)) (by decide) rfl ?_
  intro p e s m args below meth c s₁ B hml hv
  obtain ⟨rfl, hP, hK⟩ := hv
  have hx := B.exec
  have hb := B.bytes
  have hr := B.returns
  have hts := atoms_spec (ws := wsX10_buy) B.pre
  have hown : s.vm.findClass RX10 = some m.cls := findClass_of_methodNamed B.named
  have hlocks := B.notSynchronized
  have hS : va_S no s.heap s.heap [] := va_S.rf
  have hl := lv_entry ([.ref (a 0), .int p0]) (n := 3) (Nat.le_of_ble_eq_true rfl)
  rw [lg_entry_eq]
  generalize (lg_sl ([.ref (a 0), .int p0]) ++ List.replicate (3 - (lg_sl ([.ref (a 0), .int p0])).length) Slot.unset).toArray = ls at hl ⊢
  have hl : lv_has ls 3 [(0, .ref (a 0)), (1, .int p0)] := hl
  refine lv_aload_n hx hb dX10_buy_0 rfl (lv_at hl 0 rfl) ?_
  refine lv_iload_n hx hb dX10_buy_1 rfl (lv_at hl 1 rfl) ?_
  refine ro_calli (va_runV (As := [.int p0]) (rest := []) ⟨hx, hb, hml, hown, hts⟩ (c_X10_bought l G ct a rr p0) (cwV 1 hts gX10_buy_X10_bought rfl rfl rfl (by decide +kernel) ⟨Nat.le_of_ble_eq_true rfl, Nat.le_of_ble_eq_true rfl⟩) (ro_preV 10 0 hK hP rfl rfl) rfl rfl hl.1 rfl (lv_room (Nat.le_of_ble_eq_true rfl)) dX10_buy_2 ⟨Nat.zero_le _, Nat.zero_le _⟩) hS hP (fun r_1 H locs wr_1 hP hS => ?_)
  obtain rfl := wr_1
  refine lv_istore_n (lv' := [(2, .int (-2)), (0, .ref (a 0)), (1, .int p0)]) hx hb dX10_buy_5 rfl hl (by decide) rfl (fun ls hl => ?_)
  refine lv_iload_n hx hb dX10_buy_6 rfl (lv_at hl 0 rfl) ?_
  refine lv_if_ge (tgt := 14) hx hb dX10_buy_7 (by decide) (fun c_2 => ?_) (fun c_2 => ?_)
  · exact absurd c_2 (by decide)
  · refine lv_iload_n hx hb dX10_buy_10 rfl (lv_at hl 0 rfl) ?_
    refine lv_goto (tgt := 22) hx hb dX10_buy_11 (by decide) ?_
    exact W.iret (v := (-2)) hx hb hr (fun t ht hW => ⟨⟨(-2), (), rfl, rfl, trivial⟩, hS.F ht⟩) hS.2.2 dX10_buy_22

set_option maxHeartbeats 4000000 in
set_option maxRecDepth 100000 in
theorem c_X10_hired (l : Launch) (G : va_G) (ct : Nat → ClassId) (a : Nat → Nat) (rr : Nat → Nat) (p0 : Int32)  : Met l yX10_hired wsX10_hired ({ frames := 3, cells := 0, slots := 0, locals := 64 }) (va_Pc [.ref (a 0), .int p0] (roP G ct (xF a rr ct))) (roQ (fun r => r = (-2))) 0 0 no := by
  refine Met.ofW (cc := cX10_hired) (maxL := 2) (ret := (some .int)) (by decide) rfl ?_
  intro p e s m args below meth c s₁ B hml hv
  obtain ⟨rfl, hP, hK⟩ := hv
  have hx := B.exec
  have hb := B.bytes
  have hr := B.returns
  have hts := atoms_spec (ws := wsX10_hired) B.pre
  have hown : s.vm.findClass RX10 = some m.cls := findClass_of_methodNamed B.named
  have hlocks := B.notSynchronized
  have hS : va_S no s.heap s.heap [] := va_S.rf
  have hl := lv_entry ([.ref (a 0), .int p0]) (n := 2) (Nat.le_of_ble_eq_true rfl)
  rw [lg_entry_eq]
  generalize (lg_sl ([.ref (a 0), .int p0]) ++ List.replicate (2 - (lg_sl ([.ref (a 0), .int p0])).length) Slot.unset).toArray = ls at hl ⊢
  have hl : lv_has ls 2 [(0, .ref (a 0)), (1, .int p0)] := hl
  refine lv_aload_n hx hb dX10_hired_0 rfl (lv_at hl 0 rfl) ?_
  refine ro_calli (va_runV (As := []) (rest := []) ⟨hx, hb, hml, hown, hts⟩ (c_X10_hasCity l G ct a rr) (cwV 0 hts gX10_hired_X10_hasCity rfl rfl rfl (by decide +kernel) ⟨Nat.le_of_ble_eq_true rfl, Nat.le_of_ble_eq_true rfl⟩) (ro_preV 10 0 hK hP rfl rfl) rfl rfl hl.1 rfl (lv_room (Nat.le_of_ble_eq_true rfl)) dX10_hired_1 ⟨Nat.zero_le _, Nat.zero_le _⟩) hS hP (fun r_1 H locs wr_1 hP hS => ?_)
  obtain rfl := wr_1
  refine lv_if_eq (tgt := 18) hx hb dX10_hired_4 (by decide) (fun c_2 => ?_) (fun c_2 => ?_)
  · refine lv_bipush (v := (-2)) hx hb dX10_hired_18 (by decide) ?_
    exact W.iret (v := (-2)) hx hb hr (fun t ht hW => ⟨⟨(-2), (), rfl, rfl, trivial⟩, hS.F ht⟩) hS.2.2 dX10_hired_20
  · exact absurd c_2 (by decide)

set_option maxHeartbeats 4000000 in
set_option maxRecDepth 100000 in
theorem c_X10_deeds (l : Launch) (G : va_G) (ct : Nat → ClassId) (a : Nat → Nat) (rr : Nat → Nat) (p0 : Int32)  : Met l yX10_deeds wsX10_deeds ({ frames := 4, cells := 0, slots := 0, locals := 85 }) (va_Pc [.ref (a 0), .int p0] (roP G ct (xF a rr ct))) (roQ (fun r => r = (-2))) 0 0 no := by
  refine Met.ofW (cc := cX10_deeds) (maxL := 3) (ret := (some .int)) (by decide) rfl ?_
  intro p e s m args below meth c s₁ B hml hv
  obtain ⟨rfl, hP, hK⟩ := hv
  have hx := B.exec
  have hb := B.bytes
  have hr := B.returns
  have hts := atoms_spec (ws := wsX10_deeds) B.pre
  have hown : s.vm.findClass RX10 = some m.cls := findClass_of_methodNamed B.named
  have hlocks := B.notSynchronized
  have hS : va_S no s.heap s.heap [] := va_S.rf
  have hl := lv_entry ([.ref (a 0), .int p0]) (n := 3) (Nat.le_of_ble_eq_true rfl)
  rw [lg_entry_eq]
  generalize (lg_sl ([.ref (a 0), .int p0]) ++ List.replicate (3 - (lg_sl ([.ref (a 0), .int p0])).length) Slot.unset).toArray = ls at hl ⊢
  have hl : lv_has ls 3 [(0, .ref (a 0)), (1, .int p0)] := hl
  refine lv_aload_n hx hb dX10_deeds_0 rfl (lv_at hl 0 rfl) ?_
  refine lv_iload_n hx hb dX10_deeds_1 rfl (lv_at hl 1 rfl) ?_
  refine ro_calli (va_runV (As := [.int p0]) (rest := []) ⟨hx, hb, hml, hown, hts⟩ (c_X10_hired l G ct a rr p0) (cwV 1 hts gX10_deeds_X10_hired rfl rfl rfl (by decide +kernel) ⟨Nat.le_of_ble_eq_true rfl, Nat.le_of_ble_eq_true rfl⟩) (ro_preV 10 0 hK hP rfl rfl) rfl rfl hl.1 rfl (lv_room (Nat.le_of_ble_eq_true rfl)) dX10_deeds_2 ⟨Nat.zero_le _, Nat.zero_le _⟩) hS hP (fun r_1 H locs wr_1 hP hS => ?_)
  obtain rfl := wr_1
  refine lv_istore_n (lv' := [(2, .int (-2)), (0, .ref (a 0)), (1, .int p0)]) hx hb dX10_deeds_5 rfl hl (by decide) rfl (fun ls hl => ?_)
  refine lv_iload_n hx hb dX10_deeds_6 rfl (lv_at hl 0 rfl) ?_
  refine lv_if_ge (tgt := 14) hx hb dX10_deeds_7 (by decide) (fun c_2 => ?_) (fun c_2 => ?_)
  · exact absurd c_2 (by decide)
  · refine lv_iload_n hx hb dX10_deeds_10 rfl (lv_at hl 0 rfl) ?_
    refine lv_goto (tgt := 25) hx hb dX10_deeds_11 (by decide) ?_
    exact W.iret (v := (-2)) hx hb hr (fun t ht hW => ⟨⟨(-2), (), rfl, rfl, trivial⟩, hS.F ht⟩) hS.2.2 dX10_deeds_25

def slotP (s r : Int32) : Prop := (r.toInt = 1 ∧ 0 ≤ s.toInt ∧ s.toInt < 4) ∨ (r.toInt = 0 ∧ (s.toInt < 0 ∨ 4 ≤ s.toInt))
def bP (r : Int32) : Prop := r.toInt = 0 ∨ r.toInt = 1
set_option maxHeartbeats 4000000 in
set_option maxRecDepth 100000 in
theorem c_X6_isSlot (l : Launch) (G : va_G) (ct : Nat → ClassId) (h0 : Nat) (n0 : Nat) (n1 : Nat) (n2 : Nat) (k0 : Int32) (p0 : Int32)  : Met l yX6_isSlot wsX6_isSlot ({ frames := 0, cells := 0, slots := 0, locals := 0 }) (va_Pc [.ref h0, .int p0] (roP G ct [(h0, .inr (6, [.ref n0, .ref n1, .ref n2, .int k0]))])) (roQ (fun r => slotP p0 r)) 0 0 no := by
  refine Met.ofW (cc := cX6_isSlot) (maxL := 2) (ret := (some .boolean)) (by decide) rfl ?_
  intro p e s m args below meth c s₁ B hml hv
  obtain ⟨rfl, hP, hK⟩ := hv
  have hx := B.exec
  have hb := B.bytes
  have hr := B.returns
  have hts := atoms_spec (ws := wsX6_isSlot) B.pre
  have hown : s.vm.findClass RX6 = some m.cls := findClass_of_methodNamed B.named
  have hlocks := B.notSynchronized
  have hS : va_S no s.heap s.heap [] := va_S.rf
  have hl := lv_entry ([.ref h0, .int p0]) (n := 2) (Nat.le_of_ble_eq_true rfl)
  rw [lg_entry_eq]
  generalize (lg_sl ([.ref h0, .int p0]) ++ List.replicate (2 - (lg_sl ([.ref h0, .int p0])).length) Slot.unset).toArray = ls at hl ⊢
  have hl : lv_has ls 2 [(0, .ref h0), (1, .int p0)] := hl
  refine lv_iload_n hx hb dX6_isSlot_0 rfl (lv_at hl 1 rfl) ?_
  refine lv_if_lt (tgt := 13) hx hb dX6_isSlot_1 (by decide) (fun c_1 => ?_) (fun c_1 => ?_)
  · refine lv_iconst (v := 0) hx hb dX6_isSlot_13 (by decide) ?_
    exact W.zret (v := 0) (ty := .boolean) hx hb hr (rfl) (fun t ht hW => ⟨⟨0, (), rfl, by have f0 := i_lt c_1; have : (0 : Int32).toInt = 0 := (by decide); show slotP p0 (0 : Int32); unfold slotP; omega, trivial⟩, hS.F ht⟩) hS.2.2 dX6_isSlot_14
  · refine lv_iload_n hx hb dX6_isSlot_4 rfl (lv_at hl 1 rfl) ?_
    refine lv_iconst (v := 4) hx hb dX6_isSlot_5 (by decide) ?_
    refine lv_icmp_ge (tgt := 13) hx hb dX6_isSlot_6 (by decide) (fun c_2 => ?_) (fun c_2 => ?_)
    · refine lv_iconst (v := 0) hx hb dX6_isSlot_13 (by decide) ?_
      exact W.zret (v := 0) (ty := .boolean) hx hb hr (rfl) (fun t ht hW => ⟨⟨0, (), rfl, by have f0 := i_nlt c_1; have f1 := i_le c_2; have : (0 : Int32).toInt = 0 := (by decide); have : (4 : Int32).toInt = 4 := (by decide); show slotP p0 (0 : Int32); unfold slotP; omega, trivial⟩, hS.F ht⟩) hS.2.2 dX6_isSlot_14
    · refine lv_iconst (v := 1) hx hb dX6_isSlot_9 (by decide) ?_
      refine lv_goto (tgt := 14) hx hb dX6_isSlot_10 (by decide) ?_
      exact W.zret (v := 1) (ty := .boolean) hx hb hr (rfl) (fun t ht hW => ⟨⟨1, (), rfl, by have f0 := i_nlt c_1; have f1 := i_nle c_2; have : (0 : Int32).toInt = 0 := (by decide); have : (1 : Int32).toInt = 1 := (by decide); have : (4 : Int32).toInt = 4 := (by decide); show slotP p0 (1 : Int32); unfold slotP; omega, trivial⟩, hS.F ht⟩) hS.2.2 dX6_isSlot_14

set_option maxHeartbeats 4000000 in
set_option maxRecDepth 100000 in
theorem c_X10_isSeed (l : Launch) (G : va_G) (ct : Nat → ClassId) (p0 : Int32)  : Met l yX10_isSeed wsX10_isSeed ({ frames := 0, cells := 0, slots := 0, locals := 0 }) (va_Pc [.int p0] (roP G ct [])) (roQ (fun r => bP r)) 0 0 no := by
  refine Met.ofW (cc := cX10_isSeed) (maxL := 1) (ret := (some .boolean)) (by decide) rfl ?_
  intro p e s m args below meth c s₁ B hml hv
  obtain ⟨rfl, hP, hK⟩ := hv
  have hx := B.exec
  have hb := B.bytes
  have hr := B.returns
  have hts := atoms_spec (ws := wsX10_isSeed) B.pre
  have hown : s.vm.findClass RX10 = some m.cls := findClass_of_methodNamed B.named
  have hlocks := B.notSynchronized
  have hS : va_S no s.heap s.heap [] := va_S.rf
  have hl := lv_entry ([.int p0]) (n := 1) (Nat.le_of_ble_eq_true rfl)
  rw [lg_entry_eq]
  generalize (lg_sl ([.int p0]) ++ List.replicate (1 - (lg_sl ([.int p0])).length) Slot.unset).toArray = ls at hl ⊢
  have hl : lv_has ls 1 [(0, .int p0)] := hl
  refine lv_iload_n hx hb dX10_isSeed_0 rfl (lv_at hl 0 rfl) ?_
  refine lv_if_lt (tgt := 15) hx hb dX10_isSeed_1 (by decide) (fun c_1 => ?_) (fun c_1 => ?_)
  · refine lv_iconst (v := 0) hx hb dX10_isSeed_15 (by decide) ?_
    exact W.zret (v := 0) (ty := .boolean) hx hb hr (rfl) (fun t ht hW => ⟨⟨0, (), rfl, by have f0 := i_lt c_1; have : (0 : Int32).toInt = 0 := (by decide); show bP (0 : Int32); unfold bP; omega, trivial⟩, hS.F ht⟩) hS.2.2 dX10_isSeed_16
  · refine lv_iload_n hx hb dX10_isSeed_4 rfl (lv_at hl 0 rfl) ?_
    refine lv_ldcw (own := RX10) (v := 2000000000) hx hb hown (hts (.constant RX10 457 (2000000000)) (by decide +kernel)) dX10_isSeed_5 ?_
    refine lv_icmp_gt (tgt := 15) hx hb dX10_isSeed_8 (by decide) (fun c_2 => ?_) (fun c_2 => ?_)
    · refine lv_iconst (v := 0) hx hb dX10_isSeed_15 (by decide) ?_
      exact W.zret (v := 0) (ty := .boolean) hx hb hr (rfl) (fun t ht hW => ⟨⟨0, (), rfl, by have f0 := i_nlt c_1; have f1 := i_lt c_2; have : (0 : Int32).toInt = 0 := (by decide); have : (2000000000 : Int32).toInt = 2000000000 := (by decide); show bP (0 : Int32); unfold bP; omega, trivial⟩, hS.F ht⟩) hS.2.2 dX10_isSeed_16
    · refine lv_iconst (v := 1) hx hb dX10_isSeed_11 (by decide) ?_
      refine lv_goto (tgt := 16) hx hb dX10_isSeed_12 (by decide) ?_
      exact W.zret (v := 1) (ty := .boolean) hx hb hr (rfl) (fun t ht hW => ⟨⟨1, (), rfl, by have f0 := i_nlt c_1; have f1 := i_nlt c_2; have : (0 : Int32).toInt = 0 := (by decide); have : (1 : Int32).toInt = 1 := (by decide); have : (2000000000 : Int32).toInt = 2000000000 := (by decide); show bP (1 : Int32); unfold bP; omega, trivial⟩, hS.F ht⟩) hS.2.2 dX10_isSeed_16

set_option maxHeartbeats 4000000 in
set_option maxRecDepth 100000 in
theorem c_X10_isSquareNumber (l : Launch) (G : va_G) (ct : Nat → ClassId) (p0 : Int32)  : Met l yX10_isSquareNumber wsX10_isSquareNumber ({ frames := 0, cells := 0, slots := 0, locals := 0 }) (va_Pc [.int p0] (roP G ct [])) (roQ (fun r => bP r)) 0 0 no := by
  refine Met.ofW (cc := cX10_isSquareNumber) (maxL := 1) (ret := (some .boolean)) (by decide) rfl ?_
  intro p e s m args below meth c s₁ B hml hv
  obtain ⟨rfl, hP, hK⟩ := hv
  have hx := B.exec
  have hb := B.bytes
  have hr := B.returns
  have hts := atoms_spec (ws := wsX10_isSquareNumber) B.pre
  have hown : s.vm.findClass RX10 = some m.cls := findClass_of_methodNamed B.named
  have hlocks := B.notSynchronized
  have hS : va_S no s.heap s.heap [] := va_S.rf
  have hl := lv_entry ([.int p0]) (n := 1) (Nat.le_of_ble_eq_true rfl)
  rw [lg_entry_eq]
  generalize (lg_sl ([.int p0]) ++ List.replicate (1 - (lg_sl ([.int p0])).length) Slot.unset).toArray = ls at hl ⊢
  have hl : lv_has ls 1 [(0, .int p0)] := hl
  refine lv_iload_n hx hb dX10_isSquareNumber_0 rfl (lv_at hl 0 rfl) ?_
  refine lv_iconst (v := 1) hx hb dX10_isSquareNumber_1 (by decide) ?_
  refine lv_icmp_lt (tgt := 15) hx hb dX10_isSquareNumber_2 (by decide) (fun c_1 => ?_) (fun c_1 => ?_)
  · refine lv_iconst (v := 0) hx hb dX10_isSquareNumber_15 (by decide) ?_
    exact W.zret (v := 0) (ty := .boolean) hx hb hr (rfl) (fun t ht hW => ⟨⟨0, (), rfl, by have f0 := i_lt c_1; have : (0 : Int32).toInt = 0 := (by decide); have : (1 : Int32).toInt = 1 := (by decide); show bP (0 : Int32); unfold bP; omega, trivial⟩, hS.F ht⟩) hS.2.2 dX10_isSquareNumber_16
  · refine lv_iload_n hx hb dX10_isSquareNumber_5 rfl (lv_at hl 0 rfl) ?_
    refine lv_bipush (v := 20) hx hb dX10_isSquareNumber_6 (by decide) ?_
    refine lv_icmp_gt (tgt := 15) hx hb dX10_isSquareNumber_8 (by decide) (fun c_2 => ?_) (fun c_2 => ?_)
    · refine lv_iconst (v := 0) hx hb dX10_isSquareNumber_15 (by decide) ?_
      exact W.zret (v := 0) (ty := .boolean) hx hb hr (rfl) (fun t ht hW => ⟨⟨0, (), rfl, by have f0 := i_nlt c_1; have f1 := i_lt c_2; have : (0 : Int32).toInt = 0 := (by decide); have : (1 : Int32).toInt = 1 := (by decide); have : (20 : Int32).toInt = 20 := (by decide); show bP (0 : Int32); unfold bP; omega, trivial⟩, hS.F ht⟩) hS.2.2 dX10_isSquareNumber_16
    · refine lv_iconst (v := 1) hx hb dX10_isSquareNumber_11 (by decide) ?_
      refine lv_goto (tgt := 16) hx hb dX10_isSquareNumber_12 (by decide) ?_
      exact W.zret (v := 1) (ty := .boolean) hx hb hr (rfl) (fun t ht hW => ⟨⟨1, (), rfl, by have f0 := i_nlt c_1; have f1 := i_nlt c_2; have : (1 : Int32).toInt = 1 := (by decide); have : (20 : Int32).toInt = 20 := (by decide); show bP (1 : Int32); unfold bP; omega, trivial⟩, hS.F ht⟩) hS.2.2 dX10_isSquareNumber_16

set_option maxHeartbeats 4000000 in
set_option maxRecDepth 100000 in
theorem c_X10_isDeed (l : Launch) (G : va_G) (ct : Nat → ClassId) (p0 : Int32)  : Met l yX10_isDeed wsX10_isDeed ({ frames := 0, cells := 0, slots := 0, locals := 0 }) (va_Pc [.int p0] (roP G ct [])) (roQ (fun r => bP r)) 0 0 no := by
  refine Met.ofW (cc := cX10_isDeed) (maxL := 1) (ret := (some .boolean)) (by decide) rfl ?_
  intro p e s m args below meth c s₁ B hml hv
  obtain ⟨rfl, hP, hK⟩ := hv
  have hx := B.exec
  have hb := B.bytes
  have hr := B.returns
  have hts := atoms_spec (ws := wsX10_isDeed) B.pre
  have hown : s.vm.findClass RX10 = some m.cls := findClass_of_methodNamed B.named
  have hlocks := B.notSynchronized
  have hS : va_S no s.heap s.heap [] := va_S.rf
  have hl := lv_entry ([.int p0]) (n := 1) (Nat.le_of_ble_eq_true rfl)
  rw [lg_entry_eq]
  generalize (lg_sl ([.int p0]) ++ List.replicate (1 - (lg_sl ([.int p0])).length) Slot.unset).toArray = ls at hl ⊢
  have hl : lv_has ls 1 [(0, .int p0)] := hl
  refine lv_iload_n hx hb dX10_isDeed_0 rfl (lv_at hl 0 rfl) ?_
  refine lv_if_lt (tgt := 14) hx hb dX10_isDeed_1 (by decide) (fun c_1 => ?_) (fun c_1 => ?_)
  · refine lv_iconst (v := 0) hx hb dX10_isDeed_14 (by decide) ?_
    exact W.zret (v := 0) (ty := .boolean) hx hb hr (rfl) (fun t ht hW => ⟨⟨0, (), rfl, by have f0 := i_lt c_1; have : (0 : Int32).toInt = 0 := (by decide); show bP (0 : Int32); unfold bP; omega, trivial⟩, hS.F ht⟩) hS.2.2 dX10_isDeed_15
  · refine lv_iload_n hx hb dX10_isDeed_4 rfl (lv_at hl 0 rfl) ?_
    refine lv_bipush (v := 6) hx hb dX10_isDeed_5 (by decide) ?_
    refine lv_icmp_ge (tgt := 14) hx hb dX10_isDeed_7 (by decide) (fun c_2 => ?_) (fun c_2 => ?_)
    · refine lv_iconst (v := 0) hx hb dX10_isDeed_14 (by decide) ?_
      exact W.zret (v := 0) (ty := .boolean) hx hb hr (rfl) (fun t ht hW => ⟨⟨0, (), rfl, by have f0 := i_nlt c_1; have f1 := i_le c_2; have : (0 : Int32).toInt = 0 := (by decide); have : (6 : Int32).toInt = 6 := (by decide); show bP (0 : Int32); unfold bP; omega, trivial⟩, hS.F ht⟩) hS.2.2 dX10_isDeed_15
    · refine lv_iconst (v := 1) hx hb dX10_isDeed_10 (by decide) ?_
      refine lv_goto (tgt := 15) hx hb dX10_isDeed_11 (by decide) ?_
      exact W.zret (v := 1) (ty := .boolean) hx hb hr (rfl) (fun t ht hW => ⟨⟨1, (), rfl, by have f0 := i_nlt c_1; have f1 := i_nle c_2; have : (0 : Int32).toInt = 0 := (by decide); have : (1 : Int32).toInt = 1 := (by decide); have : (6 : Int32).toInt = 6 := (by decide); show bP (1 : Int32); unfold bP; omega, trivial⟩, hS.F ht⟩) hS.2.2 dX10_isDeed_15

set_option maxHeartbeats 4000000 in
set_option maxRecDepth 100000 in
theorem c_X10_isDeedSet (l : Launch) (G : va_G) (ct : Nat → ClassId) (p0 : Int32)  : Met l yX10_isDeedSet wsX10_isDeedSet ({ frames := 0, cells := 0, slots := 0, locals := 0 }) (va_Pc [.int p0] (roP G ct [])) (roQ (fun r => bP r)) 0 0 no := by
  refine Met.ofW (cc := cX10_isDeedSet) (maxL := 1) (ret := (some .boolean)) (by decide) rfl ?_
  intro p e s m args below meth c s₁ B hml hv
  obtain ⟨rfl, hP, hK⟩ := hv
  have hx := B.exec
  have hb := B.bytes
  have hr := B.returns
  have hts := atoms_spec (ws := wsX10_isDeedSet) B.pre
  have hown : s.vm.findClass RX10 = some m.cls := findClass_of_methodNamed B.named
  have hlocks := B.notSynchronized
  have hS : va_S no s.heap s.heap [] := va_S.rf
  have hl := lv_entry ([.int p0]) (n := 1) (Nat.le_of_ble_eq_true rfl)
  rw [lg_entry_eq]
  generalize (lg_sl ([.int p0]) ++ List.replicate (1 - (lg_sl ([.int p0])).length) Slot.unset).toArray = ls at hl ⊢
  have hl : lv_has ls 1 [(0, .int p0)] := hl
  refine lv_iload_n hx hb dX10_isDeedSet_0 rfl (lv_at hl 0 rfl) ?_
  refine lv_if_lt (tgt := 14) hx hb dX10_isDeedSet_1 (by decide) (fun c_1 => ?_) (fun c_1 => ?_)
  · refine lv_iconst (v := 0) hx hb dX10_isDeedSet_14 (by decide) ?_
    exact W.zret (v := 0) (ty := .boolean) hx hb hr (rfl) (fun t ht hW => ⟨⟨0, (), rfl, by have f0 := i_lt c_1; have : (0 : Int32).toInt = 0 := (by decide); show bP (0 : Int32); unfold bP; omega, trivial⟩, hS.F ht⟩) hS.2.2 dX10_isDeedSet_15
  · refine lv_iload_n hx hb dX10_isDeedSet_4 rfl (lv_at hl 0 rfl) ?_
    refine lv_bipush (v := 64) hx hb dX10_isDeedSet_5 (by decide) ?_
    refine lv_icmp_ge (tgt := 14) hx hb dX10_isDeedSet_7 (by decide) (fun c_2 => ?_) (fun c_2 => ?_)
    · refine lv_iconst (v := 0) hx hb dX10_isDeedSet_14 (by decide) ?_
      exact W.zret (v := 0) (ty := .boolean) hx hb hr (rfl) (fun t ht hW => ⟨⟨0, (), rfl, by have f0 := i_nlt c_1; have f1 := i_le c_2; have : (0 : Int32).toInt = 0 := (by decide); have : (64 : Int32).toInt = 64 := (by decide); show bP (0 : Int32); unfold bP; omega, trivial⟩, hS.F ht⟩) hS.2.2 dX10_isDeedSet_15
    · refine lv_iconst (v := 1) hx hb dX10_isDeedSet_10 (by decide) ?_
      refine lv_goto (tgt := 15) hx hb dX10_isDeedSet_11 (by decide) ?_
      exact W.zret (v := 1) (ty := .boolean) hx hb hr (rfl) (fun t ht hW => ⟨⟨1, (), rfl, by have f0 := i_nlt c_1; have f1 := i_nle c_2; have : (0 : Int32).toInt = 0 := (by decide); have : (1 : Int32).toInt = 1 := (by decide); have : (64 : Int32).toInt = 64 := (by decide); show bP (1 : Int32); unfold bP; omega, trivial⟩, hS.F ht⟩) hS.2.2 dX10_isDeedSet_15

set_option maxHeartbeats 4000000 in
set_option maxRecDepth 100000 in
theorem c_X10_person (l : Launch) (G : va_G) (ct : Nat → ClassId) (a : Nat → Nat) (rr : Nat → Nat) (p0 : Int32) (p1 : Int32)  : Met l yX10_person wsX10_person ({ frames := 3, cells := 0, slots := 0, locals := 65 }) (va_Pc [.ref (a 0), .int p0, .int p1] (roP G ct (xF a rr ct))) (roQ (fun r => r = (-2))) 0 0 no := by
  refine Met.ofW (cc := cX10_person) (maxL := 3) (ret := (some .int)) (by decide) rfl ?_
  intro p e s m args below meth c s₁ B hml hv
  obtain ⟨rfl, hP, hK⟩ := hv
  have hx := B.exec
  have hb := B.bytes
  have hr := B.returns
  have hts := atoms_spec (ws := wsX10_person) B.pre
  have hown : s.vm.findClass RX10 = some m.cls := findClass_of_methodNamed B.named
  have hlocks := B.notSynchronized
  have hS : va_S no s.heap s.heap [] := va_S.rf
  have hl := lv_entry ([.ref (a 0), .int p0, .int p1]) (n := 3) (Nat.le_of_ble_eq_true rfl)
  rw [lg_entry_eq]
  generalize (lg_sl ([.ref (a 0), .int p0, .int p1]) ++ List.replicate (3 - (lg_sl ([.ref (a 0), .int p0, .int p1])).length) Slot.unset).toArray = ls at hl ⊢
  have hl : lv_has ls 3 [(0, .ref (a 0)), (1, .int p0), (2, .int p1)] := hl
  refine lv_aload_n hx hb dX10_person_0 rfl (lv_at hl 0 rfl) ?_
  refine lv_iload_n hx hb dX10_person_1 rfl (lv_at hl 1 rfl) ?_
  refine ro_calli (va_runV (As := [.int p0]) (rest := []) ⟨hx, hb, hml, hown, hts⟩ (c_X10_isPerson l G ct a rr p0) (cwV 1 hts gX10_person_X10_isPerson rfl rfl rfl (by decide +kernel) ⟨Nat.le_of_ble_eq_true rfl, Nat.le_of_ble_eq_true rfl⟩) (ro_preV 10 0 hK hP rfl rfl) rfl rfl hl.1 rfl (lv_room (Nat.le_of_ble_eq_true rfl)) dX10_person_2 ⟨Nat.zero_le _, Nat.zero_le _⟩) hS hP (fun r_1 H locs wr_1 hP hS => ?_)
  obtain rfl := wr_1
  refine lv_if_ne (tgt := 11) hx hb dX10_person_5 (by decide) (fun c_2 => ?_) (fun c_2 => ?_)
  · exact absurd c_2 (by decide)
  · refine lv_bipush (v := (-2)) hx hb dX10_person_8 (by decide) ?_
    exact W.iret (v := (-2)) hx hb hr (fun t ht hW => ⟨⟨(-2), (), rfl, rfl, trivial⟩, hS.F ht⟩) hS.2.2 dX10_person_10

set_option maxHeartbeats 4000000 in
set_option maxRecDepth 100000 in
theorem c_X10_slotState (l : Launch) (G : va_G) (ct : Nat → ClassId) (a : Nat → Nat) (rr : Nat → Nat) (p0 : Int32)  : Met l yX10_slotState wsX10_slotState ({ frames := 2, cells := 0, slots := 0, locals := 42 }) (va_Pc [.ref (a 0), .int p0] (roP G ct (xF a rr ct))) (roQ (fun r => r = (-2))) 0 0 no := by
  refine Met.ofW (cc := cX10_slotState) (maxL := 2) (ret := (some .int)) (by decide) rfl ?_
  intro p e s m args below meth c s₁ B hml hv
  obtain ⟨rfl, hP, hK⟩ := hv
  have hx := B.exec
  have hb := B.bytes
  have hr := B.returns
  have hts := atoms_spec (ws := wsX10_slotState) B.pre
  have hown : s.vm.findClass RX10 = some m.cls := findClass_of_methodNamed B.named
  have hlocks := B.notSynchronized
  have hS : va_S no s.heap s.heap [] := va_S.rf
  have hl := lv_entry ([.ref (a 0), .int p0]) (n := 2) (Nat.le_of_ble_eq_true rfl)
  rw [lg_entry_eq]
  generalize (lg_sl ([.ref (a 0), .int p0]) ++ List.replicate (2 - (lg_sl ([.ref (a 0), .int p0])).length) Slot.unset).toArray = ls at hl ⊢
  have hl : lv_has ls 2 [(0, .ref (a 0)), (1, .int p0)] := hl
  refine lv_aload_n hx hb dX10_slotState_0 rfl (lv_at hl 0 rfl) ?_
  refine va_get (D := G) (ci := 10) (v := .ref (a 69)) (C := RX10) (T := TX10) (N := 11) hx hb hts (by decide +kernel) hown hK.1 hP 0 rfl rfl 5 (by decide) (hts (.fieldLink RX10 43 "CardHolder" "rows" "LCardHolder$Rows;") (by decide +kernel)) (fun _ h9 => h9) rfl dX10_slotState_1 ?_
  refine lv_iload_n hx hb dX10_slotState_4 rfl (lv_at hl 1 rfl) ?_
  refine ro_calli (va_runV (As := [.int p0]) (rest := []) ⟨hx, hb, hml, hown, hts⟩ (c_X6_isSlot l G ct (a 69) (a 70) (a 75) (a 76) 0 p0) (cwV 1 hts gX10_slotState_X6_isSlot rfl rfl rfl (by decide +kernel) ⟨Nat.le_of_ble_eq_true rfl, Nat.le_of_ble_eq_true rfl⟩) (ro_preV 6 0 hK (hP.sub [69] rfl) rfl rfl) rfl rfl hl.1 rfl (lv_room (Nat.le_of_ble_eq_true rfl)) dX10_slotState_5 ⟨Nat.zero_le _, Nat.zero_le _⟩) hS hP (fun r_1 H locs wr_1 hP hS => ?_)
  refine lv_if_eq (tgt := 18) hx hb dX10_slotState_8 (by decide) (fun c_2 => ?_) (fun c_2 => ?_)
  · refine lv_bipush (v := (-2)) hx hb dX10_slotState_18 (by decide) ?_
    exact W.iret (v := (-2)) hx hb hr (fun t ht hW => ⟨⟨(-2), (), rfl, rfl, trivial⟩, hS.F ht⟩) hS.2.2 dX10_slotState_20
  · refine lv_aload_n hx hb dX10_slotState_11 rfl (lv_at hl 0 rfl) ?_
    refine ro_calli (va_runV (As := []) (rest := []) ⟨hx, hb, hml, hown, hts⟩ (c_X10_hasCity l G ct a rr) (cwV 0 hts gX10_slotState_X10_hasCity rfl rfl rfl (by decide +kernel) ⟨Nat.le_of_ble_eq_true rfl, Nat.le_of_ble_eq_true rfl⟩) (ro_preV 10 0 hK hP rfl rfl) rfl rfl hl.1 rfl (lv_room (Nat.le_of_ble_eq_true rfl)) dX10_slotState_12 ⟨Nat.zero_le _, Nat.zero_le _⟩) hS hP (fun r_3 H locs wr_3 hP hS => ?_)
    obtain rfl := wr_3
    refine lv_if_ne (tgt := 21) hx hb dX10_slotState_15 (by decide) (fun c_4 => ?_) (fun c_4 => ?_)
    · exact absurd c_4 (by decide)
    · refine lv_bipush (v := (-2)) hx hb dX10_slotState_18 (by decide) ?_
      exact W.iret (v := (-2)) hx hb hr (fun t ht hW => ⟨⟨(-2), (), rfl, rfl, trivial⟩, hS.F ht⟩) hS.2.2 dX10_slotState_20

set_option maxHeartbeats 4000000 in
set_option maxRecDepth 100000 in
theorem c_X10_deedRowState (l : Launch) (G : va_G) (ct : Nat → ClassId) (a : Nat → Nat) (rr : Nat → Nat) (p0 : Int32)  : Met l yX10_deedRowState wsX10_deedRowState ({ frames := 4, cells := 0, slots := 0, locals := 87 }) (va_Pc [.ref (a 0), .int p0] (roP G ct (xF a rr ct))) (roQ (fun r => r = (-2))) 0 0 no := by
  refine Met.ofW (cc := cX10_deedRowState) (maxL := 6) (ret := (some .int)) (by decide) rfl ?_
  intro p e s m args below meth c s₁ B hml hv
  obtain ⟨rfl, hP, hK⟩ := hv
  have hx := B.exec
  have hb := B.bytes
  have hr := B.returns
  have hts := atoms_spec (ws := wsX10_deedRowState) B.pre
  have hown : s.vm.findClass RX10 = some m.cls := findClass_of_methodNamed B.named
  have hlocks := B.notSynchronized
  have hS : va_S no s.heap s.heap [] := va_S.rf
  have hl := lv_entry ([.ref (a 0), .int p0]) (n := 6) (Nat.le_of_ble_eq_true rfl)
  rw [lg_entry_eq]
  generalize (lg_sl ([.ref (a 0), .int p0]) ++ List.replicate (6 - (lg_sl ([.ref (a 0), .int p0])).length) Slot.unset).toArray = ls at hl ⊢
  have hl : lv_has ls 6 [(0, .ref (a 0)), (1, .int p0)] := hl
  refine lv_aload_n hx hb dX10_deedRowState_0 rfl (lv_at hl 0 rfl) ?_
  refine lv_iload_n hx hb dX10_deedRowState_1 rfl (lv_at hl 1 rfl) ?_
  refine ro_calli (va_runV (As := [.int p0]) (rest := []) ⟨hx, hb, hml, hown, hts⟩ (c_X10_slotState l G ct a rr p0) (cwV 1 hts gX10_deedRowState_X10_slotState rfl rfl rfl (by decide +kernel) ⟨Nat.le_of_ble_eq_true rfl, Nat.le_of_ble_eq_true rfl⟩) (ro_preV 10 0 hK hP rfl rfl) rfl rfl hl.1 rfl (lv_room (Nat.le_of_ble_eq_true rfl)) dX10_deedRowState_2 ⟨Nat.zero_le _, Nat.zero_le _⟩) hS hP (fun r_1 H locs wr_1 hP hS => ?_)
  obtain rfl := wr_1
  refine lv_istore_n (lv' := [(2, .int (-2)), (0, .ref (a 0)), (1, .int p0)]) hx hb dX10_deedRowState_5 rfl hl (by decide) rfl (fun ls hl => ?_)
  refine lv_iload_n hx hb dX10_deedRowState_6 rfl (lv_at hl 0 rfl) ?_
  refine lv_if_eq (tgt := 12) hx hb dX10_deedRowState_7 (by decide) (fun c_2 => ?_) (fun c_2 => ?_)
  · exact absurd c_2 (by decide)
  · refine lv_iload_n hx hb dX10_deedRowState_10 rfl (lv_at hl 0 rfl) ?_
    exact W.iret (v := (-2)) hx hb hr (fun t ht hW => ⟨⟨(-2), (), rfl, rfl, trivial⟩, hS.F ht⟩) hS.2.2 dX10_deedRowState_11

set_option maxHeartbeats 4000000 in
set_option maxRecDepth 100000 in
theorem c_X10_askingRowState (l : Launch) (G : va_G) (ct : Nat → ClassId) (a : Nat → Nat) (rr : Nat → Nat) (p0 : Int32)  : Met l yX10_askingRowState wsX10_askingRowState ({ frames := 5, cells := 0, slots := 0, locals := 117 }) (va_Pc [.ref (a 0), .int p0] (roP G ct (xF a rr ct))) (roQ (fun r => r = (-2))) 0 0 no := by
  refine Met.ofW (cc := cX10_askingRowState) (maxL := 4) (ret := (some .int)) (by decide) rfl ?_
  intro p e s m args below meth c s₁ B hml hv
  obtain ⟨rfl, hP, hK⟩ := hv
  have hx := B.exec
  have hb := B.bytes
  have hr := B.returns
  have hts := atoms_spec (ws := wsX10_askingRowState) B.pre
  have hown : s.vm.findClass RX10 = some m.cls := findClass_of_methodNamed B.named
  have hlocks := B.notSynchronized
  have hS : va_S no s.heap s.heap [] := va_S.rf
  have hl := lv_entry ([.ref (a 0), .int p0]) (n := 4) (Nat.le_of_ble_eq_true rfl)
  rw [lg_entry_eq]
  generalize (lg_sl ([.ref (a 0), .int p0]) ++ List.replicate (4 - (lg_sl ([.ref (a 0), .int p0])).length) Slot.unset).toArray = ls at hl ⊢
  have hl : lv_has ls 4 [(0, .ref (a 0)), (1, .int p0)] := hl
  refine lv_aload_n hx hb dX10_askingRowState_0 rfl (lv_at hl 0 rfl) ?_
  refine lv_iload_n hx hb dX10_askingRowState_1 rfl (lv_at hl 1 rfl) ?_
  refine ro_calli (va_runV (As := [.int p0]) (rest := []) ⟨hx, hb, hml, hown, hts⟩ (c_X10_slotState l G ct a rr p0) (cwV 1 hts gX10_askingRowState_X10_slotState rfl rfl rfl (by decide +kernel) ⟨Nat.le_of_ble_eq_true rfl, Nat.le_of_ble_eq_true rfl⟩) (ro_preV 10 0 hK hP rfl rfl) rfl rfl hl.1 rfl (lv_room (Nat.le_of_ble_eq_true rfl)) dX10_askingRowState_2 ⟨Nat.zero_le _, Nat.zero_le _⟩) hS hP (fun r_1 H locs wr_1 hP hS => ?_)
  obtain rfl := wr_1
  refine lv_istore_n (lv' := [(2, .int (-2)), (0, .ref (a 0)), (1, .int p0)]) hx hb dX10_askingRowState_5 rfl hl (by decide) rfl (fun ls hl => ?_)
  refine lv_iload_n hx hb dX10_askingRowState_6 rfl (lv_at hl 0 rfl) ?_
  refine lv_if_eq (tgt := 12) hx hb dX10_askingRowState_7 (by decide) (fun c_2 => ?_) (fun c_2 => ?_)
  · exact absurd c_2 (by decide)
  · refine lv_iload_n hx hb dX10_askingRowState_10 rfl (lv_at hl 0 rfl) ?_
    exact W.iret (v := (-2)) hx hb hr (fun t ht hW => ⟨⟨(-2), (), rfl, rfl, trivial⟩, hS.F ht⟩) hS.2.2 dX10_askingRowState_11

set_option maxHeartbeats 4000000 in
set_option maxRecDepth 100000 in
theorem c_X10_suspects (l : Launch) (G : va_G) (ct : Nat → ClassId) (a : Nat → Nat) (rr : Nat → Nat) (p0 : Int32)  : Met l yX10_suspects wsX10_suspects ({ frames := 5, cells := 0, slots := 0, locals := 112 }) (va_Pc [.ref (a 0), .int p0] (roP G ct (xF a rr ct))) (roQ (fun r => r = (-2))) 0 0 no := by
  refine Met.ofW (cc := cX10_suspects) (maxL := 3) (ret := (some .int)) (by decide) rfl ?_
  intro p e s m args below meth c s₁ B hml hv
  obtain ⟨rfl, hP, hK⟩ := hv
  have hx := B.exec
  have hb := B.bytes
  have hr := B.returns
  have hts := atoms_spec (ws := wsX10_suspects) B.pre
  have hown : s.vm.findClass RX10 = some m.cls := findClass_of_methodNamed B.named
  have hlocks := B.notSynchronized
  have hS : va_S no s.heap s.heap [] := va_S.rf
  have hl := lv_entry ([.ref (a 0), .int p0]) (n := 3) (Nat.le_of_ble_eq_true rfl)
  rw [lg_entry_eq]
  generalize (lg_sl ([.ref (a 0), .int p0]) ++ List.replicate (3 - (lg_sl ([.ref (a 0), .int p0])).length) Slot.unset).toArray = ls at hl ⊢
  have hl : lv_has ls 3 [(0, .ref (a 0)), (1, .int p0)] := hl
  refine lv_aload_n hx hb dX10_suspects_0 rfl (lv_at hl 0 rfl) ?_
  refine lv_iload_n hx hb dX10_suspects_1 rfl (lv_at hl 1 rfl) ?_
  refine ro_calli (va_runV (As := [.int p0]) (rest := []) ⟨hx, hb, hml, hown, hts⟩ (c_X10_deedRowState l G ct a rr p0) (cwV 1 hts gX10_suspects_X10_deedRowState rfl rfl rfl (by decide +kernel) ⟨Nat.le_of_ble_eq_true rfl, Nat.le_of_ble_eq_true rfl⟩) (ro_preV 10 0 hK hP rfl rfl) rfl rfl hl.1 rfl (lv_room (Nat.le_of_ble_eq_true rfl)) dX10_suspects_2 ⟨Nat.zero_le _, Nat.zero_le _⟩) hS hP (fun r_1 H locs wr_1 hP hS => ?_)
  obtain rfl := wr_1
  refine lv_istore_n (lv' := [(2, .int (-2)), (0, .ref (a 0)), (1, .int p0)]) hx hb dX10_suspects_5 rfl hl (by decide) rfl (fun ls hl => ?_)
  refine lv_iload_n hx hb dX10_suspects_6 rfl (lv_at hl 0 rfl) ?_
  refine lv_if_eq (tgt := 14) hx hb dX10_suspects_7 (by decide) (fun c_2 => ?_) (fun c_2 => ?_)
  · exact absurd c_2 (by decide)
  · refine lv_iload_n hx hb dX10_suspects_10 rfl (lv_at hl 0 rfl) ?_
    refine lv_goto (tgt := 32) hx hb dX10_suspects_11 (by decide) ?_
    exact W.iret (v := (-2)) hx hb hr (fun t ht hW => ⟨⟨(-2), (), rfl, rfl, trivial⟩, hS.F ht⟩) hS.2.2 dX10_suspects_32

set_option maxHeartbeats 4000000 in
set_option maxRecDepth 100000 in
theorem c_X10_watch (l : Launch) (G : va_G) (ct : Nat → ClassId) (a : Nat → Nat) (rr : Nat → Nat) (p0 : Int32)  : Met l yX10_watch wsX10_watch ({ frames := 5, cells := 0, slots := 0, locals := 113 }) (va_Pc [.ref (a 0), .int p0] (roP G ct (xF a rr ct))) (roQ (fun r => r = (-2))) 0 0 no := by
  refine Met.ofW (cc := cX10_watch) (maxL := 4) (ret := (some .int)) (by decide) rfl ?_
  intro p e s m args below meth c s₁ B hml hv
  obtain ⟨rfl, hP, hK⟩ := hv
  have hx := B.exec
  have hb := B.bytes
  have hr := B.returns
  have hts := atoms_spec (ws := wsX10_watch) B.pre
  have hown : s.vm.findClass RX10 = some m.cls := findClass_of_methodNamed B.named
  have hlocks := B.notSynchronized
  have hS : va_S no s.heap s.heap [] := va_S.rf
  have hl := lv_entry ([.ref (a 0), .int p0]) (n := 4) (Nat.le_of_ble_eq_true rfl)
  rw [lg_entry_eq]
  generalize (lg_sl ([.ref (a 0), .int p0]) ++ List.replicate (4 - (lg_sl ([.ref (a 0), .int p0])).length) Slot.unset).toArray = ls at hl ⊢
  have hl : lv_has ls 4 [(0, .ref (a 0)), (1, .int p0)] := hl
  refine lv_aload_n hx hb dX10_watch_0 rfl (lv_at hl 0 rfl) ?_
  refine lv_iload_n hx hb dX10_watch_1 rfl (lv_at hl 1 rfl) ?_
  refine ro_calli (va_runV (As := [.int p0]) (rest := []) ⟨hx, hb, hml, hown, hts⟩ (c_X10_deedRowState l G ct a rr p0) (cwV 1 hts gX10_watch_X10_deedRowState rfl rfl rfl (by decide +kernel) ⟨Nat.le_of_ble_eq_true rfl, Nat.le_of_ble_eq_true rfl⟩) (ro_preV 10 0 hK hP rfl rfl) rfl rfl hl.1 rfl (lv_room (Nat.le_of_ble_eq_true rfl)) dX10_watch_2 ⟨Nat.zero_le _, Nat.zero_le _⟩) hS hP (fun r_1 H locs wr_1 hP hS => ?_)
  obtain rfl := wr_1
  refine lv_istore_n (lv' := [(2, .int (-2)), (0, .ref (a 0)), (1, .int p0)]) hx hb dX10_watch_5 rfl hl (by decide) rfl (fun ls hl => ?_)
  refine lv_iload_n hx hb dX10_watch_6 rfl (lv_at hl 0 rfl) ?_
  refine lv_if_eq (tgt := 12) hx hb dX10_watch_7 (by decide) (fun c_2 => ?_) (fun c_2 => ?_)
  · exact absurd c_2 (by decide)
  · refine lv_iload_n hx hb dX10_watch_10 rfl (lv_at hl 0 rfl) ?_
    exact W.iret (v := (-2)) hx hb hr (fun t ht hW => ⟨⟨(-2), (), rfl, rfl, trivial⟩, hS.F ht⟩) hS.2.2 dX10_watch_11

set_option maxHeartbeats 4000000 in
set_option maxRecDepth 100000 in
theorem c_X10_leaves (l : Launch) (G : va_G) (ct : Nat → ClassId) (a : Nat → Nat) (rr : Nat → Nat) (p0 : Int32)  : Met l yX10_leaves wsX10_leaves ({ frames := 5, cells := 0, slots := 0, locals := 113 }) (va_Pc [.ref (a 0), .int p0] (roP G ct (xF a rr ct))) (roQ (fun r => r = (-2))) 0 0 no := by
  refine Met.ofW (cc := cX10_leaves) (maxL := 5) (ret := (some .int)) (by decide) rfl ?_
  intro p e s m args below meth c s₁ B hml hv
  obtain ⟨rfl, hP, hK⟩ := hv
  have hx := B.exec
  have hb := B.bytes
  have hr := B.returns
  have hts := atoms_spec (ws := wsX10_leaves) B.pre
  have hown : s.vm.findClass RX10 = some m.cls := findClass_of_methodNamed B.named
  have hlocks := B.notSynchronized
  have hS : va_S no s.heap s.heap [] := va_S.rf
  have hl := lv_entry ([.ref (a 0), .int p0]) (n := 5) (Nat.le_of_ble_eq_true rfl)
  rw [lg_entry_eq]
  generalize (lg_sl ([.ref (a 0), .int p0]) ++ List.replicate (5 - (lg_sl ([.ref (a 0), .int p0])).length) Slot.unset).toArray = ls at hl ⊢
  have hl : lv_has ls 5 [(0, .ref (a 0)), (1, .int p0)] := hl
  refine lv_aload_n hx hb dX10_leaves_0 rfl (lv_at hl 0 rfl) ?_
  refine lv_iload_n hx hb dX10_leaves_1 rfl (lv_at hl 1 rfl) ?_
  refine ro_calli (va_runV (As := [.int p0]) (rest := []) ⟨hx, hb, hml, hown, hts⟩ (c_X10_deedRowState l G ct a rr p0) (cwV 1 hts gX10_leaves_X10_deedRowState rfl rfl rfl (by decide +kernel) ⟨Nat.le_of_ble_eq_true rfl, Nat.le_of_ble_eq_true rfl⟩) (ro_preV 10 0 hK hP rfl rfl) rfl rfl hl.1 rfl (lv_room (Nat.le_of_ble_eq_true rfl)) dX10_leaves_2 ⟨Nat.zero_le _, Nat.zero_le _⟩) hS hP (fun r_1 H locs wr_1 hP hS => ?_)
  obtain rfl := wr_1
  refine lv_istore_n (lv' := [(2, .int (-2)), (0, .ref (a 0)), (1, .int p0)]) hx hb dX10_leaves_5 rfl hl (by decide) rfl (fun ls hl => ?_)
  refine lv_iload_n hx hb dX10_leaves_6 rfl (lv_at hl 0 rfl) ?_
  refine lv_if_eq (tgt := 12) hx hb dX10_leaves_7 (by decide) (fun c_2 => ?_) (fun c_2 => ?_)
  · exact absurd c_2 (by decide)
  · refine lv_iload_n hx hb dX10_leaves_10 rfl (lv_at hl 0 rfl) ?_
    exact W.iret (v := (-2)) hx hb hr (fun t ht hW => ⟨⟨(-2), (), rfl, rfl, trivial⟩, hS.F ht⟩) hS.2.2 dX10_leaves_11

set_option maxHeartbeats 4000000 in
set_option maxRecDepth 100000 in
theorem c_X10_proof (l : Launch) (G : va_G) (ct : Nat → ClassId) (a : Nat → Nat) (rr : Nat → Nat) (p0 : Int32)  : Met l yX10_proof wsX10_proof ({ frames := 5, cells := 0, slots := 0, locals := 112 }) (va_Pc [.ref (a 0), .int p0] (roP G ct (xF a rr ct))) (roQ (fun r => r = (-2))) 0 0 no := by
  refine Met.ofW (cc := cX10_proof) (maxL := 8) (ret := (some .int)) (by decide) rfl ?_
  intro p e s m args below meth c s₁ B hml hv
  obtain ⟨rfl, hP, hK⟩ := hv
  have hx := B.exec
  have hb := B.bytes
  have hr := B.returns
  have hts := atoms_spec (ws := wsX10_proof) B.pre
  have hown : s.vm.findClass RX10 = some m.cls := findClass_of_methodNamed B.named
  have hlocks := B.notSynchronized
  have hS : va_S no s.heap s.heap [] := va_S.rf
  have hl := lv_entry ([.ref (a 0), .int p0]) (n := 8) (Nat.le_of_ble_eq_true rfl)
  rw [lg_entry_eq]
  generalize (lg_sl ([.ref (a 0), .int p0]) ++ List.replicate (8 - (lg_sl ([.ref (a 0), .int p0])).length) Slot.unset).toArray = ls at hl ⊢
  have hl : lv_has ls 8 [(0, .ref (a 0)), (1, .int p0)] := hl
  refine lv_aload_n hx hb dX10_proof_0 rfl (lv_at hl 0 rfl) ?_
  refine lv_iload_n hx hb dX10_proof_1 rfl (lv_at hl 1 rfl) ?_
  refine ro_calli (va_runV (As := [.int p0]) (rest := []) ⟨hx, hb, hml, hown, hts⟩ (c_X10_deedRowState l G ct a rr p0) (cwV 1 hts gX10_proof_X10_deedRowState rfl rfl rfl (by decide +kernel) ⟨Nat.le_of_ble_eq_true rfl, Nat.le_of_ble_eq_true rfl⟩) (ro_preV 10 0 hK hP rfl rfl) rfl rfl hl.1 rfl (lv_room (Nat.le_of_ble_eq_true rfl)) dX10_proof_2 ⟨Nat.zero_le _, Nat.zero_le _⟩) hS hP (fun r_1 H locs wr_1 hP hS => ?_)
  obtain rfl := wr_1
  refine lv_istore_n (lv' := [(2, .int (-2)), (0, .ref (a 0)), (1, .int p0)]) hx hb dX10_proof_5 rfl hl (by decide) rfl (fun ls hl => ?_)
  refine lv_iload_n hx hb dX10_proof_6 rfl (lv_at hl 0 rfl) ?_
  refine lv_if_eq (tgt := 12) hx hb dX10_proof_7 (by decide) (fun c_2 => ?_) (fun c_2 => ?_)
  · exact absurd c_2 (by decide)
  · refine lv_iload_n hx hb dX10_proof_10 rfl (lv_at hl 0 rfl) ?_
    exact W.iret (v := (-2)) hx hb hr (fun t ht hW => ⟨⟨(-2), (), rfl, rfl, trivial⟩, hS.F ht⟩) hS.2.2 dX10_proof_11

set_option maxHeartbeats 4000000 in
set_option maxRecDepth 100000 in
theorem c_X10_canDuel (l : Launch) (G : va_G) (ct : Nat → ClassId) (a : Nat → Nat) (rr : Nat → Nat) (p0 : Int32) (p1 : Int32)  : Met l yX10_canDuel wsX10_canDuel ({ frames := 3, cells := 0, slots := 0, locals := 65 }) (va_Pc [.ref (a 0), .int p0, .int p1] (roP G ct (xF a rr ct))) (roQ (fun r => r = 0)) 0 0 no := by
  refine Met.ofW (cc := cX10_canDuel) (maxL := 3) (ret := (some .boolean)) (by decide) rfl ?_
  intro p e s m args below meth c s₁ B hml hv
  obtain ⟨rfl, hP, hK⟩ := hv
  have hx := B.exec
  have hb := B.bytes
  have hr := B.returns
  have hts := atoms_spec (ws := wsX10_canDuel) B.pre
  have hown : s.vm.findClass RX10 = some m.cls := findClass_of_methodNamed B.named
  have hlocks := B.notSynchronized
  have hS : va_S no s.heap s.heap [] := va_S.rf
  have hl := lv_entry ([.ref (a 0), .int p0, .int p1]) (n := 3) (Nat.le_of_ble_eq_true rfl)
  rw [lg_entry_eq]
  generalize (lg_sl ([.ref (a 0), .int p0, .int p1]) ++ List.replicate (3 - (lg_sl ([.ref (a 0), .int p0, .int p1])).length) Slot.unset).toArray = ls at hl ⊢
  have hl : lv_has ls 3 [(0, .ref (a 0)), (1, .int p0), (2, .int p1)] := hl
  refine lv_aload_n hx hb dX10_canDuel_0 rfl (lv_at hl 0 rfl) ?_
  refine lv_iload_n hx hb dX10_canDuel_1 rfl (lv_at hl 1 rfl) ?_
  refine ro_calli (va_runV (As := [.int p0]) (rest := []) ⟨hx, hb, hml, hown, hts⟩ (c_X10_isPerson l G ct a rr p0) (cwV 1 hts gX10_canDuel_X10_isPerson rfl rfl rfl (by decide +kernel) ⟨Nat.le_of_ble_eq_true rfl, Nat.le_of_ble_eq_true rfl⟩) (ro_preV 10 0 hK hP rfl rfl) rfl rfl hl.1 rfl (lv_room (Nat.le_of_ble_eq_true rfl)) dX10_canDuel_2 ⟨Nat.zero_le _, Nat.zero_le _⟩) hS hP (fun r_1 H locs wr_1 hP hS => ?_)
  obtain rfl := wr_1
  refine lv_if_eq (tgt := 47) hx hb dX10_canDuel_5 (by decide) (fun c_2 => ?_) (fun c_2 => ?_)
  · refine lv_iconst (v := 0) hx hb dX10_canDuel_47 (by decide) ?_
    exact W.zret (v := 0) (ty := .boolean) hx hb hr (rfl) (fun t ht hW => ⟨⟨0, (), rfl, rfl, trivial⟩, hS.F ht⟩) hS.2.2 dX10_canDuel_48
  · exact absurd c_2 (by decide)

set_option maxHeartbeats 4000000 in
set_option maxRecDepth 100000 in
theorem c_X10_duel (l : Launch) (G : va_G) (ct : Nat → ClassId) (a : Nat → Nat) (rr : Nat → Nat) (p0 : Int32) (p1 : Int32) (p2 : Int32)  : Met l yX10_duel wsX10_duel ({ frames := 4, cells := 0, slots := 0, locals := 87 }) (va_Pc [.ref (a 0), .int p0, .int p1, .int p2] (roP G ct (xF a rr ct))) (roQ (fun r => r = (-2))) 0 0 no := by
  refine Met.ofW (cc := cX10_duel) (maxL := 9) (ret := (some .int)) (by decide) rfl ?_
  intro p e s m args below meth c s₁ B hml hv
  obtain ⟨rfl, hP, hK⟩ := hv
  have hx := B.exec
  have hb := B.bytes
  have hr := B.returns
  have hts := atoms_spec (ws := wsX10_duel) B.pre
  have hown : s.vm.findClass RX10 = some m.cls := findClass_of_methodNamed B.named
  have hlocks := B.notSynchronized
  have hS : va_S no s.heap s.heap [] := va_S.rf
  have hl := lv_entry ([.ref (a 0), .int p0, .int p1, .int p2]) (n := 9) (Nat.le_of_ble_eq_true rfl)
  rw [lg_entry_eq]
  generalize (lg_sl ([.ref (a 0), .int p0, .int p1, .int p2]) ++ List.replicate (9 - (lg_sl ([.ref (a 0), .int p0, .int p1, .int p2])).length) Slot.unset).toArray = ls at hl ⊢
  have hl : lv_has ls 9 [(0, .ref (a 0)), (1, .int p0), (2, .int p1), (3, .int p2)] := hl
  refine lv_aload_n hx hb dX10_duel_0 rfl (lv_at hl 0 rfl) ?_
  refine lv_iload_n hx hb dX10_duel_1 rfl (lv_at hl 1 rfl) ?_
  refine lv_iload_n hx hb dX10_duel_2 rfl (lv_at hl 2 rfl) ?_
  refine ro_calli (va_runV (As := [.int p0, .int p1]) (rest := []) ⟨hx, hb, hml, hown, hts⟩ (c_X10_canDuel l G ct a rr p0 p1) (cwV 2 hts gX10_duel_X10_canDuel rfl rfl rfl (by decide +kernel) ⟨Nat.le_of_ble_eq_true rfl, Nat.le_of_ble_eq_true rfl⟩) (ro_preV 10 0 hK hP rfl rfl) rfl rfl hl.1 rfl (lv_room (Nat.le_of_ble_eq_true rfl)) dX10_duel_3 ⟨Nat.zero_le _, Nat.zero_le _⟩) hS hP (fun r_1 H locs wr_1 hP hS => ?_)
  obtain rfl := wr_1
  refine lv_if_eq (tgt := 18) hx hb dX10_duel_6 (by decide) (fun c_2 => ?_) (fun c_2 => ?_)
  · refine lv_bipush (v := (-2)) hx hb dX10_duel_18 (by decide) ?_
    exact W.iret (v := (-2)) hx hb hr (fun t ht hW => ⟨⟨(-2), (), rfl, rfl, trivial⟩, hS.F ht⟩) hS.2.2 dX10_duel_20
  · exact absurd c_2 (by decide)

set_option maxHeartbeats 4000000 in
set_option maxRecDepth 100000 in
theorem c_X10_lays (l : Launch) (G : va_G) (ct : Nat → ClassId) (a : Nat → Nat) (rr : Nat → Nat) (p0 : Int32) (p1 : Int32)  : Met l yX10_lays wsX10_lays ({ frames := 5, cells := 0, slots := 0, locals := 114 }) (va_Pc [.ref (a 0), .int p0, .int p1] (roP G ct (xF a rr ct))) (roQ (fun r => r = (-2))) 0 0 no := by
  refine Met.ofW (cc := cX10_lays) (maxL := 3) (ret := (some .int)) (by decide) rfl ?_
  intro p e s m args below meth c s₁ B hml hv
  obtain ⟨rfl, hP, hK⟩ := hv
  have hx := B.exec
  have hb := B.bytes
  have hr := B.returns
  have hts := atoms_spec (ws := wsX10_lays) B.pre
  have hown : s.vm.findClass RX10 = some m.cls := findClass_of_methodNamed B.named
  have hlocks := B.notSynchronized
  have hS : va_S no s.heap s.heap [] := va_S.rf
  have hl := lv_entry ([.ref (a 0), .int p0, .int p1]) (n := 3) (Nat.le_of_ble_eq_true rfl)
  rw [lg_entry_eq]
  generalize (lg_sl ([.ref (a 0), .int p0, .int p1]) ++ List.replicate (3 - (lg_sl ([.ref (a 0), .int p0, .int p1])).length) Slot.unset).toArray = ls at hl ⊢
  have hl : lv_has ls 3 [(0, .ref (a 0)), (1, .int p0), (2, .int p1)] := hl
  refine lv_aload_n hx hb dX10_lays_0 rfl (lv_at hl 0 rfl) ?_
  refine lv_iload_n hx hb dX10_lays_1 rfl (lv_at hl 1 rfl) ?_
  refine lv_iload_n hx hb dX10_lays_2 rfl (lv_at hl 2 rfl) ?_
  refine ro_calli (va_runV (As := [.int p0, .int p1]) (rest := []) ⟨hx, hb, hml, hown, hts⟩ (c_X10_canDuel l G ct a rr p0 p1) (cwV 2 hts gX10_lays_X10_canDuel rfl rfl rfl (by decide +kernel) ⟨Nat.le_of_ble_eq_true rfl, Nat.le_of_ble_eq_true rfl⟩) (ro_preV 10 0 hK hP rfl rfl) rfl rfl hl.1 rfl (lv_room (Nat.le_of_ble_eq_true rfl)) dX10_lays_3 ⟨Nat.zero_le _, Nat.zero_le _⟩) hS hP (fun r_1 H locs wr_1 hP hS => ?_)
  obtain rfl := wr_1
  refine lv_if_ne (tgt := 12) hx hb dX10_lays_6 (by decide) (fun c_2 => ?_) (fun c_2 => ?_)
  · exact absurd c_2 (by decide)
  · refine lv_bipush (v := (-2)) hx hb dX10_lays_9 (by decide) ?_
    exact W.iret (v := (-2)) hx hb hr (fun t ht hW => ⟨⟨(-2), (), rfl, rfl, trivial⟩, hS.F ht⟩) hS.2.2 dX10_lays_11

set_option maxHeartbeats 4000000 in
set_option maxRecDepth 100000 in
theorem c_X10_reply (l : Launch) (G : va_G) (ct : Nat → ClassId) (a : Nat → Nat) (rr : Nat → Nat) (p0 : Int32) (p1 : Int32)  : Met l yX10_reply wsX10_reply ({ frames := 6, cells := 0, slots := 0, locals := 136 }) (va_Pc [.ref (a 0), .int p0, .int p1] (roP G ct (xF a rr ct))) (roQ (fun r => r = (-2))) 0 0 no := by
  refine Met.ofW (cc := cX10_reply) (maxL := 4) (ret := (some .int)) (by decide) rfl ?_
  intro p e s m args below meth c s₁ B hml hv
  obtain ⟨rfl, hP, hK⟩ := hv
  have hx := B.exec
  have hb := B.bytes
  have hr := B.returns
  have hts := atoms_spec (ws := wsX10_reply) B.pre
  have hown : s.vm.findClass RX10 = some m.cls := findClass_of_methodNamed B.named
  have hlocks := B.notSynchronized
  have hS : va_S no s.heap s.heap [] := va_S.rf
  have hl := lv_entry ([.ref (a 0), .int p0, .int p1]) (n := 4) (Nat.le_of_ble_eq_true rfl)
  rw [lg_entry_eq]
  generalize (lg_sl ([.ref (a 0), .int p0, .int p1]) ++ List.replicate (4 - (lg_sl ([.ref (a 0), .int p0, .int p1])).length) Slot.unset).toArray = ls at hl ⊢
  have hl : lv_has ls 4 [(0, .ref (a 0)), (1, .int p0), (2, .int p1)] := hl
  refine lv_aload_n hx hb dX10_reply_0 rfl (lv_at hl 0 rfl) ?_
  refine lv_iload_n hx hb dX10_reply_1 rfl (lv_at hl 1 rfl) ?_
  refine lv_iload_n hx hb dX10_reply_2 rfl (lv_at hl 2 rfl) ?_
  refine ro_calli (va_runV (As := [.int p0, .int p1]) (rest := []) ⟨hx, hb, hml, hown, hts⟩ (c_X10_lays l G ct a rr p0 p1) (cwV 2 hts gX10_reply_X10_lays rfl rfl rfl (by decide +kernel) ⟨Nat.le_of_ble_eq_true rfl, Nat.le_of_ble_eq_true rfl⟩) (ro_preV 10 0 hK hP rfl rfl) rfl rfl hl.1 rfl (lv_room (Nat.le_of_ble_eq_true rfl)) dX10_reply_3 ⟨Nat.zero_le _, Nat.zero_le _⟩) hS hP (fun r_1 H locs wr_1 hP hS => ?_)
  obtain rfl := wr_1
  refine lv_istore_n (lv' := [(3, .int (-2)), (0, .ref (a 0)), (1, .int p0), (2, .int p1)]) hx hb dX10_reply_6 rfl hl (by decide) rfl (fun ls hl => ?_)
  refine lv_iload_n hx hb dX10_reply_7 rfl (lv_at hl 0 rfl) ?_
  refine lv_if_ge (tgt := 14) hx hb dX10_reply_8 (by decide) (fun c_2 => ?_) (fun c_2 => ?_)
  · exact absurd c_2 (by decide)
  · refine lv_bipush (v := (-2)) hx hb dX10_reply_11 (by decide) ?_
    exact W.iret (v := (-2)) hx hb hr (fun t ht hW => ⟨⟨(-2), (), rfl, rfl, trivial⟩, hS.F ht⟩) hS.2.2 dX10_reply_13

set_option maxHeartbeats 4000000 in
set_option maxRecDepth 100000 in
theorem c_X10_leave (l : Launch) (G : va_G) (ct : Nat → ClassId) (a : Nat → Nat) (rr : Nat → Nat) (p0 : Int32)  : Met l yX10_leave wsX10_leave ({ frames := 4, cells := 0, slots := 0, locals := 89 }) (va_Pc [.ref (a 0), .int p0] (roP G ct (xF a rr ct))) (roQ (fun r => r = (-2))) 0 0 no := by
  refine Met.ofW (cc := cX10_leave) (maxL := 2) (ret := (some .int)) (by decide) rfl ?_
  intro p e s m args below meth c s₁ B hml hv
  obtain ⟨rfl, hP, hK⟩ := hv
  have hx := B.exec
  have hb := B.bytes
  have hr := B.returns
  have hts := atoms_spec (ws := wsX10_leave) B.pre
  have hown : s.vm.findClass RX10 = some m.cls := findClass_of_methodNamed B.named
  have hlocks := B.notSynchronized
  have hS : va_S no s.heap s.heap [] := va_S.rf
  have hl := lv_entry ([.ref (a 0), .int p0]) (n := 2) (Nat.le_of_ble_eq_true rfl)
  rw [lg_entry_eq]
  generalize (lg_sl ([.ref (a 0), .int p0]) ++ List.replicate (2 - (lg_sl ([.ref (a 0), .int p0])).length) Slot.unset).toArray = ls at hl ⊢
  have hl : lv_has ls 2 [(0, .ref (a 0)), (1, .int p0)] := hl
  refine lv_aload_n hx hb dX10_leave_0 rfl (lv_at hl 0 rfl) ?_
  refine ro_calli (va_runV (As := []) (rest := []) ⟨hx, hb, hml, hown, hts⟩ (c_X10_hasCity l G ct a rr) (cwV 0 hts gX10_leave_X10_hasCity rfl rfl rfl (by decide +kernel) ⟨Nat.le_of_ble_eq_true rfl, Nat.le_of_ble_eq_true rfl⟩) (ro_preV 10 0 hK hP rfl rfl) rfl rfl hl.1 rfl (lv_room (Nat.le_of_ble_eq_true rfl)) dX10_leave_1 ⟨Nat.zero_le _, Nat.zero_le _⟩) hS hP (fun r_1 H locs wr_1 hP hS => ?_)
  obtain rfl := wr_1
  refine lv_if_eq (tgt := 15) hx hb dX10_leave_4 (by decide) (fun c_2 => ?_) (fun c_2 => ?_)
  · refine lv_bipush (v := (-2)) hx hb dX10_leave_15 (by decide) ?_
    exact W.iret (v := (-2)) hx hb hr (fun t ht hW => ⟨⟨(-2), (), rfl, rfl, trivial⟩, hS.F ht⟩) hS.2.2 dX10_leave_17
  · exact absurd c_2 (by decide)

set_option maxHeartbeats 4000000 in
set_option maxRecDepth 100000 in
theorem c_X10_firm (l : Launch) (G : va_G) (ct : Nat → ClassId) (a : Nat → Nat) (rr : Nat → Nat) (p0 : Int32)  : Met l yX10_firm wsX10_firm ({ frames := 5, cells := 0, slots := 0, locals := 110 }) (va_Pc [.ref (a 0), .int p0] (roP G ct (xF a rr ct))) (roQ (fun r => r = (-2))) 0 0 no := by
  refine Met.ofW (cc := cX10_firm) (maxL := 3) (ret := (some .int)) (by decide) rfl ?_
  intro p e s m args below meth c s₁ B hml hv
  obtain ⟨rfl, hP, hK⟩ := hv
  have hx := B.exec
  have hb := B.bytes
  have hr := B.returns
  have hts := atoms_spec (ws := wsX10_firm) B.pre
  have hown : s.vm.findClass RX10 = some m.cls := findClass_of_methodNamed B.named
  have hlocks := B.notSynchronized
  have hS : va_S no s.heap s.heap [] := va_S.rf
  have hl := lv_entry ([.ref (a 0), .int p0]) (n := 3) (Nat.le_of_ble_eq_true rfl)
  rw [lg_entry_eq]
  generalize (lg_sl ([.ref (a 0), .int p0]) ++ List.replicate (3 - (lg_sl ([.ref (a 0), .int p0])).length) Slot.unset).toArray = ls at hl ⊢
  have hl : lv_has ls 3 [(0, .ref (a 0)), (1, .int p0)] := hl
  refine lv_aload_n hx hb dX10_firm_0 rfl (lv_at hl 0 rfl) ?_
  refine lv_iload_n hx hb dX10_firm_1 rfl (lv_at hl 1 rfl) ?_
  refine ro_calli (va_runV (As := [.int p0]) (rest := []) ⟨hx, hb, hml, hown, hts⟩ (c_X10_leave l G ct a rr p0) (cwV 1 hts gX10_firm_X10_leave rfl rfl rfl (by decide +kernel) ⟨Nat.le_of_ble_eq_true rfl, Nat.le_of_ble_eq_true rfl⟩) (ro_preV 10 0 hK hP rfl rfl) rfl rfl hl.1 rfl (lv_room (Nat.le_of_ble_eq_true rfl)) dX10_firm_2 ⟨Nat.zero_le _, Nat.zero_le _⟩) hS hP (fun r_1 H locs wr_1 hP hS => ?_)
  obtain rfl := wr_1
  refine lv_istore_n (lv' := [(2, .int (-2)), (0, .ref (a 0)), (1, .int p0)]) hx hb dX10_firm_5 rfl hl (by decide) rfl (fun ls hl => ?_)
  refine lv_iload_n hx hb dX10_firm_6 rfl (lv_at hl 0 rfl) ?_
  refine lv_bipush (v := (-2)) hx hb dX10_firm_7 (by decide) ?_
  refine lv_icmp_ne (tgt := 15) hx hb dX10_firm_9 (by decide) (fun c_2 => ?_) (fun c_2 => ?_)
  · exact absurd c_2 (by decide)
  · refine lv_bipush (v := (-2)) hx hb dX10_firm_12 (by decide) ?_
    exact W.iret (v := (-2)) hx hb hr (fun t ht hW => ⟨⟨(-2), (), rfl, rfl, trivial⟩, hS.F ht⟩) hS.2.2 dX10_firm_14

set_option maxHeartbeats 4000000 in
set_option maxRecDepth 100000 in
theorem c_X10_firms (l : Launch) (G : va_G) (ct : Nat → ClassId) (a : Nat → Nat) (rr : Nat → Nat)  : Met l yX10_firms wsX10_firms ({ frames := 4, cells := 0, slots := 0, locals := 89 }) (va_Pc [.ref (a 0)] (roP G ct (xF a rr ct))) (roQ (fun r => r = (-2))) 0 0 no := by
  refine Met.ofW (cc := cX10_firms) (maxL := 3) (ret := (some .int)) (by decide) rfl ?_
  intro p e s m args below meth c s₁ B hml hv
  obtain ⟨rfl, hP, hK⟩ := hv
  have hx := B.exec
  have hb := B.bytes
  have hr := B.returns
  have hts := atoms_spec (ws := wsX10_firms) B.pre
  have hown : s.vm.findClass RX10 = some m.cls := findClass_of_methodNamed B.named
  have hlocks := B.notSynchronized
  have hS : va_S no s.heap s.heap [] := va_S.rf
  have hl := lv_entry ([.ref (a 0)]) (n := 3) (Nat.le_of_ble_eq_true rfl)
  rw [lg_entry_eq]
  generalize (lg_sl ([.ref (a 0)]) ++ List.replicate (3 - (lg_sl ([.ref (a 0)])).length) Slot.unset).toArray = ls at hl ⊢
  have hl : lv_has ls 3 [(0, .ref (a 0))] := hl
  refine lv_aload_n hx hb dX10_firms_0 rfl (lv_at hl 0 rfl) ?_
  refine ro_calli (va_runV (As := []) (rest := []) ⟨hx, hb, hml, hown, hts⟩ (c_X10_hasCity l G ct a rr) (cwV 0 hts gX10_firms_X10_hasCity rfl rfl rfl (by decide +kernel) ⟨Nat.le_of_ble_eq_true rfl, Nat.le_of_ble_eq_true rfl⟩) (ro_preV 10 0 hK hP rfl rfl) rfl rfl hl.1 rfl (lv_room (Nat.le_of_ble_eq_true rfl)) dX10_firms_1 ⟨Nat.zero_le _, Nat.zero_le _⟩) hS hP (fun r_1 H locs wr_1 hP hS => ?_)
  obtain rfl := wr_1
  refine lv_if_ne (tgt := 10) hx hb dX10_firms_4 (by decide) (fun c_2 => ?_) (fun c_2 => ?_)
  · exact absurd c_2 (by decide)
  · refine lv_bipush (v := (-2)) hx hb dX10_firms_7 (by decide) ?_
    exact W.iret (v := (-2)) hx hb hr (fun t ht hW => ⟨⟨(-2), (), rfl, rfl, trivial⟩, hS.F ht⟩) hS.2.2 dX10_firms_9

set_option maxHeartbeats 4000000 in
set_option maxRecDepth 100000 in
theorem c_X10_firmest (l : Launch) (G : va_G) (ct : Nat → ClassId) (a : Nat → Nat) (rr : Nat → Nat)  : Met l yX10_firmest wsX10_firmest ({ frames := 4, cells := 0, slots := 0, locals := 89 }) (va_Pc [.ref (a 0)] (roP G ct (xF a rr ct))) (roQ (fun r => r = (-2))) 0 0 no := by
  refine Met.ofW (cc := cX10_firmest) (maxL := 3) (ret := (some .int)) (by decide) rfl ?_
  intro p e s m args below meth c s₁ B hml hv
  obtain ⟨rfl, hP, hK⟩ := hv
  have hx := B.exec
  have hb := B.bytes
  have hr := B.returns
  have hts := atoms_spec (ws := wsX10_firmest) B.pre
  have hown : s.vm.findClass RX10 = some m.cls := findClass_of_methodNamed B.named
  have hlocks := B.notSynchronized
  have hS : va_S no s.heap s.heap [] := va_S.rf
  have hl := lv_entry ([.ref (a 0)]) (n := 3) (Nat.le_of_ble_eq_true rfl)
  rw [lg_entry_eq]
  generalize (lg_sl ([.ref (a 0)]) ++ List.replicate (3 - (lg_sl ([.ref (a 0)])).length) Slot.unset).toArray = ls at hl ⊢
  have hl : lv_has ls 3 [(0, .ref (a 0))] := hl
  refine lv_aload_n hx hb dX10_firmest_0 rfl (lv_at hl 0 rfl) ?_
  refine ro_calli (va_runV (As := []) (rest := []) ⟨hx, hb, hml, hown, hts⟩ (c_X10_hasCity l G ct a rr) (cwV 0 hts gX10_firmest_X10_hasCity rfl rfl rfl (by decide +kernel) ⟨Nat.le_of_ble_eq_true rfl, Nat.le_of_ble_eq_true rfl⟩) (ro_preV 10 0 hK hP rfl rfl) rfl rfl hl.1 rfl (lv_room (Nat.le_of_ble_eq_true rfl)) dX10_firmest_1 ⟨Nat.zero_le _, Nat.zero_le _⟩) hS hP (fun r_1 H locs wr_1 hP hS => ?_)
  obtain rfl := wr_1
  refine lv_if_ne (tgt := 10) hx hb dX10_firmest_4 (by decide) (fun c_2 => ?_) (fun c_2 => ?_)
  · exact absurd c_2 (by decide)
  · refine lv_bipush (v := (-2)) hx hb dX10_firmest_7 (by decide) ?_
    exact W.iret (v := (-2)) hx hb hr (fun t ht hW => ⟨⟨(-2), (), rfl, rfl, trivial⟩, hS.F ht⟩) hS.2.2 dX10_firmest_9

set_option maxHeartbeats 4000000 in
set_option maxRecDepth 100000 in
theorem c_X10_lay (l : Launch) (G : va_G) (ct : Nat → ClassId) (a : Nat → Nat) (rr : Nat → Nat) (p0 : Int32) (p1 : Int32)  : Met l yX10_lay wsX10_lay ({ frames := 6, cells := 0, slots := 0, locals := 136 }) (va_Pc [.ref (a 0), .int p0, .int p1] (roP G ct (xF a rr ct))) (roQ (fun r => r = (-1000))) 0 0 no := by
  refine Met.ofW (cc := cX10_lay) (maxL := 4) (ret := (some .int)) (by decide) rfl ?_
  intro p e s m args below meth c s₁ B hml hv
  obtain ⟨rfl, hP, hK⟩ := hv
  have hx := B.exec
  have hb := B.bytes
  have hr := B.returns
  have hts := atoms_spec (ws := wsX10_lay) B.pre
  have hown : s.vm.findClass RX10 = some m.cls := findClass_of_methodNamed B.named
  have hlocks := B.notSynchronized
  have hS : va_S no s.heap s.heap [] := va_S.rf
  have hl := lv_entry ([.ref (a 0), .int p0, .int p1]) (n := 4) (Nat.le_of_ble_eq_true rfl)
  rw [lg_entry_eq]
  generalize (lg_sl ([.ref (a 0), .int p0, .int p1]) ++ List.replicate (4 - (lg_sl ([.ref (a 0), .int p0, .int p1])).length) Slot.unset).toArray = ls at hl ⊢
  have hl : lv_has ls 4 [(0, .ref (a 0)), (1, .int p0), (2, .int p1)] := hl
  refine lv_aload_n hx hb dX10_lay_0 rfl (lv_at hl 0 rfl) ?_
  refine lv_iload_n hx hb dX10_lay_1 rfl (lv_at hl 1 rfl) ?_
  refine lv_iload_n hx hb dX10_lay_2 rfl (lv_at hl 2 rfl) ?_
  refine ro_calli (va_runV (As := [.int p0, .int p1]) (rest := []) ⟨hx, hb, hml, hown, hts⟩ (c_X10_lays l G ct a rr p0 p1) (cwV 2 hts gX10_lay_X10_lays rfl rfl rfl (by decide +kernel) ⟨Nat.le_of_ble_eq_true rfl, Nat.le_of_ble_eq_true rfl⟩) (ro_preV 10 0 hK hP rfl rfl) rfl rfl hl.1 rfl (lv_room (Nat.le_of_ble_eq_true rfl)) dX10_lay_3 ⟨Nat.zero_le _, Nat.zero_le _⟩) hS hP (fun r_1 H locs wr_1 hP hS => ?_)
  obtain rfl := wr_1
  refine lv_istore_n (lv' := [(3, .int (-2)), (0, .ref (a 0)), (1, .int p0), (2, .int p1)]) hx hb dX10_lay_6 rfl hl (by decide) rfl (fun ls hl => ?_)
  refine lv_iload_n hx hb dX10_lay_7 rfl (lv_at hl 0 rfl) ?_
  refine lv_if_ge (tgt := 17) hx hb dX10_lay_8 (by decide) (fun c_2 => ?_) (fun c_2 => ?_)
  · exact absurd c_2 (by decide)
  · refine lv_sipush (v := (-1000)) hx hb dX10_lay_11 (by decide) ?_
    refine lv_goto (tgt := 36) hx hb dX10_lay_14 (by decide) ?_
    exact W.iret (v := (-1000)) hx hb hr (fun t ht hW => ⟨⟨(-1000), (), rfl, rfl, trivial⟩, hS.F ht⟩) hS.2.2 dX10_lay_36

set_option maxHeartbeats 4000000 in
set_option maxRecDepth 100000 in
theorem c_X10_wins (l : Launch) (G : va_G) (ct : Nat → ClassId) (a : Nat → Nat) (rr : Nat → Nat) (p0 : Int32) (p1 : Int32)  : Met l yX10_wins wsX10_wins ({ frames := 4, cells := 0, slots := 0, locals := 89 }) (va_Pc [.ref (a 0), .int p0, .int p1] (roP G ct (xF a rr ct))) (roQ (fun r => r = (-10000))) 0 0 no := by
  refine Met.ofW (cc := cX10_wins) (maxL := 3) (ret := (some .int)) (by decide) rfl ?_
  intro p e s m args below meth c s₁ B hml hv
  obtain ⟨rfl, hP, hK⟩ := hv
  have hx := B.exec
  have hb := B.bytes
  have hr := B.returns
  have hts := atoms_spec (ws := wsX10_wins) B.pre
  have hown : s.vm.findClass RX10 = some m.cls := findClass_of_methodNamed B.named
  have hlocks := B.notSynchronized
  have hS : va_S no s.heap s.heap [] := va_S.rf
  have hl := lv_entry ([.ref (a 0), .int p0, .int p1]) (n := 3) (Nat.le_of_ble_eq_true rfl)
  rw [lg_entry_eq]
  generalize (lg_sl ([.ref (a 0), .int p0, .int p1]) ++ List.replicate (3 - (lg_sl ([.ref (a 0), .int p0, .int p1])).length) Slot.unset).toArray = ls at hl ⊢
  have hl : lv_has ls 3 [(0, .ref (a 0)), (1, .int p0), (2, .int p1)] := hl
  refine lv_aload_n hx hb dX10_wins_0 rfl (lv_at hl 0 rfl) ?_
  refine ro_calli (va_runV (As := []) (rest := []) ⟨hx, hb, hml, hown, hts⟩ (c_X10_hasCity l G ct a rr) (cwV 0 hts gX10_wins_X10_hasCity rfl rfl rfl (by decide +kernel) ⟨Nat.le_of_ble_eq_true rfl, Nat.le_of_ble_eq_true rfl⟩) (ro_preV 10 0 hK hP rfl rfl) rfl rfl hl.1 rfl (lv_room (Nat.le_of_ble_eq_true rfl)) dX10_wins_1 ⟨Nat.zero_le _, Nat.zero_le _⟩) hS hP (fun r_1 H locs wr_1 hP hS => ?_)
  obtain rfl := wr_1
  refine lv_if_eq (tgt := 31) hx hb dX10_wins_4 (by decide) (fun c_2 => ?_) (fun c_2 => ?_)
  · refine lv_sipush (v := (-10000)) hx hb dX10_wins_31 (by decide) ?_
    exact W.iret (v := (-10000)) hx hb hr (fun t ht hW => ⟨⟨(-10000), (), rfl, rfl, trivial⟩, hS.F ht⟩) hS.2.2 dX10_wins_34
  · exact absurd c_2 (by decide)

set_option maxHeartbeats 4000000 in
set_option maxRecDepth 100000 in
theorem c_X10_ransomed (l : Launch) (G : va_G) (ct : Nat → ClassId) (a : Nat → Nat) (rr : Nat → Nat) (p0 : Int32) (p1 : Int32)  : Met l yX10_ransomed wsX10_ransomed ({ frames := 4, cells := 0, slots := 0, locals := 93 }) (va_Pc [.ref (a 0), .int p0, .int p1] (roP G ct (xF a rr ct))) (roQ (fun r => r = (-2))) 0 0 no := by
  refine Met.ofW (cc := cX10_ransomed) (maxL := 3) (ret := (some .int)) (by decide) rfl ?_
  intro p e s m args below meth c s₁ B hml hv
  obtain ⟨rfl, hP, hK⟩ := hv
  have hx := B.exec
  have hb := B.bytes
  have hr := B.returns
  have hts := atoms_spec (ws := wsX10_ransomed) B.pre
  have hown : s.vm.findClass RX10 = some m.cls := findClass_of_methodNamed B.named
  have hlocks := B.notSynchronized
  have hS : va_S no s.heap s.heap [] := va_S.rf
  have hl := lv_entry ([.ref (a 0), .int p0, .int p1]) (n := 3) (Nat.le_of_ble_eq_true rfl)
  rw [lg_entry_eq]
  generalize (lg_sl ([.ref (a 0), .int p0, .int p1]) ++ List.replicate (3 - (lg_sl ([.ref (a 0), .int p0, .int p1])).length) Slot.unset).toArray = ls at hl ⊢
  have hl : lv_has ls 3 [(0, .ref (a 0)), (1, .int p0), (2, .int p1)] := hl
  refine lv_aload_n hx hb dX10_ransomed_0 rfl (lv_at hl 0 rfl) ?_
  refine lv_iload_n hx hb dX10_ransomed_1 rfl (lv_at hl 1 rfl) ?_
  refine ro_calli (va_runV (As := [.int p0]) (rest := []) ⟨hx, hb, hml, hown, hts⟩ (c_X10_isPerson l G ct a rr p0) (cwV 1 hts gX10_ransomed_X10_isPerson rfl rfl rfl (by decide +kernel) ⟨Nat.le_of_ble_eq_true rfl, Nat.le_of_ble_eq_true rfl⟩) (ro_preV 10 0 hK hP rfl rfl) rfl rfl hl.1 rfl (lv_room (Nat.le_of_ble_eq_true rfl)) dX10_ransomed_2 ⟨Nat.zero_le _, Nat.zero_le _⟩) hS hP (fun r_1 H locs wr_1 hP hS => ?_)
  obtain rfl := wr_1
  refine lv_if_eq (tgt := 16) hx hb dX10_ransomed_5 (by decide) (fun c_2 => ?_) (fun c_2 => ?_)
  · refine lv_bipush (v := (-2)) hx hb dX10_ransomed_16 (by decide) ?_
    exact W.iret (v := (-2)) hx hb hr (fun t ht hW => ⟨⟨(-2), (), rfl, rfl, trivial⟩, hS.F ht⟩) hS.2.2 dX10_ransomed_18
  · exact absurd c_2 (by decide)

set_option maxHeartbeats 4000000 in
set_option maxRecDepth 100000 in
theorem c_X10_ransom (l : Launch) (G : va_G) (ct : Nat → ClassId) (a : Nat → Nat) (rr : Nat → Nat) (p0 : Int32) (p1 : Int32)  : Met l yX10_ransom wsX10_ransom ({ frames := 5, cells := 0, slots := 0, locals := 115 }) (va_Pc [.ref (a 0), .int p0, .int p1] (roP G ct (xF a rr ct))) (roQ (fun r => r = (-2))) 0 0 no := by
  refine Met.ofW (cc := cX10_ransom) (maxL := 4) (ret := (some .int)) (by decide) rfl ?_
  intro p e s m args below meth c s₁ B hml hv
  obtain ⟨rfl, hP, hK⟩ := hv
  have hx := B.exec
  have hb := B.bytes
  have hr := B.returns
  have hts := atoms_spec (ws := wsX10_ransom) B.pre
  have hown : s.vm.findClass RX10 = some m.cls := findClass_of_methodNamed B.named
  have hlocks := B.notSynchronized
  have hS : va_S no s.heap s.heap [] := va_S.rf
  have hl := lv_entry ([.ref (a 0), .int p0, .int p1]) (n := 4) (Nat.le_of_ble_eq_true rfl)
  rw [lg_entry_eq]
  generalize (lg_sl ([.ref (a 0), .int p0, .int p1]) ++ List.replicate (4 - (lg_sl ([.ref (a 0), .int p0, .int p1])).length) Slot.unset).toArray = ls at hl ⊢
  have hl : lv_has ls 4 [(0, .ref (a 0)), (1, .int p0), (2, .int p1)] := hl
  refine lv_aload_n hx hb dX10_ransom_0 rfl (lv_at hl 0 rfl) ?_
  refine lv_iload_n hx hb dX10_ransom_1 rfl (lv_at hl 1 rfl) ?_
  refine lv_iload_n hx hb dX10_ransom_2 rfl (lv_at hl 2 rfl) ?_
  refine ro_calli (va_runV (As := [.int p0, .int p1]) (rest := []) ⟨hx, hb, hml, hown, hts⟩ (c_X10_ransomed l G ct a rr p0 p1) (cwV 2 hts gX10_ransom_X10_ransomed rfl rfl rfl (by decide +kernel) ⟨Nat.le_of_ble_eq_true rfl, Nat.le_of_ble_eq_true rfl⟩) (ro_preV 10 0 hK hP rfl rfl) rfl rfl hl.1 rfl (lv_room (Nat.le_of_ble_eq_true rfl)) dX10_ransom_3 ⟨Nat.zero_le _, Nat.zero_le _⟩) hS hP (fun r_1 H locs wr_1 hP hS => ?_)
  obtain rfl := wr_1
  refine lv_istore_n (lv' := [(3, .int (-2)), (0, .ref (a 0)), (1, .int p0), (2, .int p1)]) hx hb dX10_ransom_6 rfl hl (by decide) rfl (fun ls hl => ?_)
  refine lv_iload_n hx hb dX10_ransom_7 rfl (lv_at hl 0 rfl) ?_
  refine lv_if_ge (tgt := 15) hx hb dX10_ransom_8 (by decide) (fun c_2 => ?_) (fun c_2 => ?_)
  · exact absurd c_2 (by decide)
  · refine lv_iload_n hx hb dX10_ransom_11 rfl (lv_at hl 0 rfl) ?_
    refine lv_goto (tgt := 26) hx hb dX10_ransom_12 (by decide) ?_
    exact W.iret (v := (-2)) hx hb hr (fun t ht hW => ⟨⟨(-2), (), rfl, rfl, trivial⟩, hS.F ht⟩) hS.2.2 dX10_ransom_26

set_option maxHeartbeats 4000000 in
set_option maxRecDepth 100000 in
theorem c_X10_power (l : Launch) (G : va_G) (ct : Nat → ClassId) (a : Nat → Nat) (rr : Nat → Nat) (p0 : Int32)  : Met l yX10_power wsX10_power ({ frames := 5, cells := 0, slots := 0, locals := 111 }) (va_Pc [.ref (a 0), .int p0] (roP G ct (xF a rr ct))) (roQ (fun r => r = (-2))) 0 0 no := by
  refine Met.ofW (cc := cX10_power) (maxL := 2) (ret := (some .int)) (by decide) rfl ?_
  intro p e s m args below meth c s₁ B hml hv
  obtain ⟨rfl, hP, hK⟩ := hv
  have hx := B.exec
  have hb := B.bytes
  have hr := B.returns
  have hts := atoms_spec (ws := wsX10_power) B.pre
  have hown : s.vm.findClass RX10 = some m.cls := findClass_of_methodNamed B.named
  have hlocks := B.notSynchronized
  have hS : va_S no s.heap s.heap [] := va_S.rf
  have hl := lv_entry ([.ref (a 0), .int p0]) (n := 2) (Nat.le_of_ble_eq_true rfl)
  rw [lg_entry_eq]
  generalize (lg_sl ([.ref (a 0), .int p0]) ++ List.replicate (2 - (lg_sl ([.ref (a 0), .int p0])).length) Slot.unset).toArray = ls at hl ⊢
  have hl : lv_has ls 2 [(0, .ref (a 0)), (1, .int p0)] := hl
  refine lv_aload_n hx hb dX10_power_0 rfl (lv_at hl 0 rfl) ?_
  refine lv_iload_n hx hb dX10_power_1 rfl (lv_at hl 1 rfl) ?_
  refine ro_calli (va_runV (As := [.int p0]) (rest := []) ⟨hx, hb, hml, hown, hts⟩ (c_X10_isPerson l G ct a rr p0) (cwV 1 hts gX10_power_X10_isPerson rfl rfl rfl (by decide +kernel) ⟨Nat.le_of_ble_eq_true rfl, Nat.le_of_ble_eq_true rfl⟩) (ro_preV 10 0 hK hP rfl rfl) rfl rfl hl.1 rfl (lv_room (Nat.le_of_ble_eq_true rfl)) dX10_power_2 ⟨Nat.zero_le _, Nat.zero_le _⟩) hS hP (fun r_1 H locs wr_1 hP hS => ?_)
  obtain rfl := wr_1
  refine lv_if_eq (tgt := 26) hx hb dX10_power_5 (by decide) (fun c_2 => ?_) (fun c_2 => ?_)
  · refine lv_bipush (v := (-2)) hx hb dX10_power_26 (by decide) ?_
    exact W.iret (v := (-2)) hx hb hr (fun t ht hW => ⟨⟨(-2), (), rfl, rfl, trivial⟩, hS.F ht⟩) hS.2.2 dX10_power_28
  · exact absurd c_2 (by decide)

set_option maxHeartbeats 4000000 in
set_option maxRecDepth 100000 in
theorem c_X10_mighty (l : Launch) (G : va_G) (ct : Nat → ClassId) (a : Nat → Nat) (rr : Nat → Nat)  : Met l yX10_mighty wsX10_mighty ({ frames := 5, cells := 0, slots := 0, locals := 111 }) (va_Pc [.ref (a 0)] (roP G ct (xF a rr ct))) (roQ (fun r => r = (-2))) 0 0 no := by
  refine Met.ofW (cc := cX10_mighty) (maxL := 5) (ret := (some .int)) (by decide) rfl ?_
  intro p e s m args below meth c s₁ B hml hv
  obtain ⟨rfl, hP, hK⟩ := hv
  have hx := B.exec
  have hb := B.bytes
  have hr := B.returns
  have hts := atoms_spec (ws := wsX10_mighty) B.pre
  have hown : s.vm.findClass RX10 = some m.cls := findClass_of_methodNamed B.named
  have hlocks := B.notSynchronized
  have hS : va_S no s.heap s.heap [] := va_S.rf
  have hl := lv_entry ([.ref (a 0)]) (n := 5) (Nat.le_of_ble_eq_true rfl)
  rw [lg_entry_eq]
  generalize (lg_sl ([.ref (a 0)]) ++ List.replicate (5 - (lg_sl ([.ref (a 0)])).length) Slot.unset).toArray = ls at hl ⊢
  have hl : lv_has ls 5 [(0, .ref (a 0))] := hl
  refine lv_aload_n hx hb dX10_mighty_0 rfl (lv_at hl 0 rfl) ?_
  refine ro_calli (va_runV (As := []) (rest := []) ⟨hx, hb, hml, hown, hts⟩ (c_X10_hasCity l G ct a rr) (cwV 0 hts gX10_mighty_X10_hasCity rfl rfl rfl (by decide +kernel) ⟨Nat.le_of_ble_eq_true rfl, Nat.le_of_ble_eq_true rfl⟩) (ro_preV 10 0 hK hP rfl rfl) rfl rfl hl.1 rfl (lv_room (Nat.le_of_ble_eq_true rfl)) dX10_mighty_1 ⟨Nat.zero_le _, Nat.zero_le _⟩) hS hP (fun r_1 H locs wr_1 hP hS => ?_)
  obtain rfl := wr_1
  refine lv_if_ne (tgt := 10) hx hb dX10_mighty_4 (by decide) (fun c_2 => ?_) (fun c_2 => ?_)
  · exact absurd c_2 (by decide)
  · refine lv_bipush (v := (-2)) hx hb dX10_mighty_7 (by decide) ?_
    exact W.iret (v := (-2)) hx hb hr (fun t ht hW => ⟨⟨(-2), (), rfl, rfl, trivial⟩, hS.F ht⟩) hS.2.2 dX10_mighty_9

set_option maxHeartbeats 4000000 in
set_option maxRecDepth 100000 in
theorem c_X10_covet (l : Launch) (G : va_G) (ct : Nat → ClassId) (a : Nat → Nat) (rr : Nat → Nat) (p0 : Int32)  : Met l yX10_covet wsX10_covet ({ frames := 5, cells := 0, slots := 0, locals := 111 }) (va_Pc [.ref (a 0), .int p0] (roP G ct (xF a rr ct))) (roQ (fun r => r = (-2))) 0 0 no := by
  refine Met.ofW (cc := cX10_covet) (maxL := 6) (ret := (some .int)) (by decide) rfl ?_
  intro p e s m args below meth c s₁ B hml hv
  obtain ⟨rfl, hP, hK⟩ := hv
  have hx := B.exec
  have hb := B.bytes
  have hr := B.returns
  have hts := atoms_spec (ws := wsX10_covet) B.pre
  have hown : s.vm.findClass RX10 = some m.cls := findClass_of_methodNamed B.named
  have hlocks := B.notSynchronized
  have hS : va_S no s.heap s.heap [] := va_S.rf
  have hl := lv_entry ([.ref (a 0), .int p0]) (n := 6) (Nat.le_of_ble_eq_true rfl)
  rw [lg_entry_eq]
  generalize (lg_sl ([.ref (a 0), .int p0]) ++ List.replicate (6 - (lg_sl ([.ref (a 0), .int p0])).length) Slot.unset).toArray = ls at hl ⊢
  have hl : lv_has ls 6 [(0, .ref (a 0)), (1, .int p0)] := hl
  refine lv_aload_n hx hb dX10_covet_0 rfl (lv_at hl 0 rfl) ?_
  refine lv_iload_n hx hb dX10_covet_1 rfl (lv_at hl 1 rfl) ?_
  refine ro_calli (va_runV (As := [.int p0]) (rest := []) ⟨hx, hb, hml, hown, hts⟩ (c_X10_isPerson l G ct a rr p0) (cwV 1 hts gX10_covet_X10_isPerson rfl rfl rfl (by decide +kernel) ⟨Nat.le_of_ble_eq_true rfl, Nat.le_of_ble_eq_true rfl⟩) (ro_preV 10 0 hK hP rfl rfl) rfl rfl hl.1 rfl (lv_room (Nat.le_of_ble_eq_true rfl)) dX10_covet_2 ⟨Nat.zero_le _, Nat.zero_le _⟩) hS hP (fun r_1 H locs wr_1 hP hS => ?_)
  obtain rfl := wr_1
  refine lv_if_ne (tgt := 11) hx hb dX10_covet_5 (by decide) (fun c_2 => ?_) (fun c_2 => ?_)
  · exact absurd c_2 (by decide)
  · refine lv_bipush (v := (-2)) hx hb dX10_covet_8 (by decide) ?_
    exact W.iret (v := (-2)) hx hb hr (fun t ht hW => ⟨⟨(-2), (), rfl, rfl, trivial⟩, hS.F ht⟩) hS.2.2 dX10_covet_10

set_option maxHeartbeats 4000000 in
set_option maxRecDepth 100000 in
theorem c_X10_judge (l : Launch) (G : va_G) (ct : Nat → ClassId) (a : Nat → Nat) (rr : Nat → Nat) (p0 : Int32)  : Met l yX10_judge wsX10_judge ({ frames := 6, cells := 0, slots := 0, locals := 140 }) (va_Pc [.ref (a 0), .int p0] (roP G ct (xF a rr ct))) (roQ (fun r => r = (-2))) 0 0 no := by
  refine Met.ofW (cc := cX10_judge) (maxL := 3) (ret := (some .int)) (by decide) rfl ?_
  intro p e s m args below meth c s₁ B hml hv
  obtain ⟨rfl, hP, hK⟩ := hv
  have hx := B.exec
  have hb := B.bytes
  have hr := B.returns
  have hts := atoms_spec (ws := wsX10_judge) B.pre
  have hown : s.vm.findClass RX10 = some m.cls := findClass_of_methodNamed B.named
  have hlocks := B.notSynchronized
  have hS : va_S no s.heap s.heap [] := va_S.rf
  have hl := lv_entry ([.ref (a 0), .int p0]) (n := 3) (Nat.le_of_ble_eq_true rfl)
  rw [lg_entry_eq]
  generalize (lg_sl ([.ref (a 0), .int p0]) ++ List.replicate (3 - (lg_sl ([.ref (a 0), .int p0])).length) Slot.unset).toArray = ls at hl ⊢
  have hl : lv_has ls 3 [(0, .ref (a 0)), (1, .int p0)] := hl
  refine lv_aload_n hx hb dX10_judge_0 rfl (lv_at hl 0 rfl) ?_
  refine lv_iload_n hx hb dX10_judge_1 rfl (lv_at hl 1 rfl) ?_
  refine ro_calli (va_runV (As := [.int p0]) (rest := []) ⟨hx, hb, hml, hown, hts⟩ (c_X10_askingRowState l G ct a rr p0) (cwV 1 hts gX10_judge_X10_askingRowState rfl rfl rfl (by decide +kernel) ⟨Nat.le_of_ble_eq_true rfl, Nat.le_of_ble_eq_true rfl⟩) (ro_preV 10 0 hK hP rfl rfl) rfl rfl hl.1 rfl (lv_room (Nat.le_of_ble_eq_true rfl)) dX10_judge_2 ⟨Nat.zero_le _, Nat.zero_le _⟩) hS hP (fun r_1 H locs wr_1 hP hS => ?_)
  obtain rfl := wr_1
  refine lv_istore_n (lv' := [(2, .int (-2)), (0, .ref (a 0)), (1, .int p0)]) hx hb dX10_judge_5 rfl hl (by decide) rfl (fun ls hl => ?_)
  refine lv_iload_n hx hb dX10_judge_6 rfl (lv_at hl 0 rfl) ?_
  refine lv_if_eq (tgt := 14) hx hb dX10_judge_7 (by decide) (fun c_2 => ?_) (fun c_2 => ?_)
  · exact absurd c_2 (by decide)
  · refine lv_iload_n hx hb dX10_judge_10 rfl (lv_at hl 0 rfl) ?_
    refine lv_goto (tgt := 19) hx hb dX10_judge_11 (by decide) ?_
    exact W.iret (v := (-2)) hx hb hr (fun t ht hW => ⟨⟨(-2), (), rfl, rfl, trivial⟩, hS.F ht⟩) hS.2.2 dX10_judge_19

set_option maxHeartbeats 4000000 in
set_option maxRecDepth 100000 in
theorem c_X10_freed (l : Launch) (G : va_G) (ct : Nat → ClassId) (a : Nat → Nat) (rr : Nat → Nat) (p0 : Int32)  : Met l yX10_freed wsX10_freed ({ frames := 6, cells := 0, slots := 0, locals := 140 }) (va_Pc [.ref (a 0), .int p0] (roP G ct (xF a rr ct))) (roQ (fun r => r = (-2))) 0 0 no := by
  refine Met.ofW (cc := cX10_freed) (maxL := 3) (ret := (some .int)) (by decide) rfl ?_
  intro p e s m args below meth c s₁ B hml hv
  obtain ⟨rfl, hP, hK⟩ := hv
  have hx := B.exec
  have hb := B.bytes
  have hr := B.returns
  have hts := atoms_spec (ws := wsX10_freed) B.pre
  have hown : s.vm.findClass RX10 = some m.cls := findClass_of_methodNamed B.named
  have hlocks := B.notSynchronized
  have hS : va_S no s.heap s.heap [] := va_S.rf
  have hl := lv_entry ([.ref (a 0), .int p0]) (n := 3) (Nat.le_of_ble_eq_true rfl)
  rw [lg_entry_eq]
  generalize (lg_sl ([.ref (a 0), .int p0]) ++ List.replicate (3 - (lg_sl ([.ref (a 0), .int p0])).length) Slot.unset).toArray = ls at hl ⊢
  have hl : lv_has ls 3 [(0, .ref (a 0)), (1, .int p0)] := hl
  refine lv_aload_n hx hb dX10_freed_0 rfl (lv_at hl 0 rfl) ?_
  refine lv_iload_n hx hb dX10_freed_1 rfl (lv_at hl 1 rfl) ?_
  refine ro_calli (va_runV (As := [.int p0]) (rest := []) ⟨hx, hb, hml, hown, hts⟩ (c_X10_askingRowState l G ct a rr p0) (cwV 1 hts gX10_freed_X10_askingRowState rfl rfl rfl (by decide +kernel) ⟨Nat.le_of_ble_eq_true rfl, Nat.le_of_ble_eq_true rfl⟩) (ro_preV 10 0 hK hP rfl rfl) rfl rfl hl.1 rfl (lv_room (Nat.le_of_ble_eq_true rfl)) dX10_freed_2 ⟨Nat.zero_le _, Nat.zero_le _⟩) hS hP (fun r_1 H locs wr_1 hP hS => ?_)
  obtain rfl := wr_1
  refine lv_istore_n (lv' := [(2, .int (-2)), (0, .ref (a 0)), (1, .int p0)]) hx hb dX10_freed_5 rfl hl (by decide) rfl (fun ls hl => ?_)
  refine lv_iload_n hx hb dX10_freed_6 rfl (lv_at hl 0 rfl) ?_
  refine lv_if_eq (tgt := 12) hx hb dX10_freed_7 (by decide) (fun c_2 => ?_) (fun c_2 => ?_)
  · exact absurd c_2 (by decide)
  · refine lv_iload_n hx hb dX10_freed_10 rfl (lv_at hl 0 rfl) ?_
    exact W.iret (v := (-2)) hx hb hr (fun t ht hW => ⟨⟨(-2), (), rfl, rfl, trivial⟩, hS.F ht⟩) hS.2.2 dX10_freed_11

set_option maxHeartbeats 4000000 in
set_option maxRecDepth 100000 in
theorem c_X10_drawn (l : Launch) (G : va_G) (ct : Nat → ClassId) (a : Nat → Nat) (rr : Nat → Nat) (p0 : Int32) (p1 : Int32)  : Met l yX10_drawn wsX10_drawn ({ frames := 3, cells := 0, slots := 0, locals := 85 }) (va_Pc [.ref (a 0), .int p0, .int p1] (roP G ct (xF a rr ct))) (roQ (fun r => r = (-2))) 0 0 no := by
  refine Met.ofW (cc := cX10_drawn) (maxL := 3) (ret := (some .int)) (by decide) rfl ?_
  intro p e s m args below meth c s₁ B hml hv
  obtain ⟨rfl, hP, hK⟩ := hv
  have hx := B.exec
  have hb := B.bytes
  have hr := B.returns
  have hts := atoms_spec (ws := wsX10_drawn) B.pre
  have hown : s.vm.findClass RX10 = some m.cls := findClass_of_methodNamed B.named
  have hlocks := B.notSynchronized
  have hS : va_S no s.heap s.heap [] := va_S.rf
  have hl := lv_entry ([.ref (a 0), .int p0, .int p1]) (n := 3) (Nat.le_of_ble_eq_true rfl)
  rw [lg_entry_eq]
  generalize (lg_sl ([.ref (a 0), .int p0, .int p1]) ++ List.replicate (3 - (lg_sl ([.ref (a 0), .int p0, .int p1])).length) Slot.unset).toArray = ls at hl ⊢
  have hl : lv_has ls 3 [(0, .ref (a 0)), (1, .int p0), (2, .int p1)] := hl
  refine lv_iload_n hx hb dX10_drawn_0 rfl (lv_at hl 1 rfl) ?_
  refine ro_calli (va_runS (As := [.int p0]) (rest := []) ⟨hx, hb, hml, hown, hts⟩ (c_X10_isSeed l G ct p0) (va_cwS 1 hts gX10_drawn_X10_isSeed rfl rfl rfl (by decide +kernel) ⟨Nat.le_of_ble_eq_true rfl, Nat.le_of_ble_eq_true rfl⟩) (ro_pre hK (hP.sub [] rfl)) rfl rfl hl.1 rfl (lv_room (Nat.le_of_ble_eq_true rfl)) dX10_drawn_1 ⟨Nat.zero_le _, Nat.zero_le _⟩) hS hP (fun r_1 H locs wr_1 hP hS => ?_)
  refine lv_if_eq (tgt := 15) hx hb dX10_drawn_4 (by decide) (fun c_2 => ?_) (fun c_2 => ?_)
  · refine lv_bipush (v := (-2)) hx hb dX10_drawn_15 (by decide) ?_
    exact W.iret (v := (-2)) hx hb hr (fun t ht hW => ⟨⟨(-2), (), rfl, rfl, trivial⟩, hS.F ht⟩) hS.2.2 dX10_drawn_17
  · refine lv_aload_n hx hb dX10_drawn_7 rfl (lv_at hl 0 rfl) ?_
    refine lv_iload_n hx hb dX10_drawn_8 rfl (lv_at hl 2 rfl) ?_
    refine ro_calli (va_runV (As := [.int p1]) (rest := []) ⟨hx, hb, hml, hown, hts⟩ (c_X10_isPerson l G ct a rr p1) (cwV 1 hts gX10_drawn_X10_isPerson rfl rfl rfl (by decide +kernel) ⟨Nat.le_of_ble_eq_true rfl, Nat.le_of_ble_eq_true rfl⟩) (ro_preV 10 0 hK hP rfl rfl) rfl rfl hl.1 rfl (lv_room (Nat.le_of_ble_eq_true rfl)) dX10_drawn_9 ⟨Nat.zero_le _, Nat.zero_le _⟩) hS hP (fun r_3 H locs wr_3 hP hS => ?_)
    obtain rfl := wr_3
    refine lv_if_ne (tgt := 18) hx hb dX10_drawn_12 (by decide) (fun c_4 => ?_) (fun c_4 => ?_)
    · exact absurd c_4 (by decide)
    · refine lv_bipush (v := (-2)) hx hb dX10_drawn_15 (by decide) ?_
      exact W.iret (v := (-2)) hx hb hr (fun t ht hW => ⟨⟨(-2), (), rfl, rfl, trivial⟩, hS.F ht⟩) hS.2.2 dX10_drawn_17

set_option maxHeartbeats 4000000 in
set_option maxRecDepth 100000 in
theorem c_X10_luck (l : Launch) (G : va_G) (ct : Nat → ClassId) (a : Nat → Nat) (rr : Nat → Nat) (p0 : Int32) (p1 : Int32) (p2 : Int32)  : Met l yX10_luck wsX10_luck ({ frames := 3, cells := 0, slots := 0, locals := 85 }) (va_Pc [.ref (a 0), .int p0, .int p1, .int p2] (roP G ct (xF a rr ct))) (roQ (fun r => r = (-2))) 0 0 no := by
  refine Met.ofW (cc := cX10_luck) (maxL := 6) (ret := (some .int)) (by decide) rfl ?_
  intro p e s m args below meth c s₁ B hml hv
  obtain ⟨rfl, hP, hK⟩ := hv
  have hx := B.exec
  have hb := B.bytes
  have hr := B.returns
  have hts := atoms_spec (ws := wsX10_luck) B.pre
  have hown : s.vm.findClass RX10 = some m.cls := findClass_of_methodNamed B.named
  have hlocks := B.notSynchronized
  have hS : va_S no s.heap s.heap [] := va_S.rf
  have hl := lv_entry ([.ref (a 0), .int p0, .int p1, .int p2]) (n := 6) (Nat.le_of_ble_eq_true rfl)
  rw [lg_entry_eq]
  generalize (lg_sl ([.ref (a 0), .int p0, .int p1, .int p2]) ++ List.replicate (6 - (lg_sl ([.ref (a 0), .int p0, .int p1, .int p2])).length) Slot.unset).toArray = ls at hl ⊢
  have hl : lv_has ls 6 [(0, .ref (a 0)), (1, .int p0), (2, .int p1), (3, .int p2)] := hl
  refine lv_iload_n hx hb dX10_luck_0 rfl (lv_at hl 1 rfl) ?_
  refine ro_calli (va_runS (As := [.int p0]) (rest := []) ⟨hx, hb, hml, hown, hts⟩ (c_X10_isSeed l G ct p0) (va_cwS 1 hts gX10_luck_X10_isSeed rfl rfl rfl (by decide +kernel) ⟨Nat.le_of_ble_eq_true rfl, Nat.le_of_ble_eq_true rfl⟩) (ro_pre hK (hP.sub [] rfl)) rfl rfl hl.1 rfl (lv_room (Nat.le_of_ble_eq_true rfl)) dX10_luck_1 ⟨Nat.zero_le _, Nat.zero_le _⟩) hS hP (fun r_1 H locs wr_1 hP hS => ?_)
  refine lv_if_eq (tgt := 22) hx hb dX10_luck_4 (by decide) (fun c_2 => ?_) (fun c_2 => ?_)
  · refine lv_bipush (v := (-2)) hx hb dX10_luck_22 (by decide) ?_
    exact W.iret (v := (-2)) hx hb hr (fun t ht hW => ⟨⟨(-2), (), rfl, rfl, trivial⟩, hS.F ht⟩) hS.2.2 dX10_luck_24
  · refine lv_iload_n hx hb dX10_luck_7 rfl (lv_at hl 2 rfl) ?_
    refine ro_calli (va_runS (As := [.int p1]) (rest := []) ⟨hx, hb, hml, hown, hts⟩ (c_X10_isSquareNumber l G ct p1) (va_cwS 1 hts gX10_luck_X10_isSquareNumber rfl rfl rfl (by decide +kernel) ⟨Nat.le_of_ble_eq_true rfl, Nat.le_of_ble_eq_true rfl⟩) (ro_pre hK (hP.sub [] rfl)) rfl rfl hl.1 rfl (lv_room (Nat.le_of_ble_eq_true rfl)) dX10_luck_8 ⟨Nat.zero_le _, Nat.zero_le _⟩) hS hP (fun r_3 H locs wr_3 hP hS => ?_)
    refine lv_if_eq (tgt := 22) hx hb dX10_luck_11 (by decide) (fun c_4 => ?_) (fun c_4 => ?_)
    · refine lv_bipush (v := (-2)) hx hb dX10_luck_22 (by decide) ?_
      exact W.iret (v := (-2)) hx hb hr (fun t ht hW => ⟨⟨(-2), (), rfl, rfl, trivial⟩, hS.F ht⟩) hS.2.2 dX10_luck_24
    · refine lv_aload_n hx hb dX10_luck_14 rfl (lv_at hl 0 rfl) ?_
      refine lv_iload_n hx hb dX10_luck_15 rfl (lv_at hl 3 rfl) ?_
      refine ro_calli (va_runV (As := [.int p2]) (rest := []) ⟨hx, hb, hml, hown, hts⟩ (c_X10_isPerson l G ct a rr p2) (cwV 1 hts gX10_luck_X10_isPerson rfl rfl rfl (by decide +kernel) ⟨Nat.le_of_ble_eq_true rfl, Nat.le_of_ble_eq_true rfl⟩) (ro_preV 10 0 hK hP rfl rfl) rfl rfl hl.1 rfl (lv_room (Nat.le_of_ble_eq_true rfl)) dX10_luck_16 ⟨Nat.zero_le _, Nat.zero_le _⟩) hS hP (fun r_5 H locs wr_5 hP hS => ?_)
      obtain rfl := wr_5
      refine lv_if_ne (tgt := 25) hx hb dX10_luck_19 (by decide) (fun c_6 => ?_) (fun c_6 => ?_)
      · exact absurd c_6 (by decide)
      · refine lv_bipush (v := (-2)) hx hb dX10_luck_22 (by decide) ?_
        exact W.iret (v := (-2)) hx hb hr (fun t ht hW => ⟨⟨(-2), (), rfl, rfl, trivial⟩, hS.F ht⟩) hS.2.2 dX10_luck_24

set_option maxHeartbeats 4000000 in
set_option maxRecDepth 100000 in
theorem c_X10_winds (l : Launch) (G : va_G) (ct : Nat → ClassId) (a : Nat → Nat) (rr : Nat → Nat) (p0 : Int32) (p1 : Int32)  : Met l yX10_winds wsX10_winds ({ frames := 6, cells := 0, slots := 0, locals := 133 }) (va_Pc [.ref (a 0), .int p0, .int p1] (roP G ct (xF a rr ct))) (roQ (fun r => r = (-2))) 0 0 no := by
  refine Met.ofW (cc := cX10_winds) (maxL := 5) (ret := (some .int)) (by decide) rfl ?_
  intro p e s m args below meth c s₁ B hml hv
  obtain ⟨rfl, hP, hK⟩ := hv
  have hx := B.exec
  have hb := B.bytes
  have hr := B.returns
  have hts := atoms_spec (ws := wsX10_winds) B.pre
  have hown : s.vm.findClass RX10 = some m.cls := findClass_of_methodNamed B.named
  have hlocks := B.notSynchronized
  have hS : va_S no s.heap s.heap [] := va_S.rf
  have hl := lv_entry ([.ref (a 0), .int p0, .int p1]) (n := 5) (Nat.le_of_ble_eq_true rfl)
  rw [lg_entry_eq]
  generalize (lg_sl ([.ref (a 0), .int p0, .int p1]) ++ List.replicate (5 - (lg_sl ([.ref (a 0), .int p0, .int p1])).length) Slot.unset).toArray = ls at hl ⊢
  have hl : lv_has ls 5 [(0, .ref (a 0)), (1, .int p0), (2, .int p1)] := hl
  refine lv_aload_n hx hb dX10_winds_0 rfl (lv_at hl 0 rfl) ?_
  refine ro_calli (va_runV (As := []) (rest := []) ⟨hx, hb, hml, hown, hts⟩ (c_X10_hasCity l G ct a rr) (cwV 0 hts gX10_winds_X10_hasCity rfl rfl rfl (by decide +kernel) ⟨Nat.le_of_ble_eq_true rfl, Nat.le_of_ble_eq_true rfl⟩) (ro_preV 10 0 hK hP rfl rfl) rfl rfl hl.1 rfl (lv_room (Nat.le_of_ble_eq_true rfl)) dX10_winds_1 ⟨Nat.zero_le _, Nat.zero_le _⟩) hS hP (fun r_1 H locs wr_1 hP hS => ?_)
  obtain rfl := wr_1
  refine lv_if_eq (tgt := 21) hx hb dX10_winds_4 (by decide) (fun c_2 => ?_) (fun c_2 => ?_)
  · refine lv_bipush (v := (-2)) hx hb dX10_winds_21 (by decide) ?_
    exact W.iret (v := (-2)) hx hb hr (fun t ht hW => ⟨⟨(-2), (), rfl, rfl, trivial⟩, hS.F ht⟩) hS.2.2 dX10_winds_23
  · exact absurd c_2 (by decide)

set_option maxHeartbeats 4000000 in
set_option maxRecDepth 100000 in
theorem c_X10_rate (l : Launch) (G : va_G) (ct : Nat → ClassId) (a : Nat → Nat) (rr : Nat → Nat) (p0 : Int32) (p1 : Int32)  : Met l yX10_rate wsX10_rate ({ frames := 2, cells := 0, slots := 0, locals := 42 }) (va_Pc [.ref (a 0), .int p0, .int p1] (roP G ct (xF a rr ct))) (roQ (fun r => r = (-2))) 0 0 no := by
  refine Met.ofW (cc := cX10_rate) (maxL := 4) (ret := (some .int)) (by decide) rfl ?_
  intro p e s m args below meth c s₁ B hml hv
  obtain ⟨rfl, hP, hK⟩ := hv
  have hx := B.exec
  have hb := B.bytes
  have hr := B.returns
  have hts := atoms_spec (ws := wsX10_rate) B.pre
  have hown : s.vm.findClass RX10 = some m.cls := findClass_of_methodNamed B.named
  have hlocks := B.notSynchronized
  have hS : va_S no s.heap s.heap [] := va_S.rf
  have hl := lv_entry ([.ref (a 0), .int p0, .int p1]) (n := 4) (Nat.le_of_ble_eq_true rfl)
  rw [lg_entry_eq]
  generalize (lg_sl ([.ref (a 0), .int p0, .int p1]) ++ List.replicate (4 - (lg_sl ([.ref (a 0), .int p0, .int p1])).length) Slot.unset).toArray = ls at hl ⊢
  have hl : lv_has ls 4 [(0, .ref (a 0)), (1, .int p0), (2, .int p1)] := hl
  refine lv_aload_n hx hb dX10_rate_0 rfl (lv_at hl 0 rfl) ?_
  refine lv_iload_n hx hb dX10_rate_1 rfl (lv_at hl 1 rfl) ?_
  refine ro_calli (va_runV (As := [.int p0]) (rest := []) ⟨hx, hb, hml, hown, hts⟩ (c_X10_isPerson l G ct a rr p0) (cwV 1 hts gX10_rate_X10_isPerson rfl rfl rfl (by decide +kernel) ⟨Nat.le_of_ble_eq_true rfl, Nat.le_of_ble_eq_true rfl⟩) (ro_preV 10 0 hK hP rfl rfl) rfl rfl hl.1 rfl (lv_room (Nat.le_of_ble_eq_true rfl)) dX10_rate_2 ⟨Nat.zero_le _, Nat.zero_le _⟩) hS hP (fun r_1 H locs wr_1 hP hS => ?_)
  obtain rfl := wr_1
  refine lv_if_eq (tgt := 20) hx hb dX10_rate_5 (by decide) (fun c_2 => ?_) (fun c_2 => ?_)
  · refine lv_bipush (v := (-2)) hx hb dX10_rate_20 (by decide) ?_
    exact W.iret (v := (-2)) hx hb hr (fun t ht hW => ⟨⟨(-2), (), rfl, rfl, trivial⟩, hS.F ht⟩) hS.2.2 dX10_rate_22
  · exact absurd c_2 (by decide)

set_option maxHeartbeats 4000000 in
set_option maxRecDepth 100000 in
theorem c_X10_forge (l : Launch) (G : va_G) (ct : Nat → ClassId) (a : Nat → Nat) (rr : Nat → Nat) (p0 : Int32) (p1 : Int32)  : Met l yX10_forge wsX10_forge ({ frames := 2, cells := 0, slots := 0, locals := 42 }) (va_Pc [.ref (a 0), .int p0, .int p1] (roP G ct (xF a rr ct))) (roQ (fun r => r = (-2))) 0 0 no := by
  refine Met.ofW (cc := cX10_forge) (maxL := 4) (ret := (some .int)) (by decide) rfl ?_
  intro p e s m args below meth c s₁ B hml hv
  obtain ⟨rfl, hP, hK⟩ := hv
  have hx := B.exec
  have hb := B.bytes
  have hr := B.returns
  have hts := atoms_spec (ws := wsX10_forge) B.pre
  have hown : s.vm.findClass RX10 = some m.cls := findClass_of_methodNamed B.named
  have hlocks := B.notSynchronized
  have hS : va_S no s.heap s.heap [] := va_S.rf
  have hl := lv_entry ([.ref (a 0), .int p0, .int p1]) (n := 4) (Nat.le_of_ble_eq_true rfl)
  rw [lg_entry_eq]
  generalize (lg_sl ([.ref (a 0), .int p0, .int p1]) ++ List.replicate (4 - (lg_sl ([.ref (a 0), .int p0, .int p1])).length) Slot.unset).toArray = ls at hl ⊢
  have hl : lv_has ls 4 [(0, .ref (a 0)), (1, .int p0), (2, .int p1)] := hl
  refine lv_aload_n hx hb dX10_forge_0 rfl (lv_at hl 0 rfl) ?_
  refine lv_iload_n hx hb dX10_forge_1 rfl (lv_at hl 1 rfl) ?_
  refine ro_calli (va_runV (As := [.int p0]) (rest := []) ⟨hx, hb, hml, hown, hts⟩ (c_X10_isPerson l G ct a rr p0) (cwV 1 hts gX10_forge_X10_isPerson rfl rfl rfl (by decide +kernel) ⟨Nat.le_of_ble_eq_true rfl, Nat.le_of_ble_eq_true rfl⟩) (ro_preV 10 0 hK hP rfl rfl) rfl rfl hl.1 rfl (lv_room (Nat.le_of_ble_eq_true rfl)) dX10_forge_2 ⟨Nat.zero_le _, Nat.zero_le _⟩) hS hP (fun r_1 H locs wr_1 hP hS => ?_)
  obtain rfl := wr_1
  refine lv_if_eq (tgt := 17) hx hb dX10_forge_5 (by decide) (fun c_2 => ?_) (fun c_2 => ?_)
  · refine lv_bipush (v := (-2)) hx hb dX10_forge_17 (by decide) ?_
    exact W.iret (v := (-2)) hx hb hr (fun t ht hW => ⟨⟨(-2), (), rfl, rfl, trivial⟩, hS.F ht⟩) hS.2.2 dX10_forge_19
  · exact absurd c_2 (by decide)
