theorem dX10_suspects_0 : decode cX10_suspects 0 = .ok (.aload_n 0, 1) := by decide +kernel
theorem dX10_suspects_1 : decode cX10_suspects 1 = .ok (.iload_n 1, 1) := by decide +kernel
set_option maxRecDepth 20000 in
theorem ggX10_suspects_X10_deedRowState : GoodIn wsX10_suspects wsX10_deedRowState := goodIn_r _ [8, 3, 9, 10, 11, 12, 7, 13, 14, 15, 16, 17, 18, 19, 20, 21, 22, 1, 2, 23, 24, 25, 26, 27, 28, 29, 30, 31, 32, 33, 34, 35, 36, 37, 38, 39, 40, 41, 42, 43, 44, 45, 46, 70, 71, 72, 73, 74, 75, 76, 77, 78, 79, 80, 81, 82, 83, 84, 85, 86, 87, 88, 89, 90, 91, 92, 93, 94, 95] (by rfl) (by decide +kernel)
set_option maxRecDepth 20000 in
theorem gX10_suspects_X10_deedRowState : GoodIn wsX10_suspects (wsV RX10 287 RX10 yX10_deedRowState wsX10_deedRowState) := goodIn_app (goodIn_r _ [4, 5, 6, 7] (by rfl) (by decide +kernel)) ggX10_suspects_X10_deedRowState
theorem dX10_suspects_2 : decode cX10_suspects 2 = .ok (.invokevirtual 287, 3) := by decide +kernel
theorem dX10_suspects_5 : decode cX10_suspects 5 = .ok (.istore_n 2, 1) := by decide +kernel
theorem dX10_suspects_6 : decode cX10_suspects 6 = .ok (.iload_n 2, 1) := by decide +kernel
theorem dX10_suspects_7 : decode cX10_suspects 7 = .ok (.ifCond .eq 7, 3) := by decide +kernel
theorem dX10_suspects_14 : decode cX10_suspects 14 = .ok (.aload_n 0, 1) := by decide +kernel
theorem dX10_suspects_15 : decode cX10_suspects 15 = .ok (.getfield 28, 3) := by decide +kernel
theorem dX10_suspects_18 : decode cX10_suspects 18 = .ok (.getfield 49, 3) := by decide +kernel
theorem dX10_suspects_21 : decode cX10_suspects 21 = .ok (.aload_n 0, 1) := by decide +kernel
theorem dX10_suspects_22 : decode cX10_suspects 22 = .ok (.getfield 43, 3) := by decide +kernel
theorem dX10_suspects_25 : decode cX10_suspects 25 = .ok (.iload_n 1, 1) := by decide +kernel
set_option maxRecDepth 20000 in
theorem ggX10_suspects_X6_bitsOf : GoodIn wsX10_suspects wsX6_bitsOf := goodIn_r _ [50, 46, 33, 34, 17, 35, 36, 29, 15, 16, 18, 51, 38, 39, 40, 41, 42, 43, 44, 45, 92, 93, 94, 95] (by rfl) (by decide +kernel)
set_option maxRecDepth 20000 in
theorem gX10_suspects_X6_bitsOf : GoodIn wsX10_suspects (wsV RX10 290 RX6 yX6_bitsOf wsX6_bitsOf) := goodIn_app (goodIn_r _ [47, 48, 49, 17] (by rfl) (by decide +kernel)) ggX10_suspects_X6_bitsOf
theorem dX10_suspects_26 : decode cX10_suspects 26 = .ok (.invokevirtual 290, 3) := by decide +kernel
set_option maxRecDepth 20000 in
theorem ggX10_suspects_X9_wishersOf : GoodIn wsX10_suspects wsX9_wishersOf := goodIn_r _ [56, 57, 58, 59, 60, 61, 55, 62, 63, 64, 65, 66, 67, 68, 69, 85, 86, 87, 88, 89, 90, 91, 96, 97] (by rfl) (by decide +kernel)
set_option maxRecDepth 20000 in
theorem gX10_suspects_X9_wishersOf : GoodIn wsX10_suspects (wsV RX10 293 RX9 yX9_wishersOf wsX9_wishersOf) := goodIn_app (goodIn_r _ [52, 53, 54, 55] (by rfl) (by decide +kernel)) ggX10_suspects_X9_wishersOf
theorem dX10_suspects_29 : decode cX10_suspects 29 = .ok (.invokevirtual 293, 3) := by decide +kernel
theorem dX10_suspects_32 : decode cX10_suspects 32 = .ok (.ireturn, 1) := by decide +kernel
theorem dX10_suspects_10 : decode cX10_suspects 10 = .ok (.iload_n 2, 1) := by decide +kernel
theorem dX10_suspects_11 : decode cX10_suspects 11 = .ok (.goto 21, 3) := by decide +kernel
theorem dX10_watch_0 : decode cX10_watch 0 = .ok (.aload_n 0, 1) := by decide +kernel
theorem dX10_watch_1 : decode cX10_watch 1 = .ok (.iload_n 1, 1) := by decide +kernel
set_option maxRecDepth 20000 in
theorem ggX10_watch_X10_deedRowState : GoodIn wsX10_watch wsX10_deedRowState := goodIn_r _ [8, 3, 9, 10, 11, 12, 7, 13, 14, 15, 16, 17, 18, 19, 20, 21, 22, 1, 2, 23, 24, 25, 26, 27, 28, 29, 30, 31, 32, 33, 34, 35, 36, 37, 38, 39, 40, 41, 42, 43, 44, 45, 46, 90, 91, 92, 93, 94, 95, 96, 97, 98, 99, 100, 101, 102, 103, 104, 105, 106, 107, 108, 109, 110, 111, 112, 113, 114, 115] (by rfl) (by decide +kernel)
set_option maxRecDepth 20000 in
theorem gX10_watch_X10_deedRowState : GoodIn wsX10_watch (wsV RX10 287 RX10 yX10_deedRowState wsX10_deedRowState) := goodIn_app (goodIn_r _ [4, 5, 6, 7] (by rfl) (by decide +kernel)) ggX10_watch_X10_deedRowState
theorem dX10_watch_2 : decode cX10_watch 2 = .ok (.invokevirtual 287, 3) := by decide +kernel
theorem dX10_watch_5 : decode cX10_watch 5 = .ok (.istore_n 2, 1) := by decide +kernel
theorem dX10_watch_6 : decode cX10_watch 6 = .ok (.iload_n 2, 1) := by decide +kernel
theorem dX10_watch_7 : decode cX10_watch 7 = .ok (.ifCond .eq 5, 3) := by decide +kernel
theorem dX10_watch_12 : decode cX10_watch 12 = .ok (.aload_n 0, 1) := by decide +kernel
theorem dX10_watch_13 : decode cX10_watch 13 = .ok (.getfield 28, 3) := by decide +kernel
theorem dX10_watch_16 : decode cX10_watch 16 = .ok (.getfield 49, 3) := by decide +kernel
theorem dX10_watch_19 : decode cX10_watch 19 = .ok (.aload_n 0, 1) := by decide +kernel
theorem dX10_watch_20 : decode cX10_watch 20 = .ok (.getfield 43, 3) := by decide +kernel
theorem dX10_watch_23 : decode cX10_watch 23 = .ok (.iload_n 1, 1) := by decide +kernel
set_option maxRecDepth 20000 in
theorem ggX10_watch_X6_bitsOf : GoodIn wsX10_watch wsX6_bitsOf := goodIn_r _ [50, 46, 33, 34, 17, 35, 36, 29, 15, 16, 18, 51, 38, 39, 40, 41, 42, 43, 44, 45, 112, 113, 114, 115] (by rfl) (by decide +kernel)
set_option maxRecDepth 20000 in
theorem gX10_watch_X6_bitsOf : GoodIn wsX10_watch (wsV RX10 290 RX6 yX6_bitsOf wsX6_bitsOf) := goodIn_app (goodIn_r _ [47, 48, 49, 17] (by rfl) (by decide +kernel)) ggX10_watch_X6_bitsOf
theorem dX10_watch_24 : decode cX10_watch 24 = .ok (.invokevirtual 290, 3) := by decide +kernel
set_option maxRecDepth 20000 in
theorem ggX10_watch_X9_wishersOf : GoodIn wsX10_watch wsX9_wishersOf := goodIn_r _ [56, 57, 58, 59, 60, 61, 55, 62, 63, 64, 65, 66, 67, 68, 69, 105, 106, 107, 108, 109, 110, 111, 116, 117] (by rfl) (by decide +kernel)
set_option maxRecDepth 20000 in
theorem gX10_watch_X9_wishersOf : GoodIn wsX10_watch (wsV RX10 293 RX9 yX9_wishersOf wsX9_wishersOf) := goodIn_app (goodIn_r _ [52, 53, 54, 55] (by rfl) (by decide +kernel)) ggX10_watch_X9_wishersOf
theorem dX10_watch_27 : decode cX10_watch 27 = .ok (.invokevirtual 293, 3) := by decide +kernel
theorem dX10_watch_30 : decode cX10_watch 30 = .ok (.istore_n 3, 1) := by decide +kernel
theorem dX10_watch_31 : decode cX10_watch 31 = .ok (.aload_n 0, 1) := by decide +kernel
theorem dX10_watch_32 : decode cX10_watch 32 = .ok (.getfield 28, 3) := by decide +kernel
theorem dX10_watch_35 : decode cX10_watch 35 = .ok (.getfield 49, 3) := by decide +kernel
theorem dX10_watch_38 : decode cX10_watch 38 = .ok (.iload_n 3, 1) := by decide +kernel
set_option maxRecDepth 20000 in
theorem ggX10_watch_X9_tellingDeed : GoodIn wsX10_watch wsX9_tellingDeed := goodIn_r _ [73, 74, 75, 76, 77, 78, 79, 80, 81, 82, 83, 55, 84, 85, 86, 87, 88, 89, 53, 54, 56, 57, 58, 59, 60, 61, 62, 63, 64, 65, 66, 67, 68, 69, 105, 106, 107, 108, 109, 110, 111, 116, 117] (by rfl) (by decide +kernel)
set_option maxRecDepth 20000 in
theorem gX10_watch_X9_tellingDeed : GoodIn wsX10_watch (wsV RX10 296 RX9 yX9_tellingDeed wsX9_tellingDeed) := goodIn_app (goodIn_r _ [70, 71, 72, 55] (by rfl) (by decide +kernel)) ggX10_watch_X9_tellingDeed
theorem dX10_watch_39 : decode cX10_watch 39 = .ok (.invokevirtual 296, 3) := by decide +kernel
theorem dX10_watch_42 : decode cX10_watch 42 = .ok (.ireturn, 1) := by decide +kernel
theorem dX10_watch_10 : decode cX10_watch 10 = .ok (.iload_n 2, 1) := by decide +kernel
theorem dX10_watch_11 : decode cX10_watch 11 = .ok (.ireturn, 1) := by decide +kernel
theorem dX10_leaves_0 : decode cX10_leaves 0 = .ok (.aload_n 0, 1) := by decide +kernel
theorem dX10_leaves_1 : decode cX10_leaves 1 = .ok (.iload_n 1, 1) := by decide +kernel
set_option maxRecDepth 20000 in
theorem ggX10_leaves_X10_deedRowState : GoodIn wsX10_leaves wsX10_deedRowState := goodIn_r _ [8, 3, 9, 10, 11, 12, 7, 13, 14, 15, 16, 17, 18, 19, 20, 21, 22, 1, 2, 23, 24, 25, 26, 27, 28, 29, 30, 31, 32, 33, 34, 35, 36, 37, 38, 39, 40, 41, 42, 43, 44, 45, 46, 92, 93, 94, 95, 96, 97, 98, 99, 100, 101, 102, 103, 104, 105, 106, 107, 108, 109, 110, 111, 112, 113, 114, 115, 116, 117] (by rfl) (by decide +kernel)
set_option maxRecDepth 20000 in
theorem gX10_leaves_X10_deedRowState : GoodIn wsX10_leaves (wsV RX10 287 RX10 yX10_deedRowState wsX10_deedRowState) := goodIn_app (goodIn_r _ [4, 5, 6, 7] (by rfl) (by decide +kernel)) ggX10_leaves_X10_deedRowState
theorem dX10_leaves_2 : decode cX10_leaves 2 = .ok (.invokevirtual 287, 3) := by decide +kernel
theorem dX10_leaves_5 : decode cX10_leaves 5 = .ok (.istore_n 2, 1) := by decide +kernel
theorem dX10_leaves_6 : decode cX10_leaves 6 = .ok (.iload_n 2, 1) := by decide +kernel
theorem dX10_leaves_7 : decode cX10_leaves 7 = .ok (.ifCond .eq 5, 3) := by decide +kernel
theorem dX10_leaves_12 : decode cX10_leaves 12 = .ok (.aload_n 0, 1) := by decide +kernel
theorem dX10_leaves_13 : decode cX10_leaves 13 = .ok (.getfield 28, 3) := by decide +kernel
theorem dX10_leaves_16 : decode cX10_leaves 16 = .ok (.getfield 49, 3) := by decide +kernel
theorem dX10_leaves_19 : decode cX10_leaves 19 = .ok (.aload_n 0, 1) := by decide +kernel
theorem dX10_leaves_20 : decode cX10_leaves 20 = .ok (.getfield 43, 3) := by decide +kernel
theorem dX10_leaves_23 : decode cX10_leaves 23 = .ok (.iload_n 1, 1) := by decide +kernel
set_option maxRecDepth 20000 in
theorem ggX10_leaves_X6_bitsOf : GoodIn wsX10_leaves wsX6_bitsOf := goodIn_r _ [50, 46, 33, 34, 17, 35, 36, 29, 15, 16, 18, 51, 38, 39, 40, 41, 42, 43, 44, 45, 114, 115, 116, 117] (by rfl) (by decide +kernel)
set_option maxRecDepth 20000 in
theorem gX10_leaves_X6_bitsOf : GoodIn wsX10_leaves (wsV RX10 290 RX6 yX6_bitsOf wsX6_bitsOf) := goodIn_app (goodIn_r _ [47, 48, 49, 17] (by rfl) (by decide +kernel)) ggX10_leaves_X6_bitsOf
theorem dX10_leaves_24 : decode cX10_leaves 24 = .ok (.invokevirtual 290, 3) := by decide +kernel
set_option maxRecDepth 20000 in
theorem ggX10_leaves_X9_wishersOf : GoodIn wsX10_leaves wsX9_wishersOf := goodIn_r _ [56, 57, 58, 59, 60, 61, 55, 62, 63, 64, 65, 66, 67, 68, 69, 107, 108, 109, 110, 111, 112, 113, 118, 119] (by rfl) (by decide +kernel)
set_option maxRecDepth 20000 in
theorem gX10_leaves_X9_wishersOf : GoodIn wsX10_leaves (wsV RX10 293 RX9 yX9_wishersOf wsX9_wishersOf) := goodIn_app (goodIn_r _ [52, 53, 54, 55] (by rfl) (by decide +kernel)) ggX10_leaves_X9_wishersOf
theorem dX10_leaves_27 : decode cX10_leaves 27 = .ok (.invokevirtual 293, 3) := by decide +kernel
theorem dX10_leaves_30 : decode cX10_leaves 30 = .ok (.istore_n 3, 1) := by decide +kernel
theorem dX10_leaves_31 : decode cX10_leaves 31 = .ok (.aload_n 0, 1) := by decide +kernel
theorem dX10_leaves_32 : decode cX10_leaves 32 = .ok (.getfield 28, 3) := by decide +kernel
theorem dX10_leaves_35 : decode cX10_leaves 35 = .ok (.getfield 49, 3) := by decide +kernel
theorem dX10_leaves_38 : decode cX10_leaves 38 = .ok (.iload_n 3, 1) := by decide +kernel
set_option maxRecDepth 20000 in
theorem ggX10_leaves_X9_tellingDeed : GoodIn wsX10_leaves wsX9_tellingDeed := goodIn_r _ [73, 74, 75, 76, 77, 78, 79, 80, 81, 82, 83, 55, 84, 85, 86, 87, 88, 89, 53, 54, 56, 57, 58, 59, 60, 61, 62, 63, 64, 65, 66, 67, 68, 69, 107, 108, 109, 110, 111, 112, 113, 118, 119] (by rfl) (by decide +kernel)
set_option maxRecDepth 20000 in
theorem gX10_leaves_X9_tellingDeed : GoodIn wsX10_leaves (wsV RX10 296 RX9 yX9_tellingDeed wsX9_tellingDeed) := goodIn_app (goodIn_r _ [70, 71, 72, 55] (by rfl) (by decide +kernel)) ggX10_leaves_X9_tellingDeed
theorem dX10_leaves_39 : decode cX10_leaves 39 = .ok (.invokevirtual 296, 3) := by decide +kernel
theorem dX10_leaves_42 : decode cX10_leaves 42 = .ok (.istore 4, 2) := by decide +kernel
theorem dX10_leaves_44 : decode cX10_leaves 44 = .ok (.iload 4, 2) := by decide +kernel
theorem dX10_leaves_46 : decode cX10_leaves 46 = .ok (.iconst (-1), 1) := by decide +kernel
theorem dX10_leaves_47 : decode cX10_leaves 47 = .ok (.if_icmp .ne 10, 3) := by decide +kernel
theorem dX10_leaves_57 : decode cX10_leaves 57 = .ok (.aload_n 0, 1) := by decide +kernel
theorem dX10_leaves_58 : decode cX10_leaves 58 = .ok (.getfield 28, 3) := by decide +kernel
theorem dX10_leaves_61 : decode cX10_leaves 61 = .ok (.getfield 49, 3) := by decide +kernel
theorem dX10_leaves_64 : decode cX10_leaves 64 = .ok (.iload_n 3, 1) := by decide +kernel
theorem dX10_leaves_65 : decode cX10_leaves 65 = .ok (.iload 4, 2) := by decide +kernel
set_option maxRecDepth 20000 in
theorem ggX10_leaves_X9_worstOf : GoodIn wsX10_leaves wsX9_worstOf := goodIn_r _ [84, 85, 86, 87, 88, 89, 53, 54, 55, 56, 57, 58, 59, 60, 61, 62, 63, 64, 65, 66, 67, 68, 69, 74, 75, 76, 77, 78, 79, 80, 107, 108, 109, 110, 111, 112, 113, 118, 119] (by rfl) (by decide +kernel)
set_option maxRecDepth 20000 in
theorem gX10_leaves_X9_worstOf : GoodIn wsX10_leaves (wsV RX10 299 RX9 yX9_worstOf wsX9_worstOf) := goodIn_app (goodIn_r _ [91, 82, 83, 55] (by rfl) (by decide +kernel)) ggX10_leaves_X9_worstOf
theorem dX10_leaves_67 : decode cX10_leaves 67 = .ok (.invokevirtual 299, 3) := by decide +kernel
theorem dX10_leaves_70 : decode cX10_leaves 70 = .ok (.ireturn, 1) := by decide +kernel
theorem dX10_leaves_50 : decode cX10_leaves 50 = .ok (.iload_n 3, 1) := by decide +kernel
set_option maxRecDepth 20000 in
theorem ggX10_leaves_J6_bitCount_0f7a4 : GoodIn wsX10_leaves wsJ6_bitCount_0f7a4 := goodIn_r _ [77, 78, 79, 80] (by rfl) (by decide +kernel)
set_option maxRecDepth 20000 in
theorem gX10_leaves_J6_bitCount_0f7a4 : GoodIn wsX10_leaves (va_wsS RX10 256 yJ6_bitCount_0f7a4 wsJ6_bitCount_0f7a4) := goodIn_app (goodIn_r _ [90, 75, 76] (by rfl) (by decide +kernel)) ggX10_leaves_J6_bitCount_0f7a4
theorem dX10_leaves_51 : decode cX10_leaves 51 = .ok (.invokestatic 256, 3) := by decide +kernel
theorem dX10_leaves_54 : decode cX10_leaves 54 = .ok (.goto 16, 3) := by decide +kernel
theorem dX10_leaves_10 : decode cX10_leaves 10 = .ok (.iload_n 2, 1) := by decide +kernel
theorem dX10_leaves_11 : decode cX10_leaves 11 = .ok (.ireturn, 1) := by decide +kernel
theorem dX10_proof_0 : decode cX10_proof 0 = .ok (.aload_n 0, 1) := by decide +kernel
theorem dX10_proof_1 : decode cX10_proof 1 = .ok (.iload_n 1, 1) := by decide +kernel
set_option maxRecDepth 20000 in
theorem ggX10_proof_X10_deedRowState : GoodIn wsX10_proof wsX10_deedRowState := goodIn_r _ [8, 1, 9, 10, 11, 12, 7, 13, 14, 15, 16, 17, 18, 19, 20, 21, 22, 2, 3, 23, 24, 25, 26, 27, 28, 29, 30, 31, 32, 33, 34, 35, 36, 37, 38, 39, 40, 41, 42, 43, 44, 45, 46, 77, 78, 79, 80, 81, 82, 83, 84, 85, 86, 87, 88, 89, 90, 91, 92, 93, 94, 95, 96, 97, 98, 99, 100, 101, 102] (by rfl) (by decide +kernel)
set_option maxRecDepth 20000 in
theorem gX10_proof_X10_deedRowState : GoodIn wsX10_proof (wsV RX10 287 RX10 yX10_deedRowState wsX10_deedRowState) := goodIn_app (goodIn_r _ [4, 5, 6, 7] (by rfl) (by decide +kernel)) ggX10_proof_X10_deedRowState
theorem dX10_proof_2 : decode cX10_proof 2 = .ok (.invokevirtual 287, 3) := by decide +kernel
theorem dX10_proof_5 : decode cX10_proof 5 = .ok (.istore_n 2, 1) := by decide +kernel
theorem dX10_proof_6 : decode cX10_proof 6 = .ok (.iload_n 2, 1) := by decide +kernel
theorem dX10_proof_7 : decode cX10_proof 7 = .ok (.ifCond .eq 5, 3) := by decide +kernel
theorem dX10_proof_12 : decode cX10_proof 12 = .ok (.aload_n 0, 1) := by decide +kernel
theorem dX10_proof_13 : decode cX10_proof 13 = .ok (.getfield 43, 3) := by decide +kernel
theorem dX10_proof_16 : decode cX10_proof 16 = .ok (.iload_n 1, 1) := by decide +kernel
set_option maxRecDepth 20000 in
theorem ggX10_proof_X6_bitsOf : GoodIn wsX10_proof wsX6_bitsOf := goodIn_r _ [50, 46, 33, 34, 17, 35, 36, 29, 15, 16, 18, 51, 38, 39, 40, 41, 42, 43, 44, 45, 99, 100, 101, 102] (by rfl) (by decide +kernel)
set_option maxRecDepth 20000 in
theorem gX10_proof_X6_bitsOf : GoodIn wsX10_proof (wsV RX10 290 RX6 yX6_bitsOf wsX6_bitsOf) := goodIn_app (goodIn_r _ [47, 48, 49, 17] (by rfl) (by decide +kernel)) ggX10_proof_X6_bitsOf
theorem dX10_proof_17 : decode cX10_proof 17 = .ok (.invokevirtual 290, 3) := by decide +kernel
theorem dX10_proof_20 : decode cX10_proof 20 = .ok (.istore_n 3, 1) := by decide +kernel
theorem dX10_proof_21 : decode cX10_proof 21 = .ok (.aload_n 0, 1) := by decide +kernel
theorem dX10_proof_22 : decode cX10_proof 22 = .ok (.getfield 28, 3) := by decide +kernel
theorem dX10_proof_25 : decode cX10_proof 25 = .ok (.getfield 49, 3) := by decide +kernel
theorem dX10_proof_28 : decode cX10_proof 28 = .ok (.iload_n 3, 1) := by decide +kernel
set_option maxRecDepth 20000 in
theorem ggX10_proof_X9_wishersOf : GoodIn wsX10_proof wsX9_wishersOf := goodIn_r _ [56, 57, 58, 59, 60, 61, 55, 62, 63, 64, 65, 66, 67, 68, 69, 92, 93, 94, 95, 96, 97, 98, 103, 104] (by rfl) (by decide +kernel)
set_option maxRecDepth 20000 in
theorem gX10_proof_X9_wishersOf : GoodIn wsX10_proof (wsV RX10 293 RX9 yX9_wishersOf wsX9_wishersOf) := goodIn_app (goodIn_r _ [52, 53, 54, 55] (by rfl) (by decide +kernel)) ggX10_proof_X9_wishersOf
theorem dX10_proof_29 : decode cX10_proof 29 = .ok (.invokevirtual 293, 3) := by decide +kernel
theorem dX10_proof_32 : decode cX10_proof 32 = .ok (.istore 4, 2) := by decide +kernel
theorem dX10_proof_34 : decode cX10_proof 34 = .ok (.iload_n 3, 1) := by decide +kernel
set_option maxRecDepth 20000 in
theorem ggX10_proof_J6_bitCount_0f7a4 : GoodIn wsX10_proof wsJ6_bitCount_0f7a4 := goodIn_r _ [73, 74, 75, 76] (by rfl) (by decide +kernel)
set_option maxRecDepth 20000 in
theorem gX10_proof_J6_bitCount_0f7a4 : GoodIn wsX10_proof (va_wsS RX10 256 yJ6_bitCount_0f7a4 wsJ6_bitCount_0f7a4) := goodIn_app (goodIn_r _ [70, 71, 72] (by rfl) (by decide +kernel)) ggX10_proof_J6_bitCount_0f7a4
theorem dX10_proof_35 : decode cX10_proof 35 = .ok (.invokestatic 256, 3) := by decide +kernel
theorem dX10_proof_38 : decode cX10_proof 38 = .ok (.istore 5, 2) := by decide +kernel
theorem dX10_proof_40 : decode cX10_proof 40 = .ok (.iconst 0, 1) := by decide +kernel
theorem dX10_proof_41 : decode cX10_proof 41 = .ok (.istore 6, 2) := by decide +kernel
theorem dX10_proof_43 : decode cX10_proof 43 = .ok (.iload 6, 2) := by decide +kernel
theorem dX10_proof_45 : decode cX10_proof 45 = .ok (.iload_n 3, 1) := by decide +kernel
theorem dX10_proof_46 : decode cX10_proof 46 = .ok (.if_icmp .ge 64, 3) := by decide +kernel
theorem dX10_proof_110 : decode cX10_proof 110 = .ok (.iload 5, 2) := by decide +kernel
theorem dX10_proof_112 : decode cX10_proof 112 = .ok (.ireturn, 1) := by decide +kernel
theorem dX10_proof_49 : decode cX10_proof 49 = .ok (.iload 6, 2) := by decide +kernel
theorem dX10_proof_51 : decode cX10_proof 51 = .ok (.iload_n 3, 1) := by decide +kernel
theorem dX10_proof_52 : decode cX10_proof 52 = .ok (.iconst (-1), 1) := by decide +kernel
theorem dX10_proof_53 : decode cX10_proof 53 = .ok (.ixor, 1) := by decide +kernel
theorem dX10_proof_54 : decode cX10_proof 54 = .ok (.iand, 1) := by decide +kernel
theorem dX10_proof_80 : decode cX10_proof 80 = .ok (.istore 7, 2) := by decide +kernel
theorem dX10_proof_82 : decode cX10_proof 82 = .ok (.iload 7, 2) := by decide +kernel
theorem dX10_proof_104 : decode cX10_proof 104 = .ok (.iinc 6 1, 3) := by decide +kernel
theorem dX10_proof_107 : decode cX10_proof 107 = .ok (.goto (-64), 3) := by decide +kernel
theorem dX10_proof_84 : decode cX10_proof 84 = .ok (.ifCond .eq 20, 3) := by decide +kernel
theorem dX10_proof_87 : decode cX10_proof 87 = .ok (.iload 6, 2) := by decide +kernel
theorem dX10_proof_89 : decode cX10_proof 89 = .ok (.invokestatic 256, 3) := by decide +kernel
theorem dX10_proof_92 : decode cX10_proof 92 = .ok (.iload 5, 2) := by decide +kernel
theorem dX10_proof_94 : decode cX10_proof 94 = .ok (.if_icmp .ge 10, 3) := by decide +kernel
theorem dX10_proof_97 : decode cX10_proof 97 = .ok (.iload 6, 2) := by decide +kernel
theorem dX10_proof_99 : decode cX10_proof 99 = .ok (.invokestatic 256, 3) := by decide +kernel
theorem dX10_proof_102 : decode cX10_proof 102 = .ok (.istore 5, 2) := by decide +kernel
theorem dX10_proof_79 : decode cX10_proof 79 = .ok (.iconst 0, 1) := by decide +kernel
theorem dX10_proof_55 : decode cX10_proof 55 = .ok (.ifCond .ne 24, 3) := by decide +kernel
theorem dX10_proof_58 : decode cX10_proof 58 = .ok (.aload_n 0, 1) := by decide +kernel
theorem dX10_proof_59 : decode cX10_proof 59 = .ok (.getfield 28, 3) := by decide +kernel
theorem dX10_proof_62 : decode cX10_proof 62 = .ok (.getfield 49, 3) := by decide +kernel
theorem dX10_proof_65 : decode cX10_proof 65 = .ok (.iload 6, 2) := by decide +kernel
theorem dX10_proof_67 : decode cX10_proof 67 = .ok (.invokevirtual 293, 3) := by decide +kernel
theorem dX10_proof_70 : decode cX10_proof 70 = .ok (.iload 4, 2) := by decide +kernel
theorem dX10_proof_72 : decode cX10_proof 72 = .ok (.if_icmp .ne 7, 3) := by decide +kernel
theorem dX10_proof_75 : decode cX10_proof 75 = .ok (.iconst 1, 1) := by decide +kernel
theorem dX10_proof_76 : decode cX10_proof 76 = .ok (.goto 4, 3) := by decide +kernel
theorem dX10_proof_10 : decode cX10_proof 10 = .ok (.iload_n 2, 1) := by decide +kernel
theorem dX10_proof_11 : decode cX10_proof 11 = .ok (.ireturn, 1) := by decide +kernel
theorem dX10_duel_0 : decode cX10_duel 0 = .ok (.aload_n 0, 1) := by decide +kernel
theorem dX10_duel_1 : decode cX10_duel 1 = .ok (.iload_n 1, 1) := by decide +kernel
theorem dX10_duel_2 : decode cX10_duel 2 = .ok (.iload_n 2, 1) := by decide +kernel
set_option maxRecDepth 20000 in
theorem ggX10_duel_X10_canDuel : GoodIn wsX10_duel wsX10_canDuel := goodIn_r _ [7, 8, 9, 10, 6, 11, 1, 12, 13, 14, 15, 16, 17, 18, 19, 20, 21, 22, 23, 24, 25, 26, 27, 28, 29, 30, 31, 32, 33, 59, 60, 61, 62, 63, 64, 65, 66, 67, 68, 69, 70, 71, 72, 73, 74, 75, 76, 77, 78, 79, 80, 81, 82, 83] (by rfl) (by decide +kernel)
set_option maxRecDepth 20000 in
theorem gX10_duel_X10_canDuel : GoodIn wsX10_duel (wsV RX10 302 RX10 yX10_canDuel wsX10_canDuel) := goodIn_app (goodIn_r _ [3, 4, 5, 6] (by rfl) (by decide +kernel)) ggX10_duel_X10_canDuel
theorem dX10_duel_3 : decode cX10_duel 3 = .ok (.invokevirtual 302, 3) := by decide +kernel
theorem dX10_duel_6 : decode cX10_duel 6 = .ok (.ifCond .eq 12, 3) := by decide +kernel
theorem dX10_duel_18 : decode cX10_duel 18 = .ok (.bipush (-2), 2) := by decide +kernel
theorem dX10_duel_20 : decode cX10_duel 20 = .ok (.ireturn, 1) := by decide +kernel
theorem dX10_duel_9 : decode cX10_duel 9 = .ok (.iload_n 3, 1) := by decide +kernel
theorem dX10_duel_10 : decode cX10_duel 10 = .ok (.ifCond .lt 8, 3) := by decide +kernel
theorem dX10_duel_13 : decode cX10_duel 13 = .ok (.iload_n 3, 1) := by decide +kernel
theorem dX10_duel_14 : decode cX10_duel 14 = .ok (.iconst 1, 1) := by decide +kernel
theorem dX10_duel_15 : decode cX10_duel 15 = .ok (.if_icmp .le 6, 3) := by decide +kernel
theorem dX10_duel_21 : decode cX10_duel 21 = .ok (.aload_n 0, 1) := by decide +kernel
set_option maxRecDepth 20000 in
theorem ggX10_duel_X10_bonds : GoodIn wsX10_duel wsX10_bonds := goodIn_r _ [23, 1, 12, 13, 59, 60, 61, 62, 63, 64, 65, 66, 67, 68, 69, 70, 71, 72, 73, 74, 75, 76, 77, 78, 79, 80, 81] (by rfl) (by decide +kernel)
set_option maxRecDepth 20000 in
theorem gX10_duel_X10_bonds : GoodIn wsX10_duel (wsV RX10 134 RX10 yX10_bonds wsX10_bonds) := goodIn_app (goodIn_r _ [20, 21, 22, 6] (by rfl) (by decide +kernel)) ggX10_duel_X10_bonds
theorem dX10_duel_22 : decode cX10_duel 22 = .ok (.invokevirtual 134, 3) := by decide +kernel
theorem dX10_duel_25 : decode cX10_duel 25 = .ok (.iload_n 1, 1) := by decide +kernel
set_option maxRecDepth 20000 in
theorem ggX10_duel_X0_handOf : GoodIn wsX10_duel wsX0_handOf := goodIn_r _ [27, 19, 28, 29, 30, 17, 31, 32, 33, 15, 16, 18, 82, 83] (by rfl) (by decide +kernel)
set_option maxRecDepth 20000 in
theorem gX10_duel_X0_handOf : GoodIn wsX10_duel (wsV RX10 141 RX0 yX0_handOf wsX0_handOf) := goodIn_app (goodIn_r _ [24, 25, 26, 17] (by rfl) (by decide +kernel)) ggX10_duel_X0_handOf
theorem dX10_duel_26 : decode cX10_duel 26 = .ok (.invokevirtual 141, 3) := by decide +kernel
theorem dX10_duel_29 : decode cX10_duel 29 = .ok (.istore 4, 2) := by decide +kernel
theorem dX10_duel_31 : decode cX10_duel 31 = .ok (.aload_n 0, 1) := by decide +kernel
theorem dX10_duel_32 : decode cX10_duel 32 = .ok (.invokevirtual 134, 3) := by decide +kernel
theorem dX10_duel_35 : decode cX10_duel 35 = .ok (.iload_n 2, 1) := by decide +kernel
theorem dX10_duel_36 : decode cX10_duel 36 = .ok (.invokevirtual 141, 3) := by decide +kernel
theorem dX10_duel_39 : decode cX10_duel 39 = .ok (.istore 5, 2) := by decide +kernel
theorem dX10_duel_41 : decode cX10_duel 41 = .ok (.iload 4, 2) := by decide +kernel
set_option maxRecDepth 20000 in
theorem ggX10_duel_J6_bitCount_0f7a4 : GoodIn wsX10_duel wsJ6_bitCount_0f7a4 := goodIn_r _ [37, 38, 39, 40] (by rfl) (by decide +kernel)
set_option maxRecDepth 20000 in
theorem gX10_duel_J6_bitCount_0f7a4 : GoodIn wsX10_duel (va_wsS RX10 256 yJ6_bitCount_0f7a4 wsJ6_bitCount_0f7a4) := goodIn_app (goodIn_r _ [34, 35, 36] (by rfl) (by decide +kernel)) ggX10_duel_J6_bitCount_0f7a4
theorem dX10_duel_43 : decode cX10_duel 43 = .ok (.invokestatic 256, 3) := by decide +kernel
theorem dX10_duel_46 : decode cX10_duel 46 = .ok (.iload 5, 2) := by decide +kernel
theorem dX10_duel_48 : decode cX10_duel 48 = .ok (.invokestatic 256, 3) := by decide +kernel
theorem dX10_duel_51 : decode cX10_duel 51 = .ok (.imul, 1) := by decide +kernel
theorem dX10_duel_52 : decode cX10_duel 52 = .ok (.istore 6, 2) := by decide +kernel
theorem dX10_duel_54 : decode cX10_duel 54 = .ok (.aload_n 0, 1) := by decide +kernel
theorem dX10_duel_55 : decode cX10_duel 55 = .ok (.getfield 28, 3) := by decide +kernel
theorem dX10_duel_58 : decode cX10_duel 58 = .ok (.getfield 49, 3) := by decide +kernel
theorem dX10_duel_61 : decode cX10_duel 61 = .ok (.iload 4, 2) := by decide +kernel
theorem dX10_duel_63 : decode cX10_duel 63 = .ok (.iload 5, 2) := by decide +kernel
set_option maxRecDepth 20000 in
theorem ggX10_duel_X9_pairsAbove : GoodIn wsX10_duel wsX9_pairsAbove := goodIn_r _ [45, 46, 47, 48, 6, 49, 50, 51, 52, 44, 53, 54, 55, 15, 16, 17, 18, 19, 84, 85, 86, 87, 88, 89, 90, 82, 83] (by rfl) (by decide +kernel)
set_option maxRecDepth 20000 in
theorem gX10_duel_X9_pairsAbove : GoodIn wsX10_duel (wsV RX10 306 RX9 yX9_pairsAbove wsX9_pairsAbove) := goodIn_app (goodIn_r _ [41, 42, 43, 44] (by rfl) (by decide +kernel)) ggX10_duel_X9_pairsAbove
theorem dX10_duel_65 : decode cX10_duel 65 = .ok (.invokevirtual 306, 3) := by decide +kernel
theorem dX10_duel_68 : decode cX10_duel 68 = .ok (.istore 7, 2) := by decide +kernel
theorem dX10_duel_70 : decode cX10_duel 70 = .ok (.iload 6, 2) := by decide +kernel
theorem dX10_duel_72 : decode cX10_duel 72 = .ok (.iload 7, 2) := by decide +kernel
set_option maxRecDepth 20000 in
theorem ggX10_duel_X10_commonDivisor : GoodIn wsX10_duel wsX10_commonDivisor := goodIn_r _ [58] (by rfl) (by decide +kernel)
set_option maxRecDepth 20000 in
theorem gX10_duel_X10_commonDivisor : GoodIn wsX10_duel (va_wsS RX10 309 yX10_commonDivisor wsX10_commonDivisor) := goodIn_app (goodIn_r _ [56, 57, 6] (by rfl) (by decide +kernel)) ggX10_duel_X10_commonDivisor
theorem dX10_duel_74 : decode cX10_duel 74 = .ok (.invokestatic 309, 3) := by decide +kernel
theorem dX10_duel_77 : decode cX10_duel 77 = .ok (.istore 8, 2) := by decide +kernel
theorem dX10_duel_79 : decode cX10_duel 79 = .ok (.iload 8, 2) := by decide +kernel
theorem dX10_duel_81 : decode cX10_duel 81 = .ok (.ifCond .ne 6, 3) := by decide +kernel
theorem dX10_duel_87 : decode cX10_duel 87 = .ok (.iload_n 3, 1) := by decide +kernel
theorem dX10_duel_88 : decode cX10_duel 88 = .ok (.ifCond .ne 8, 3) := by decide +kernel
theorem dX10_duel_96 : decode cX10_duel 96 = .ok (.iload 6, 2) := by decide +kernel
theorem dX10_duel_98 : decode cX10_duel 98 = .ok (.iload 8, 2) := by decide +kernel
theorem dX10_duel_100 : decode cX10_duel 100 = .ok (.idiv, 1) := by decide +kernel
theorem dX10_duel_101 : decode cX10_duel 101 = .ok (.ireturn, 1) := by decide +kernel
theorem dX10_duel_91 : decode cX10_duel 91 = .ok (.iload 7, 2) := by decide +kernel
theorem dX10_duel_93 : decode cX10_duel 93 = .ok (.goto 5, 3) := by decide +kernel
theorem dX10_duel_84 : decode cX10_duel 84 = .ok (.bipush (-2), 2) := by decide +kernel
theorem dX10_duel_86 : decode cX10_duel 86 = .ok (.ireturn, 1) := by decide +kernel
theorem dX10_lays_0 : decode cX10_lays 0 = .ok (.aload_n 0, 1) := by decide +kernel
theorem dX10_lays_1 : decode cX10_lays 1 = .ok (.iload_n 1, 1) := by decide +kernel
theorem dX10_lays_2 : decode cX10_lays 2 = .ok (.iload_n 2, 1) := by decide +kernel
set_option maxRecDepth 20000 in
theorem ggX10_lays_X10_canDuel : GoodIn wsX10_lays wsX10_canDuel := goodIn_r _ [7, 8, 9, 10, 6, 11, 1, 12, 13, 14, 15, 16, 17, 18, 19, 20, 21, 22, 23, 24, 25, 26, 27, 28, 29, 30, 31, 32, 33, 61, 62, 63, 64, 65, 66, 67, 68, 69, 70, 71, 72, 73, 74, 75, 76, 77, 78, 79, 80, 81, 82, 83, 84, 85] (by rfl) (by decide +kernel)
set_option maxRecDepth 20000 in
theorem gX10_lays_X10_canDuel : GoodIn wsX10_lays (wsV RX10 302 RX10 yX10_canDuel wsX10_canDuel) := goodIn_app (goodIn_r _ [3, 4, 5, 6] (by rfl) (by decide +kernel)) ggX10_lays_X10_canDuel
theorem dX10_lays_3 : decode cX10_lays 3 = .ok (.invokevirtual 302, 3) := by decide +kernel
theorem dX10_lays_6 : decode cX10_lays 6 = .ok (.ifCond .ne 6, 3) := by decide +kernel
theorem dX10_lays_12 : decode cX10_lays 12 = .ok (.aload_n 0, 1) := by decide +kernel
theorem dX10_lays_13 : decode cX10_lays 13 = .ok (.getfield 28, 3) := by decide +kernel
theorem dX10_lays_16 : decode cX10_lays 16 = .ok (.getfield 49, 3) := by decide +kernel
theorem dX10_lays_19 : decode cX10_lays 19 = .ok (.aload_n 0, 1) := by decide +kernel
set_option maxRecDepth 20000 in
theorem ggX10_lays_X10_bonds : GoodIn wsX10_lays wsX10_bonds := goodIn_r _ [23, 1, 12, 13, 61, 62, 63, 64, 65, 66, 67, 68, 69, 70, 71, 72, 73, 74, 75, 76, 77, 78, 79, 80, 81, 82, 83] (by rfl) (by decide +kernel)
set_option maxRecDepth 20000 in
theorem gX10_lays_X10_bonds : GoodIn wsX10_lays (wsV RX10 134 RX10 yX10_bonds wsX10_bonds) := goodIn_app (goodIn_r _ [20, 21, 22, 6] (by rfl) (by decide +kernel)) ggX10_lays_X10_bonds
theorem dX10_lays_20 : decode cX10_lays 20 = .ok (.invokevirtual 134, 3) := by decide +kernel
theorem dX10_lays_23 : decode cX10_lays 23 = .ok (.iload_n 1, 1) := by decide +kernel
set_option maxRecDepth 20000 in
theorem ggX10_lays_X0_handOf : GoodIn wsX10_lays wsX0_handOf := goodIn_r _ [27, 19, 28, 29, 30, 17, 31, 32, 33, 15, 16, 18, 84, 85] (by rfl) (by decide +kernel)
set_option maxRecDepth 20000 in
theorem gX10_lays_X0_handOf : GoodIn wsX10_lays (wsV RX10 141 RX0 yX0_handOf wsX0_handOf) := goodIn_app (goodIn_r _ [24, 25, 26, 17] (by rfl) (by decide +kernel)) ggX10_lays_X0_handOf
theorem dX10_lays_24 : decode cX10_lays 24 = .ok (.invokevirtual 141, 3) := by decide +kernel
theorem dX10_lays_27 : decode cX10_lays 27 = .ok (.aload_n 0, 1) := by decide +kernel
theorem dX10_lays_28 : decode cX10_lays 28 = .ok (.invokevirtual 134, 3) := by decide +kernel
theorem dX10_lays_31 : decode cX10_lays 31 = .ok (.iload_n 2, 1) := by decide +kernel
theorem dX10_lays_32 : decode cX10_lays 32 = .ok (.invokevirtual 141, 3) := by decide +kernel
set_option maxRecDepth 20000 in
theorem ggX10_lays_X9_surestCard : GoodIn wsX10_lays wsX9_surestCard := goodIn_r _ [38, 39, 40, 41, 6, 42, 43, 44, 45, 37, 46, 47, 48, 49, 50, 51, 52, 53, 54, 55, 56, 57, 58, 59, 60, 15, 16, 17, 18, 19, 86, 87, 88, 89, 90, 91, 92, 84, 85] (by rfl) (by decide +kernel)
set_option maxRecDepth 20000 in
theorem gX10_lays_X9_surestCard : GoodIn wsX10_lays (wsV RX10 318 RX9 yX9_surestCard wsX9_surestCard) := goodIn_app (goodIn_r _ [34, 35, 36, 37] (by rfl) (by decide +kernel)) ggX10_lays_X9_surestCard
theorem dX10_lays_35 : decode cX10_lays 35 = .ok (.invokevirtual 318, 3) := by decide +kernel
theorem dX10_lays_38 : decode cX10_lays 38 = .ok (.ireturn, 1) := by decide +kernel
theorem dX10_lays_9 : decode cX10_lays 9 = .ok (.bipush (-2), 2) := by decide +kernel
theorem dX10_lays_11 : decode cX10_lays 11 = .ok (.ireturn, 1) := by decide +kernel
theorem dX10_lay_0 : decode cX10_lay 0 = .ok (.aload_n 0, 1) := by decide +kernel
theorem dX10_lay_1 : decode cX10_lay 1 = .ok (.iload_n 1, 1) := by decide +kernel
theorem dX10_lay_2 : decode cX10_lay 2 = .ok (.iload_n 2, 1) := by decide +kernel
set_option maxRecDepth 20000 in
theorem ggX10_lay_X10_lays : GoodIn wsX10_lay wsX10_lays := goodIn_r _ [7, 1, 2, 8, 9, 10, 6, 11, 12, 13, 14, 15, 16, 17, 18, 19, 20, 21, 22, 23, 24, 25, 26, 27, 28, 29, 30, 31, 32, 33, 34, 35, 36, 37, 38, 39, 40, 41, 42, 43, 44, 45, 46, 47, 48, 49, 50, 51, 52, 53, 54, 55, 56, 57, 58, 59, 60, 61, 62, 63, 64, 66, 67, 68, 69, 70, 71, 72, 73, 74, 75, 76, 77, 78, 79, 80, 81, 82, 83, 84, 85, 86, 87, 88, 89, 90, 91, 92, 93, 94, 95, 96, 97] (by rfl) (by decide +kernel)
set_option maxRecDepth 20000 in
theorem gX10_lay_X10_lays : GoodIn wsX10_lay (wsV RX10 312 RX10 yX10_lays wsX10_lays) := goodIn_app (goodIn_r _ [3, 4, 5, 6] (by rfl) (by decide +kernel)) ggX10_lay_X10_lays
theorem dX10_lay_3 : decode cX10_lay 3 = .ok (.invokevirtual 312, 3) := by decide +kernel
theorem dX10_lay_6 : decode cX10_lay 6 = .ok (.istore_n 3, 1) := by decide +kernel
theorem dX10_lay_7 : decode cX10_lay 7 = .ok (.iload_n 3, 1) := by decide +kernel
theorem dX10_lay_8 : decode cX10_lay 8 = .ok (.ifCond .ge 9, 3) := by decide +kernel
theorem dX10_lay_17 : decode cX10_lay 17 = .ok (.aload_n 0, 1) := by decide +kernel
theorem dX10_lay_18 : decode cX10_lay 18 = .ok (.getfield 28, 3) := by decide +kernel
theorem dX10_lay_21 : decode cX10_lay 21 = .ok (.getfield 49, 3) := by decide +kernel
theorem dX10_lay_24 : decode cX10_lay 24 = .ok (.iload_n 3, 1) := by decide +kernel
theorem dX10_lay_25 : decode cX10_lay 25 = .ok (.aload_n 0, 1) := by decide +kernel
set_option maxRecDepth 20000 in
theorem ggX10_lay_X10_bonds : GoodIn wsX10_lay wsX10_bonds := goodIn_r _ [27, 1, 16, 17, 66, 67, 68, 69, 70, 71, 72, 73, 74, 75, 76, 77, 78, 79, 80, 81, 82, 83, 84, 85, 86, 87, 88] (by rfl) (by decide +kernel)
set_option maxRecDepth 20000 in
theorem gX10_lay_X10_bonds : GoodIn wsX10_lay (wsV RX10 134 RX10 yX10_bonds wsX10_bonds) := goodIn_app (goodIn_r _ [24, 25, 26, 6] (by rfl) (by decide +kernel)) ggX10_lay_X10_bonds
theorem dX10_lay_26 : decode cX10_lay 26 = .ok (.invokevirtual 134, 3) := by decide +kernel
theorem dX10_lay_29 : decode cX10_lay 29 = .ok (.iload_n 2, 1) := by decide +kernel
set_option maxRecDepth 20000 in
theorem ggX10_lay_X0_handOf : GoodIn wsX10_lay wsX0_handOf := goodIn_r _ [31, 23, 32, 33, 34, 21, 35, 36, 37, 19, 20, 22, 89, 90] (by rfl) (by decide +kernel)
set_option maxRecDepth 20000 in
theorem gX10_lay_X0_handOf : GoodIn wsX10_lay (wsV RX10 141 RX0 yX0_handOf wsX0_handOf) := goodIn_app (goodIn_r _ [28, 29, 30, 21] (by rfl) (by decide +kernel)) ggX10_lay_X0_handOf
theorem dX10_lay_30 : decode cX10_lay 30 = .ok (.invokevirtual 141, 3) := by decide +kernel
set_option maxRecDepth 20000 in
theorem ggX10_lay_X9_sureOf : GoodIn wsX10_lay wsX9_sureOf := goodIn_r _ [50, 43, 44, 51, 52, 53, 54, 45, 6, 46, 55, 56, 57, 41, 58, 59, 60, 61, 62, 63, 64, 19, 20, 21, 22, 23, 91, 92, 93, 94, 95, 96, 97, 89, 90] (by rfl) (by decide +kernel)
set_option maxRecDepth 20000 in
theorem gX10_lay_X9_sureOf : GoodIn wsX10_lay (wsV RX10 315 RX9 yX9_sureOf wsX9_sureOf) := goodIn_app (goodIn_r _ [65, 48, 49, 41] (by rfl) (by decide +kernel)) ggX10_lay_X9_sureOf
theorem dX10_lay_33 : decode cX10_lay 33 = .ok (.invokevirtual 315, 3) := by decide +kernel
theorem dX10_lay_36 : decode cX10_lay 36 = .ok (.ireturn, 1) := by decide +kernel
theorem dX10_lay_11 : decode cX10_lay 11 = .ok (.sipush (-1000), 3) := by decide +kernel
theorem dX10_lay_14 : decode cX10_lay 14 = .ok (.goto 22, 3) := by decide +kernel
theorem dX10_reply_0 : decode cX10_reply 0 = .ok (.aload_n 0, 1) := by decide +kernel
theorem dX10_reply_1 : decode cX10_reply 1 = .ok (.iload_n 1, 1) := by decide +kernel
theorem dX10_reply_2 : decode cX10_reply 2 = .ok (.iload_n 2, 1) := by decide +kernel
set_option maxRecDepth 20000 in
theorem ggX10_reply_X10_lays : GoodIn wsX10_reply wsX10_lays := goodIn_r _ [7, 1, 2, 8, 9, 10, 6, 11, 12, 13, 14, 15, 16, 17, 18, 19, 20, 21, 22, 23, 24, 25, 26, 27, 28, 29, 30, 31, 32, 33, 34, 35, 36, 37, 38, 39, 40, 41, 42, 43, 44, 45, 46, 47, 48, 49, 50, 51, 52, 53, 54, 55, 56, 57, 58, 59, 60, 61, 62, 63, 64, 69, 70, 71, 72, 73, 74, 75, 76, 77, 78, 79, 80, 81, 82, 83, 84, 85, 86, 87, 88, 89, 90, 91, 92, 93, 94, 95, 96, 97, 98, 99, 100] (by rfl) (by decide +kernel)
set_option maxRecDepth 20000 in
theorem gX10_reply_X10_lays : GoodIn wsX10_reply (wsV RX10 312 RX10 yX10_lays wsX10_lays) := goodIn_app (goodIn_r _ [3, 4, 5, 6] (by rfl) (by decide +kernel)) ggX10_reply_X10_lays
theorem dX10_reply_3 : decode cX10_reply 3 = .ok (.invokevirtual 312, 3) := by decide +kernel
theorem dX10_reply_6 : decode cX10_reply 6 = .ok (.istore_n 3, 1) := by decide +kernel
theorem dX10_reply_7 : decode cX10_reply 7 = .ok (.iload_n 3, 1) := by decide +kernel
theorem dX10_reply_8 : decode cX10_reply 8 = .ok (.ifCond .ge 6, 3) := by decide +kernel
theorem dX10_reply_14 : decode cX10_reply 14 = .ok (.aload_n 0, 1) := by decide +kernel
theorem dX10_reply_15 : decode cX10_reply 15 = .ok (.getfield 28, 3) := by decide +kernel
theorem dX10_reply_18 : decode cX10_reply 18 = .ok (.getfield 49, 3) := by decide +kernel
theorem dX10_reply_21 : decode cX10_reply 21 = .ok (.iload_n 3, 1) := by decide +kernel
theorem dX10_reply_22 : decode cX10_reply 22 = .ok (.aload_n 0, 1) := by decide +kernel
set_option maxRecDepth 20000 in
theorem ggX10_reply_X10_bonds : GoodIn wsX10_reply wsX10_bonds := goodIn_r _ [27, 1, 16, 17, 69, 70, 71, 72, 73, 74, 75, 76, 77, 78, 79, 80, 81, 82, 83, 84, 85, 86, 87, 88, 89, 90, 91] (by rfl) (by decide +kernel)
set_option maxRecDepth 20000 in
theorem gX10_reply_X10_bonds : GoodIn wsX10_reply (wsV RX10 134 RX10 yX10_bonds wsX10_bonds) := goodIn_app (goodIn_r _ [24, 25, 26, 6] (by rfl) (by decide +kernel)) ggX10_reply_X10_bonds
theorem dX10_reply_23 : decode cX10_reply 23 = .ok (.invokevirtual 134, 3) := by decide +kernel
theorem dX10_reply_26 : decode cX10_reply 26 = .ok (.iload_n 2, 1) := by decide +kernel
set_option maxRecDepth 20000 in
theorem ggX10_reply_X0_handOf : GoodIn wsX10_reply wsX0_handOf := goodIn_r _ [31, 23, 32, 33, 34, 21, 35, 36, 37, 19, 20, 22, 92, 93] (by rfl) (by decide +kernel)
set_option maxRecDepth 20000 in
theorem gX10_reply_X0_handOf : GoodIn wsX10_reply (wsV RX10 141 RX0 yX0_handOf wsX0_handOf) := goodIn_app (goodIn_r _ [28, 29, 30, 21] (by rfl) (by decide +kernel)) ggX10_reply_X0_handOf
theorem dX10_reply_27 : decode cX10_reply 27 = .ok (.invokevirtual 141, 3) := by decide +kernel
set_option maxRecDepth 20000 in
theorem ggX10_reply_X9_hardestAgainst : GoodIn wsX10_reply wsX9_hardestAgainst := goodIn_r _ [68, 43, 44, 47, 48, 49, 41, 50, 51, 52, 53, 54, 45, 6, 46, 55, 56, 57, 58, 59, 60, 61, 62, 63, 64, 19, 20, 21, 22, 23, 94, 95, 96, 97, 98, 99, 100, 92, 93] (by rfl) (by decide +kernel)
set_option maxRecDepth 20000 in
theorem gX10_reply_X9_hardestAgainst : GoodIn wsX10_reply (wsV RX10 321 RX9 yX9_hardestAgainst wsX9_hardestAgainst) := goodIn_app (goodIn_r _ [65, 66, 67, 41] (by rfl) (by decide +kernel)) ggX10_reply_X9_hardestAgainst
theorem dX10_reply_30 : decode cX10_reply 30 = .ok (.invokevirtual 321, 3) := by decide +kernel
theorem dX10_reply_33 : decode cX10_reply 33 = .ok (.ireturn, 1) := by decide +kernel
theorem dX10_reply_11 : decode cX10_reply 11 = .ok (.bipush (-2), 2) := by decide +kernel
theorem dX10_reply_13 : decode cX10_reply 13 = .ok (.ireturn, 1) := by decide +kernel
theorem dX10_leave_0 : decode cX10_leave 0 = .ok (.aload_n 0, 1) := by decide +kernel
set_option maxRecDepth 20000 in
theorem ggX10_leave_X10_hasCity : GoodIn wsX10_leave wsX10_hasCity := goodIn_r _ [7, 2, 8, 9, 82, 83, 84, 85, 86, 87, 88, 89, 90, 91, 92, 93, 94, 95, 96, 97, 98, 99, 100, 101, 102, 103] (by rfl) (by decide +kernel)
set_option maxRecDepth 20000 in
theorem gX10_leave_X10_hasCity : GoodIn wsX10_leave (wsV RX10 163 RX10 yX10_hasCity wsX10_hasCity) := goodIn_app (goodIn_r _ [3, 4, 5, 6] (by rfl) (by decide +kernel)) ggX10_leave_X10_hasCity
theorem dX10_leave_1 : decode cX10_leave 1 = .ok (.invokevirtual 163, 3) := by decide +kernel
theorem dX10_leave_4 : decode cX10_leave 4 = .ok (.ifCond .eq 11, 3) := by decide +kernel
theorem dX10_leave_15 : decode cX10_leave 15 = .ok (.bipush (-2), 2) := by decide +kernel
theorem dX10_leave_17 : decode cX10_leave 17 = .ok (.ireturn, 1) := by decide +kernel
theorem dX10_leave_7 : decode cX10_leave 7 = .ok (.aload_n 0, 1) := by decide +kernel
theorem dX10_leave_8 : decode cX10_leave 8 = .ok (.iload_n 1, 1) := by decide +kernel
set_option maxRecDepth 20000 in
theorem ggX10_leave_X10_isPersonSet : GoodIn wsX10_leave wsX10_isPersonSet := goodIn_r _ [13, 14, 15, 16, 6, 17, 2, 18, 19, 20, 21, 22, 23, 24, 25, 82, 83, 84, 85, 86, 87, 88, 89, 90, 91, 92, 93, 94, 95, 96, 104, 105, 106, 107, 108, 109, 110, 111, 112, 113] (by rfl) (by decide +kernel)
set_option maxRecDepth 20000 in
theorem gX10_leave_X10_isPersonSet : GoodIn wsX10_leave (wsV RX10 336 RX10 yX10_isPersonSet wsX10_isPersonSet) := goodIn_app (goodIn_r _ [10, 11, 12, 6] (by rfl) (by decide +kernel)) ggX10_leave_X10_isPersonSet
theorem dX10_leave_9 : decode cX10_leave 9 = .ok (.invokevirtual 336, 3) := by decide +kernel
theorem dX10_leave_12 : decode cX10_leave 12 = .ok (.ifCond .ne 6, 3) := by decide +kernel
theorem dX10_leave_18 : decode cX10_leave 18 = .ok (.aload_n 0, 1) := by decide +kernel
theorem dX10_leave_19 : decode cX10_leave 19 = .ok (.getfield 84, 3) := by decide +kernel
theorem dX10_leave_22 : decode cX10_leave 22 = .ok (.aload_n 0, 1) := by decide +kernel
theorem dX10_leave_23 : decode cX10_leave 23 = .ok (.getfield 28, 3) := by decide +kernel
set_option maxRecDepth 20000 in
theorem ggX10_leave_X3_take : GoodIn wsX10_leave wsX3_take := goodIn_r _ [30, 31, 32, 33, 34, 35, 36, 37, 38, 39, 40, 41, 42, 43, 44, 45, 46, 23, 47, 48, 49, 50, 51, 52, 25, 53, 54, 55, 56, 57, 58, 59, 60, 61, 62, 63, 64, 65, 66, 67, 68, 69, 70, 71, 6, 72, 73, 93, 94, 95, 96, 97, 98, 99, 100, 101, 102, 103, 112, 113, 114, 115, 116, 117, 104, 105, 106, 107, 108, 109, 110, 111] (by rfl) (by decide +kernel)
set_option maxRecDepth 20000 in
theorem gX10_leave_X3_take : GoodIn wsX10_leave (wsV RX10 327 RX3 yX3_take wsX3_take) := goodIn_app (goodIn_r _ [26, 27, 28, 29] (by rfl) (by decide +kernel)) ggX10_leave_X3_take
theorem dX10_leave_26 : decode cX10_leave 26 = .ok (.invokevirtual 327, 3) := by decide +kernel
theorem dX10_leave_29 : decode cX10_leave 29 = .ok (.aload_n 0, 1) := by decide +kernel
theorem dX10_leave_30 : decode cX10_leave 30 = .ok (.getfield 84, 3) := by decide +kernel
theorem dX10_leave_33 : decode cX10_leave 33 = .ok (.iload_n 1, 1) := by decide +kernel
set_option maxRecDepth 20000 in
theorem ggX10_leave_X3_losersOf : GoodIn wsX10_leave wsX3_losersOf := goodIn_r _ [77, 38, 71, 6, 72, 78, 79, 80, 29, 81, 43, 41, 42, 114, 115, 116, 117] (by rfl) (by decide +kernel)
set_option maxRecDepth 20000 in
theorem gX10_leave_X3_losersOf : GoodIn wsX10_leave (wsV RX10 333 RX3 yX3_losersOf wsX3_losersOf) := goodIn_app (goodIn_r _ [74, 75, 76, 29] (by rfl) (by decide +kernel)) ggX10_leave_X3_losersOf
theorem dX10_leave_34 : decode cX10_leave 34 = .ok (.invokevirtual 333, 3) := by decide +kernel
theorem dX10_leave_37 : decode cX10_leave 37 = .ok (.ireturn, 1) := by decide +kernel
theorem dX10_firm_0 : decode cX10_firm 0 = .ok (.aload_n 0, 1) := by decide +kernel
theorem dX10_firm_1 : decode cX10_firm 1 = .ok (.iload_n 1, 1) := by decide +kernel
set_option maxRecDepth 20000 in
theorem ggX10_firm_X10_leave : GoodIn wsX10_firm wsX10_leave := goodIn_r _ [5, 6, 7, 8, 9, 10, 4, 11, 12, 13, 14, 15, 16, 17, 18, 19, 20, 21, 22, 23, 24, 25, 26, 27, 28, 29, 30, 31, 32, 33, 34, 35, 36, 37, 38, 39, 40, 41, 42, 43, 44, 45, 46, 47, 48, 49, 50, 51, 52, 53, 54, 55, 56, 57, 58, 59, 60, 61, 62, 63, 64, 65, 66, 67, 68, 69, 70, 71, 72, 73, 74, 75, 76, 77, 78, 79, 80, 81, 82, 83, 84, 85, 86, 87, 88, 89, 90, 91, 92, 93, 94, 95, 96, 97, 98, 99, 100, 101, 102, 103, 104, 105, 106, 107, 108, 109, 110, 111, 112, 113, 114, 115, 116, 117, 118, 119, 120, 121] (by rfl) (by decide +kernel)
set_option maxRecDepth 20000 in
theorem gX10_firm_X10_leave : GoodIn wsX10_firm (wsV RX10 324 RX10 yX10_leave wsX10_leave) := goodIn_app (goodIn_r _ [1, 2, 3, 4] (by rfl) (by decide +kernel)) ggX10_firm_X10_leave
theorem dX10_firm_2 : decode cX10_firm 2 = .ok (.invokevirtual 324, 3) := by decide +kernel
theorem dX10_firm_5 : decode cX10_firm 5 = .ok (.istore_n 2, 1) := by decide +kernel
theorem dX10_firm_6 : decode cX10_firm 6 = .ok (.iload_n 2, 1) := by decide +kernel
theorem dX10_firm_7 : decode cX10_firm 7 = .ok (.bipush (-2), 2) := by decide +kernel
theorem dX10_firm_9 : decode cX10_firm 9 = .ok (.if_icmp .ne 6, 3) := by decide +kernel
theorem dX10_firm_15 : decode cX10_firm 15 = .ok (.iload_n 2, 1) := by decide +kernel
theorem dX10_firm_16 : decode cX10_firm 16 = .ok (.ifCond .ne 7, 3) := by decide +kernel
theorem dX10_firm_23 : decode cX10_firm 23 = .ok (.iconst 0, 1) := by decide +kernel
theorem dX10_firm_24 : decode cX10_firm 24 = .ok (.ireturn, 1) := by decide +kernel
theorem dX10_firm_19 : decode cX10_firm 19 = .ok (.iconst 1, 1) := by decide +kernel
theorem dX10_firm_20 : decode cX10_firm 20 = .ok (.goto 4, 3) := by decide +kernel
theorem dX10_firm_12 : decode cX10_firm 12 = .ok (.bipush (-2), 2) := by decide +kernel
theorem dX10_firm_14 : decode cX10_firm 14 = .ok (.ireturn, 1) := by decide +kernel
theorem dX10_firms_0 : decode cX10_firms 0 = .ok (.aload_n 0, 1) := by decide +kernel
set_option maxRecDepth 20000 in
theorem ggX10_firms_X10_hasCity : GoodIn wsX10_firms wsX10_hasCity := goodIn_r _ [7, 2, 8, 9, 78, 79, 80, 81, 82, 83, 84, 85, 86, 87, 88, 89, 90, 91, 92, 93, 94, 95, 96, 97, 98, 99] (by rfl) (by decide +kernel)
set_option maxRecDepth 20000 in
theorem gX10_firms_X10_hasCity : GoodIn wsX10_firms (wsV RX10 163 RX10 yX10_hasCity wsX10_hasCity) := goodIn_app (goodIn_r _ [3, 4, 5, 6] (by rfl) (by decide +kernel)) ggX10_firms_X10_hasCity
theorem dX10_firms_1 : decode cX10_firms 1 = .ok (.invokevirtual 163, 3) := by decide +kernel
theorem dX10_firms_4 : decode cX10_firms 4 = .ok (.ifCond .ne 6, 3) := by decide +kernel
theorem dX10_firms_10 : decode cX10_firms 10 = .ok (.aload_n 0, 1) := by decide +kernel
theorem dX10_firms_11 : decode cX10_firms 11 = .ok (.getfield 84, 3) := by decide +kernel
theorem dX10_firms_14 : decode cX10_firms 14 = .ok (.aload_n 0, 1) := by decide +kernel
theorem dX10_firms_15 : decode cX10_firms 15 = .ok (.getfield 28, 3) := by decide +kernel
set_option maxRecDepth 20000 in
theorem ggX10_firms_X3_take : GoodIn wsX10_firms wsX3_take := goodIn_r _ [14, 15, 16, 17, 18, 19, 20, 21, 22, 23, 24, 25, 26, 27, 28, 29, 30, 31, 32, 33, 34, 35, 36, 37, 38, 39, 40, 41, 42, 43, 44, 45, 46, 47, 48, 49, 50, 51, 52, 53, 54, 55, 56, 57, 6, 58, 59, 89, 90, 91, 92, 93, 94, 95, 96, 97, 98, 99, 100, 101, 102, 103, 104, 105, 106, 107, 108, 109, 110, 111, 112, 113] (by rfl) (by decide +kernel)
set_option maxRecDepth 20000 in
theorem gX10_firms_X3_take : GoodIn wsX10_firms (wsV RX10 327 RX3 yX3_take wsX3_take) := goodIn_app (goodIn_r _ [10, 11, 12, 13] (by rfl) (by decide +kernel)) ggX10_firms_X3_take
theorem dX10_firms_18 : decode cX10_firms 18 = .ok (.invokevirtual 327, 3) := by decide +kernel
theorem dX10_firms_21 : decode cX10_firms 21 = .ok (.iconst 0, 1) := by decide +kernel
theorem dX10_firms_22 : decode cX10_firms 22 = .ok (.istore_n 1, 1) := by decide +kernel
theorem dX10_firms_23 : decode cX10_firms 23 = .ok (.iconst 0, 1) := by decide +kernel
theorem dX10_firms_24 : decode cX10_firms 24 = .ok (.istore_n 2, 1) := by decide +kernel
theorem dX10_firms_25 : decode cX10_firms 25 = .ok (.iload_n 2, 1) := by decide +kernel
theorem dX10_firms_26 : decode cX10_firms 26 = .ok (.aload_n 0, 1) := by decide +kernel
set_option maxRecDepth 20000 in
theorem ggX10_firms_X10_bonds : GoodIn wsX10_firms wsX10_bonds := goodIn_r _ [63, 2, 64, 65, 78, 79, 80, 81, 82, 83, 84, 85, 86, 87, 88, 89, 90, 91, 92, 106, 107, 108, 109, 110, 111, 112, 113] (by rfl) (by decide +kernel)
set_option maxRecDepth 20000 in
theorem gX10_firms_X10_bonds : GoodIn wsX10_firms (wsV RX10 134 RX10 yX10_bonds wsX10_bonds) := goodIn_app (goodIn_r _ [60, 61, 62, 6] (by rfl) (by decide +kernel)) ggX10_firms_X10_bonds
theorem dX10_firms_27 : decode cX10_firms 27 = .ok (.invokevirtual 134, 3) := by decide +kernel
set_option maxRecDepth 20000 in
theorem ggX10_firms_X0_everyone : GoodIn wsX10_firms wsX0_everyone := goodIn_r _ [69, 38, 100, 101] (by rfl) (by decide +kernel)
set_option maxRecDepth 20000 in
theorem gX10_firms_X0_everyone : GoodIn wsX10_firms (wsV RX10 330 RX0 yX0_everyone wsX0_everyone) := goodIn_app (goodIn_r _ [66, 67, 68, 31] (by rfl) (by decide +kernel)) ggX10_firms_X0_everyone
theorem dX10_firms_30 : decode cX10_firms 30 = .ok (.invokevirtual 330, 3) := by decide +kernel
theorem dX10_firms_33 : decode cX10_firms 33 = .ok (.if_icmp .gt 23, 3) := by decide +kernel
theorem dX10_firms_56 : decode cX10_firms 56 = .ok (.iload_n 1, 1) := by decide +kernel
theorem dX10_firms_57 : decode cX10_firms 57 = .ok (.ireturn, 1) := by decide +kernel
theorem dX10_firms_36 : decode cX10_firms 36 = .ok (.aload_n 0, 1) := by decide +kernel
theorem dX10_firms_37 : decode cX10_firms 37 = .ok (.getfield 84, 3) := by decide +kernel
theorem dX10_firms_40 : decode cX10_firms 40 = .ok (.iload_n 2, 1) := by decide +kernel
set_option maxRecDepth 20000 in
theorem ggX10_firms_X3_losersOf : GoodIn wsX10_firms wsX3_losersOf := goodIn_r _ [73, 22, 57, 6, 58, 74, 75, 76, 13, 77, 27, 25, 26, 102, 103, 104, 105] (by rfl) (by decide +kernel)
set_option maxRecDepth 20000 in
theorem gX10_firms_X3_losersOf : GoodIn wsX10_firms (wsV RX10 333 RX3 yX3_losersOf wsX3_losersOf) := goodIn_app (goodIn_r _ [70, 71, 72, 13] (by rfl) (by decide +kernel)) ggX10_firms_X3_losersOf
theorem dX10_firms_41 : decode cX10_firms 41 = .ok (.invokevirtual 333, 3) := by decide +kernel
theorem dX10_firms_50 : decode cX10_firms 50 = .ok (.iinc 2 1, 3) := by decide +kernel
theorem dX10_firms_53 : decode cX10_firms 53 = .ok (.goto (-28), 3) := by decide +kernel
theorem dX10_firms_44 : decode cX10_firms 44 = .ok (.ifCond .ne 6, 3) := by decide +kernel
theorem dX10_firms_47 : decode cX10_firms 47 = .ok (.iinc 1 1, 3) := by decide +kernel
theorem dX10_firms_7 : decode cX10_firms 7 = .ok (.bipush (-2), 2) := by decide +kernel
theorem dX10_firms_9 : decode cX10_firms 9 = .ok (.ireturn, 1) := by decide +kernel
theorem dX10_firmest_0 : decode cX10_firmest 0 = .ok (.aload_n 0, 1) := by decide +kernel
set_option maxRecDepth 20000 in
theorem ggX10_firmest_X10_hasCity : GoodIn wsX10_firmest wsX10_hasCity := goodIn_r _ [7, 2, 8, 9, 85, 86, 87, 88, 89, 90, 91, 92, 93, 94, 95, 96, 97, 98, 99, 100, 101, 102, 103, 104, 105, 106] (by rfl) (by decide +kernel)
set_option maxRecDepth 20000 in
theorem gX10_firmest_X10_hasCity : GoodIn wsX10_firmest (wsV RX10 163 RX10 yX10_hasCity wsX10_hasCity) := goodIn_app (goodIn_r _ [3, 4, 5, 6] (by rfl) (by decide +kernel)) ggX10_firmest_X10_hasCity
theorem dX10_firmest_1 : decode cX10_firmest 1 = .ok (.invokevirtual 163, 3) := by decide +kernel
theorem dX10_firmest_4 : decode cX10_firmest 4 = .ok (.ifCond .ne 6, 3) := by decide +kernel
theorem dX10_firmest_10 : decode cX10_firmest 10 = .ok (.aload_n 0, 1) := by decide +kernel
theorem dX10_firmest_11 : decode cX10_firmest 11 = .ok (.getfield 84, 3) := by decide +kernel
theorem dX10_firmest_14 : decode cX10_firmest 14 = .ok (.aload_n 0, 1) := by decide +kernel
theorem dX10_firmest_15 : decode cX10_firmest 15 = .ok (.getfield 28, 3) := by decide +kernel
set_option maxRecDepth 20000 in
theorem ggX10_firmest_X3_take : GoodIn wsX10_firmest wsX3_take := goodIn_r _ [14, 15, 16, 17, 18, 19, 20, 21, 22, 23, 24, 25, 26, 27, 28, 29, 30, 31, 32, 33, 34, 35, 36, 37, 38, 39, 40, 41, 42, 43, 44, 45, 46, 47, 48, 49, 50, 51, 52, 53, 54, 55, 56, 57, 6, 58, 59, 96, 97, 98, 99, 100, 101, 102, 103, 104, 105, 106, 107, 108, 109, 110, 111, 112, 113, 114, 115, 116, 117, 118, 119, 120] (by rfl) (by decide +kernel)
set_option maxRecDepth 20000 in
theorem gX10_firmest_X3_take : GoodIn wsX10_firmest (wsV RX10 327 RX3 yX3_take wsX3_take) := goodIn_app (goodIn_r _ [10, 11, 12, 13] (by rfl) (by decide +kernel)) ggX10_firmest_X3_take
theorem dX10_firmest_18 : decode cX10_firmest 18 = .ok (.invokevirtual 327, 3) := by decide +kernel
theorem dX10_firmest_21 : decode cX10_firmest 21 = .ok (.iconst 0, 1) := by decide +kernel
theorem dX10_firmest_22 : decode cX10_firmest 22 = .ok (.istore_n 1, 1) := by decide +kernel
theorem dX10_firmest_23 : decode cX10_firmest 23 = .ok (.iconst 1, 1) := by decide +kernel
theorem dX10_firmest_24 : decode cX10_firmest 24 = .ok (.istore_n 2, 1) := by decide +kernel
theorem dX10_firmest_25 : decode cX10_firmest 25 = .ok (.iload_n 2, 1) := by decide +kernel
theorem dX10_firmest_26 : decode cX10_firmest 26 = .ok (.aload_n 0, 1) := by decide +kernel
set_option maxRecDepth 20000 in
theorem ggX10_firmest_X10_bonds : GoodIn wsX10_firmest wsX10_bonds := goodIn_r _ [63, 2, 64, 65, 85, 86, 87, 88, 89, 90, 91, 92, 93, 94, 95, 96, 97, 98, 99, 113, 114, 115, 116, 117, 118, 119, 120] (by rfl) (by decide +kernel)
set_option maxRecDepth 20000 in
theorem gX10_firmest_X10_bonds : GoodIn wsX10_firmest (wsV RX10 134 RX10 yX10_bonds wsX10_bonds) := goodIn_app (goodIn_r _ [60, 61, 62, 6] (by rfl) (by decide +kernel)) ggX10_firmest_X10_bonds
theorem dX10_firmest_27 : decode cX10_firmest 27 = .ok (.invokevirtual 134, 3) := by decide +kernel
set_option maxRecDepth 20000 in
theorem ggX10_firmest_X0_everyone : GoodIn wsX10_firmest wsX0_everyone := goodIn_r _ [69, 38, 107, 108] (by rfl) (by decide +kernel)
set_option maxRecDepth 20000 in
theorem gX10_firmest_X0_everyone : GoodIn wsX10_firmest (wsV RX10 330 RX0 yX0_everyone wsX0_everyone) := goodIn_app (goodIn_r _ [66, 67, 68, 31] (by rfl) (by decide +kernel)) ggX10_firmest_X0_everyone
theorem dX10_firmest_30 : decode cX10_firmest 30 = .ok (.invokevirtual 330, 3) := by decide +kernel
theorem dX10_firmest_33 : decode cX10_firmest 33 = .ok (.if_icmp .gt 33, 3) := by decide +kernel
theorem dX10_firmest_66 : decode cX10_firmest 66 = .ok (.iload_n 1, 1) := by decide +kernel
theorem dX10_firmest_67 : decode cX10_firmest 67 = .ok (.ireturn, 1) := by decide +kernel
theorem dX10_firmest_36 : decode cX10_firmest 36 = .ok (.iload_n 2, 1) := by decide +kernel
set_option maxRecDepth 20000 in
theorem ggX10_firmest_J6_bitCount_0f7a4 : GoodIn wsX10_firmest wsJ6_bitCount_0f7a4 := goodIn_r _ [73, 74, 75, 76] (by rfl) (by decide +kernel)
set_option maxRecDepth 20000 in
theorem gX10_firmest_J6_bitCount_0f7a4 : GoodIn wsX10_firmest (va_wsS RX10 256 yJ6_bitCount_0f7a4 wsJ6_bitCount_0f7a4) := goodIn_app (goodIn_r _ [70, 71, 72] (by rfl) (by decide +kernel)) ggX10_firmest_J6_bitCount_0f7a4
theorem dX10_firmest_37 : decode cX10_firmest 37 = .ok (.invokestatic 256, 3) := by decide +kernel
theorem dX10_firmest_40 : decode cX10_firmest 40 = .ok (.iload_n 1, 1) := by decide +kernel
theorem dX10_firmest_41 : decode cX10_firmest 41 = .ok (.invokestatic 256, 3) := by decide +kernel
theorem dX10_firmest_60 : decode cX10_firmest 60 = .ok (.iinc 2 1, 3) := by decide +kernel
theorem dX10_firmest_63 : decode cX10_firmest 63 = .ok (.goto (-38), 3) := by decide +kernel
theorem dX10_firmest_44 : decode cX10_firmest 44 = .ok (.if_icmp .le 16, 3) := by decide +kernel
theorem dX10_firmest_47 : decode cX10_firmest 47 = .ok (.aload_n 0, 1) := by decide +kernel
theorem dX10_firmest_48 : decode cX10_firmest 48 = .ok (.getfield 84, 3) := by decide +kernel
theorem dX10_firmest_51 : decode cX10_firmest 51 = .ok (.iload_n 2, 1) := by decide +kernel
set_option maxRecDepth 20000 in
theorem ggX10_firmest_X3_losersOf : GoodIn wsX10_firmest wsX3_losersOf := goodIn_r _ [80, 22, 57, 6, 58, 81, 82, 83, 13, 84, 27, 25, 26, 109, 110, 111, 112] (by rfl) (by decide +kernel)
set_option maxRecDepth 20000 in
theorem gX10_firmest_X3_losersOf : GoodIn wsX10_firmest (wsV RX10 333 RX3 yX3_losersOf wsX3_losersOf) := goodIn_app (goodIn_r _ [77, 78, 79, 13] (by rfl) (by decide +kernel)) ggX10_firmest_X3_losersOf
theorem dX10_firmest_52 : decode cX10_firmest 52 = .ok (.invokevirtual 333, 3) := by decide +kernel
theorem dX10_firmest_55 : decode cX10_firmest 55 = .ok (.ifCond .ne 5, 3) := by decide +kernel
theorem dX10_firmest_58 : decode cX10_firmest 58 = .ok (.iload_n 2, 1) := by decide +kernel
theorem dX10_firmest_59 : decode cX10_firmest 59 = .ok (.istore_n 1, 1) := by decide +kernel
theorem dX10_firmest_7 : decode cX10_firmest 7 = .ok (.bipush (-2), 2) := by decide +kernel
theorem dX10_firmest_9 : decode cX10_firmest 9 = .ok (.ireturn, 1) := by decide +kernel
theorem dX10_wins_0 : decode cX10_wins 0 = .ok (.aload_n 0, 1) := by decide +kernel
set_option maxRecDepth 20000 in
theorem ggX10_wins_X10_hasCity : GoodIn wsX10_wins wsX10_hasCity := goodIn_r _ [7, 2, 8, 9, 84, 85, 86, 87, 88, 89, 90, 91, 92, 93, 94, 95, 96, 97, 98, 99, 100, 101, 102, 103, 104, 105] (by rfl) (by decide +kernel)
set_option maxRecDepth 20000 in
theorem gX10_wins_X10_hasCity : GoodIn wsX10_wins (wsV RX10 163 RX10 yX10_hasCity wsX10_hasCity) := goodIn_app (goodIn_r _ [3, 4, 5, 6] (by rfl) (by decide +kernel)) ggX10_wins_X10_hasCity
theorem dX10_wins_1 : decode cX10_wins 1 = .ok (.invokevirtual 163, 3) := by decide +kernel
theorem dX10_wins_4 : decode cX10_wins 4 = .ok (.ifCond .eq 27, 3) := by decide +kernel
theorem dX10_wins_31 : decode cX10_wins 31 = .ok (.sipush (-10000), 3) := by decide +kernel
theorem dX10_wins_34 : decode cX10_wins 34 = .ok (.ireturn, 1) := by decide +kernel
theorem dX10_wins_7 : decode cX10_wins 7 = .ok (.aload_n 0, 1) := by decide +kernel
theorem dX10_wins_8 : decode cX10_wins 8 = .ok (.iload_n 1, 1) := by decide +kernel
set_option maxRecDepth 20000 in
theorem ggX10_wins_X10_isPersonSet : GoodIn wsX10_wins wsX10_isPersonSet := goodIn_r _ [13, 14, 15, 16, 6, 17, 2, 18, 19, 20, 21, 22, 23, 24, 25, 84, 85, 86, 87, 88, 89, 90, 91, 92, 93, 94, 95, 96, 97, 98, 106, 107, 108, 109, 110, 111, 112, 113, 114, 115] (by rfl) (by decide +kernel)
set_option maxRecDepth 20000 in
theorem gX10_wins_X10_isPersonSet : GoodIn wsX10_wins (wsV RX10 336 RX10 yX10_isPersonSet wsX10_isPersonSet) := goodIn_app (goodIn_r _ [10, 11, 12, 6] (by rfl) (by decide +kernel)) ggX10_wins_X10_isPersonSet
theorem dX10_wins_9 : decode cX10_wins 9 = .ok (.invokevirtual 336, 3) := by decide +kernel
theorem dX10_wins_12 : decode cX10_wins 12 = .ok (.ifCond .eq 19, 3) := by decide +kernel
theorem dX10_wins_15 : decode cX10_wins 15 = .ok (.aload_n 0, 1) := by decide +kernel
theorem dX10_wins_16 : decode cX10_wins 16 = .ok (.iload_n 2, 1) := by decide +kernel
set_option maxRecDepth 20000 in
theorem ggX10_wins_X10_isPerson : GoodIn wsX10_wins wsX10_isPerson := goodIn_r _ [29, 2, 18, 19, 30, 31, 32, 23, 33, 25, 84, 85, 86, 87, 88, 89, 90, 91, 92, 93, 94, 95, 96, 97, 98, 106, 107, 108, 109, 110, 111, 112, 113, 114, 115] (by rfl) (by decide +kernel)
set_option maxRecDepth 20000 in
theorem gX10_wins_X10_isPerson : GoodIn wsX10_wins (wsV RX10 124 RX10 yX10_isPerson wsX10_isPerson) := goodIn_app (goodIn_r _ [26, 27, 28, 6] (by rfl) (by decide +kernel)) ggX10_wins_X10_isPerson
theorem dX10_wins_17 : decode cX10_wins 17 = .ok (.invokevirtual 124, 3) := by decide +kernel
theorem dX10_wins_20 : decode cX10_wins 20 = .ok (.ifCond .eq 11, 3) := by decide +kernel
theorem dX10_wins_23 : decode cX10_wins 23 = .ok (.iload_n 1, 1) := by decide +kernel
theorem dX10_wins_24 : decode cX10_wins 24 = .ok (.iload_n 2, 1) := by decide +kernel
set_option maxRecDepth 20000 in
theorem ggX10_wins_X10_bitOf : GoodIn wsX10_wins wsX10_bitOf := goodIn_r _ [36] (by rfl) (by decide +kernel)
set_option maxRecDepth 20000 in
theorem gX10_wins_X10_bitOf : GoodIn wsX10_wins (va_wsS RX10 153 yX10_bitOf wsX10_bitOf) := goodIn_app (goodIn_r _ [34, 35, 6] (by rfl) (by decide +kernel)) ggX10_wins_X10_bitOf
theorem dX10_wins_25 : decode cX10_wins 25 = .ok (.invokestatic 153, 3) := by decide +kernel
theorem dX10_wins_28 : decode cX10_wins 28 = .ok (.ifCond .ne 7, 3) := by decide +kernel
theorem dX10_wins_35 : decode cX10_wins 35 = .ok (.aload_n 0, 1) := by decide +kernel
theorem dX10_wins_36 : decode cX10_wins 36 = .ok (.getfield 84, 3) := by decide +kernel
theorem dX10_wins_39 : decode cX10_wins 39 = .ok (.aload_n 0, 1) := by decide +kernel
theorem dX10_wins_40 : decode cX10_wins 40 = .ok (.getfield 28, 3) := by decide +kernel
set_option maxRecDepth 20000 in
theorem ggX10_wins_X3_take : GoodIn wsX10_wins wsX3_take := goodIn_r _ [41, 42, 43, 44, 45, 46, 47, 48, 49, 50, 51, 52, 53, 54, 55, 56, 57, 23, 58, 59, 60, 31, 32, 33, 25, 61, 62, 63, 64, 65, 66, 67, 68, 69, 70, 71, 72, 73, 74, 75, 76, 77, 78, 35, 6, 36, 79, 95, 96, 97, 98, 99, 100, 101, 102, 103, 104, 105, 114, 115, 116, 117, 118, 119, 106, 107, 108, 109, 110, 111, 112, 113] (by rfl) (by decide +kernel)
set_option maxRecDepth 20000 in
theorem gX10_wins_X3_take : GoodIn wsX10_wins (wsV RX10 327 RX3 yX3_take wsX3_take) := goodIn_app (goodIn_r _ [37, 38, 39, 40] (by rfl) (by decide +kernel)) ggX10_wins_X3_take
theorem dX10_wins_43 : decode cX10_wins 43 = .ok (.invokevirtual 327, 3) := by decide +kernel
theorem dX10_wins_46 : decode cX10_wins 46 = .ok (.aload_n 0, 1) := by decide +kernel
theorem dX10_wins_47 : decode cX10_wins 47 = .ok (.getfield 84, 3) := by decide +kernel
theorem dX10_wins_50 : decode cX10_wins 50 = .ok (.iload_n 1, 1) := by decide +kernel
theorem dX10_wins_51 : decode cX10_wins 51 = .ok (.iload_n 2, 1) := by decide +kernel
set_option maxRecDepth 20000 in
theorem ggX10_wins_X3_gainOf : GoodIn wsX10_wins wsX3_gainOf := goodIn_r _ [83, 49, 54, 52, 53, 116, 117, 118, 119] (by rfl) (by decide +kernel)
set_option maxRecDepth 20000 in
theorem gX10_wins_X3_gainOf : GoodIn wsX10_wins (wsV RX10 339 RX3 yX3_gainOf wsX3_gainOf) := goodIn_app (goodIn_r _ [80, 81, 82, 40] (by rfl) (by decide +kernel)) ggX10_wins_X3_gainOf
theorem dX10_wins_52 : decode cX10_wins 52 = .ok (.invokevirtual 339, 3) := by decide +kernel
theorem dX10_wins_55 : decode cX10_wins 55 = .ok (.ireturn, 1) := by decide +kernel
theorem dX10_ransomed_0 : decode cX10_ransomed 0 = .ok (.aload_n 0, 1) := by decide +kernel
theorem dX10_ransomed_1 : decode cX10_ransomed 1 = .ok (.iload_n 1, 1) := by decide +kernel
set_option maxRecDepth 20000 in
theorem ggX10_ransomed_X10_isPerson : GoodIn wsX10_ransomed wsX10_isPerson := goodIn_r _ [6, 1, 7, 8, 9, 10, 11, 12, 13, 14, 42, 43, 44, 45, 46, 47, 48, 49, 50, 51, 52, 53, 54, 55, 56, 57, 58, 59, 60, 61, 62, 63, 64, 65, 66] (by rfl) (by decide +kernel)
set_option maxRecDepth 20000 in
theorem gX10_ransomed_X10_isPerson : GoodIn wsX10_ransomed (wsV RX10 124 RX10 yX10_isPerson wsX10_isPerson) := goodIn_app (goodIn_r _ [2, 3, 4, 5] (by rfl) (by decide +kernel)) ggX10_ransomed_X10_isPerson
theorem dX10_ransomed_2 : decode cX10_ransomed 2 = .ok (.invokevirtual 124, 3) := by decide +kernel
theorem dX10_ransomed_5 : decode cX10_ransomed 5 = .ok (.ifCond .eq 11, 3) := by decide +kernel
theorem dX10_ransomed_16 : decode cX10_ransomed 16 = .ok (.bipush (-2), 2) := by decide +kernel
theorem dX10_ransomed_18 : decode cX10_ransomed 18 = .ok (.ireturn, 1) := by decide +kernel
theorem dX10_ransomed_8 : decode cX10_ransomed 8 = .ok (.aload_n 0, 1) := by decide +kernel
theorem dX10_ransomed_9 : decode cX10_ransomed 9 = .ok (.iload_n 2, 1) := by decide +kernel
theorem dX10_ransomed_10 : decode cX10_ransomed 10 = .ok (.invokevirtual 124, 3) := by decide +kernel
theorem dX10_ransomed_13 : decode cX10_ransomed 13 = .ok (.ifCond .ne 6, 3) := by decide +kernel
theorem dX10_ransomed_19 : decode cX10_ransomed 19 = .ok (.aload_n 0, 1) := by decide +kernel
theorem dX10_ransomed_20 : decode cX10_ransomed 20 = .ok (.getfield 28, 3) := by decide +kernel
theorem dX10_ransomed_23 : decode cX10_ransomed 23 = .ok (.iload_n 1, 1) := by decide +kernel
theorem dX10_ransomed_24 : decode cX10_ransomed 24 = .ok (.iload_n 2, 1) := by decide +kernel
set_option maxRecDepth 20000 in
theorem ggX10_ransomed_X4_cheapestBetween : GoodIn wsX10_ransomed wsX4_cheapestBetween := goodIn_r _ [19, 20, 21, 22, 23, 24, 25, 12, 26, 27, 28, 29, 30, 31, 32, 10, 11, 13, 14, 33, 34, 35, 36, 37, 38, 39, 40, 41, 53, 54, 55, 56, 57, 58, 59, 60, 61, 62, 63, 64, 65, 66, 67, 68, 69, 70, 71, 72, 73] (by rfl) (by decide +kernel)
set_option maxRecDepth 20000 in
theorem gX10_ransomed_X4_cheapestBetween : GoodIn wsX10_ransomed (wsV RX10 345 RX4 yX4_cheapestBetween wsX4_cheapestBetween) := goodIn_app (goodIn_r _ [15, 16, 17, 18] (by rfl) (by decide +kernel)) ggX10_ransomed_X4_cheapestBetween
theorem dX10_ransomed_25 : decode cX10_ransomed 25 = .ok (.invokevirtual 345, 3) := by decide +kernel
theorem dX10_ransomed_28 : decode cX10_ransomed 28 = .ok (.ireturn, 1) := by decide +kernel
theorem dX10_ransom_0 : decode cX10_ransom 0 = .ok (.aload_n 0, 1) := by decide +kernel
theorem dX10_ransom_1 : decode cX10_ransom 1 = .ok (.iload_n 1, 1) := by decide +kernel
theorem dX10_ransom_2 : decode cX10_ransom 2 = .ok (.iload_n 2, 1) := by decide +kernel
set_option maxRecDepth 20000 in
theorem ggX10_ransom_X10_ransomed : GoodIn wsX10_ransom wsX10_ransomed := goodIn_r _ [7, 1, 8, 9, 10, 6, 11, 12, 13, 14, 15, 16, 17, 18, 19, 20, 21, 22, 23, 24, 25, 26, 27, 28, 29, 30, 31, 32, 33, 34, 35, 36, 37, 38, 39, 40, 41, 42, 43, 44, 45, 46, 48, 49, 50, 51, 52, 53, 54, 55, 56, 57, 58, 59, 60, 61, 62, 63, 64, 65, 66, 67, 68, 69, 70, 71, 72, 73, 74, 75, 76, 77, 78, 79] (by rfl) (by decide +kernel)
set_option maxRecDepth 20000 in
theorem gX10_ransom_X10_ransomed : GoodIn wsX10_ransom (wsV RX10 342 RX10 yX10_ransomed wsX10_ransomed) := goodIn_app (goodIn_r _ [3, 4, 5, 6] (by rfl) (by decide +kernel)) ggX10_ransom_X10_ransomed
theorem dX10_ransom_3 : decode cX10_ransom 3 = .ok (.invokevirtual 342, 3) := by decide +kernel
theorem dX10_ransom_6 : decode cX10_ransom 6 = .ok (.istore_n 3, 1) := by decide +kernel
theorem dX10_ransom_7 : decode cX10_ransom 7 = .ok (.iload_n 3, 1) := by decide +kernel
theorem dX10_ransom_8 : decode cX10_ransom 8 = .ok (.ifCond .ge 7, 3) := by decide +kernel
theorem dX10_ransom_15 : decode cX10_ransom 15 = .ok (.aload_n 0, 1) := by decide +kernel
theorem dX10_ransom_16 : decode cX10_ransom 16 = .ok (.getfield 28, 3) := by decide +kernel
theorem dX10_ransom_19 : decode cX10_ransom 19 = .ok (.getfield 49, 3) := by decide +kernel
theorem dX10_ransom_22 : decode cX10_ransom 22 = .ok (.iload_n 3, 1) := by decide +kernel
set_option maxRecDepth 20000 in
theorem ggX10_ransom_X9_worthOf : GoodIn wsX10_ransom wsX9_worthOf := goodIn_r _ [43, 44, 45, 46, 15, 16, 17, 18, 19, 73, 74, 75, 76, 77, 78, 79, 71, 72] (by rfl) (by decide +kernel)
set_option maxRecDepth 20000 in
theorem gX10_ransom_X9_worthOf : GoodIn wsX10_ransom (wsV RX10 127 RX9 yX9_worthOf wsX9_worthOf) := goodIn_app (goodIn_r _ [47, 40, 41, 42] (by rfl) (by decide +kernel)) ggX10_ransom_X9_worthOf
theorem dX10_ransom_23 : decode cX10_ransom 23 = .ok (.invokevirtual 127, 3) := by decide +kernel
theorem dX10_ransom_26 : decode cX10_ransom 26 = .ok (.ireturn, 1) := by decide +kernel
theorem dX10_ransom_11 : decode cX10_ransom 11 = .ok (.iload_n 3, 1) := by decide +kernel
theorem dX10_ransom_12 : decode cX10_ransom 12 = .ok (.goto 14, 3) := by decide +kernel
theorem dX10_power_0 : decode cX10_power 0 = .ok (.aload_n 0, 1) := by decide +kernel
theorem dX10_power_1 : decode cX10_power 1 = .ok (.iload_n 1, 1) := by decide +kernel
set_option maxRecDepth 20000 in
theorem ggX10_power_X10_isPerson : GoodIn wsX10_power wsX10_isPerson := goodIn_r _ [7, 1, 8, 9, 10, 11, 12, 13, 14, 15, 60, 61, 62, 63, 64, 65, 66, 67, 68, 69, 70, 71, 72, 73, 74, 75, 76, 77, 78, 79, 80, 81, 82, 83, 84] (by rfl) (by decide +kernel)
set_option maxRecDepth 20000 in
theorem gX10_power_X10_isPerson : GoodIn wsX10_power (wsV RX10 124 RX10 yX10_isPerson wsX10_isPerson) := goodIn_app (goodIn_r _ [3, 4, 5, 6] (by rfl) (by decide +kernel)) ggX10_power_X10_isPerson
theorem dX10_power_2 : decode cX10_power 2 = .ok (.invokevirtual 124, 3) := by decide +kernel
theorem dX10_power_5 : decode cX10_power 5 = .ok (.ifCond .eq 21, 3) := by decide +kernel
theorem dX10_power_26 : decode cX10_power 26 = .ok (.bipush (-2), 2) := by decide +kernel
theorem dX10_power_28 : decode cX10_power 28 = .ok (.ireturn, 1) := by decide +kernel
theorem dX10_power_8 : decode cX10_power 8 = .ok (.aload_n 0, 1) := by decide +kernel
theorem dX10_power_9 : decode cX10_power 9 = .ok (.getfield 28, 3) := by decide +kernel
theorem dX10_power_12 : decode cX10_power 12 = .ok (.getfield 49, 3) := by decide +kernel
theorem dX10_power_15 : decode cX10_power 15 = .ok (.aload_n 0, 1) := by decide +kernel
set_option maxRecDepth 20000 in
theorem ggX10_power_X10_bonds : GoodIn wsX10_power wsX10_bonds := goodIn_r _ [19, 1, 8, 9, 60, 61, 62, 63, 64, 65, 66, 67, 68, 69, 70, 71, 72, 73, 74, 75, 76, 77, 78, 79, 80, 81, 82] (by rfl) (by decide +kernel)
set_option maxRecDepth 20000 in
theorem gX10_power_X10_bonds : GoodIn wsX10_power (wsV RX10 134 RX10 yX10_bonds wsX10_bonds) := goodIn_app (goodIn_r _ [16, 17, 18, 6] (by rfl) (by decide +kernel)) ggX10_power_X10_bonds
theorem dX10_power_16 : decode cX10_power 16 = .ok (.invokevirtual 134, 3) := by decide +kernel
theorem dX10_power_19 : decode cX10_power 19 = .ok (.iload_n 1, 1) := by decide +kernel
set_option maxRecDepth 20000 in
theorem ggX10_power_X9_powerIn : GoodIn wsX10_power wsX9_powerIn := goodIn_r _ [24, 25, 26, 27, 13, 28, 15, 29, 30, 31, 32, 33, 34, 35, 36, 37, 38, 11, 12, 14, 39, 40, 41, 23, 42, 43, 44, 45, 6, 46, 47, 48, 49, 50, 51, 52, 53, 54, 55, 56, 57, 58, 59, 83, 84, 85, 86, 87, 88, 89, 90, 91] (by rfl) (by decide +kernel)
set_option maxRecDepth 20000 in
theorem gX10_power_X9_powerIn : GoodIn wsX10_power (wsV RX10 348 RX9 yX9_powerIn wsX9_powerIn) := goodIn_app (goodIn_r _ [20, 21, 22, 23] (by rfl) (by decide +kernel)) ggX10_power_X9_powerIn
theorem dX10_power_20 : decode cX10_power 20 = .ok (.invokevirtual 348, 3) := by decide +kernel
theorem dX10_power_23 : decode cX10_power 23 = .ok (.goto 5, 3) := by decide +kernel
theorem dX10_mighty_0 : decode cX10_mighty 0 = .ok (.aload_n 0, 1) := by decide +kernel
set_option maxRecDepth 20000 in
theorem ggX10_mighty_X10_hasCity : GoodIn wsX10_mighty wsX10_hasCity := goodIn_r _ [8, 2, 3, 9, 63, 64, 65, 66, 67, 68, 69, 70, 71, 72, 73, 74, 75, 76, 77, 78, 79, 80, 81, 82, 83, 84] (by rfl) (by decide +kernel)
set_option maxRecDepth 20000 in
theorem gX10_mighty_X10_hasCity : GoodIn wsX10_mighty (wsV RX10 163 RX10 yX10_hasCity wsX10_hasCity) := goodIn_app (goodIn_r _ [4, 5, 6, 7] (by rfl) (by decide +kernel)) ggX10_mighty_X10_hasCity
theorem dX10_mighty_1 : decode cX10_mighty 1 = .ok (.invokevirtual 163, 3) := by decide +kernel
theorem dX10_mighty_4 : decode cX10_mighty 4 = .ok (.ifCond .ne 6, 3) := by decide +kernel
theorem dX10_mighty_10 : decode cX10_mighty 10 = .ok (.iconst (-1), 1) := by decide +kernel
theorem dX10_mighty_11 : decode cX10_mighty 11 = .ok (.istore_n 1, 1) := by decide +kernel
theorem dX10_mighty_12 : decode cX10_mighty 12 = .ok (.iconst (-1), 1) := by decide +kernel
theorem dX10_mighty_13 : decode cX10_mighty 13 = .ok (.istore_n 2, 1) := by decide +kernel
theorem dX10_mighty_14 : decode cX10_mighty 14 = .ok (.iconst 0, 1) := by decide +kernel
theorem dX10_mighty_15 : decode cX10_mighty 15 = .ok (.istore_n 3, 1) := by decide +kernel
theorem dX10_mighty_16 : decode cX10_mighty 16 = .ok (.iload_n 3, 1) := by decide +kernel
theorem dX10_mighty_17 : decode cX10_mighty 17 = .ok (.aload_n 0, 1) := by decide +kernel
set_option maxRecDepth 20000 in
theorem ggX10_mighty_X10_bonds : GoodIn wsX10_mighty wsX10_bonds := goodIn_r _ [13, 2, 14, 15, 63, 64, 65, 66, 67, 68, 69, 70, 71, 72, 73, 74, 75, 76, 77, 85, 86, 87, 88, 89, 90, 91, 92] (by rfl) (by decide +kernel)
set_option maxRecDepth 20000 in
theorem gX10_mighty_X10_bonds : GoodIn wsX10_mighty (wsV RX10 134 RX10 yX10_bonds wsX10_bonds) := goodIn_app (goodIn_r _ [10, 11, 12, 7] (by rfl) (by decide +kernel)) ggX10_mighty_X10_bonds
theorem dX10_mighty_18 : decode cX10_mighty 18 = .ok (.invokevirtual 134, 3) := by decide +kernel
theorem dX10_mighty_21 : decode cX10_mighty 21 = .ok (.getfield 238, 3) := by decide +kernel
theorem dX10_mighty_24 : decode cX10_mighty 24 = .ok (.if_icmp .ge 37, 3) := by decide +kernel
theorem dX10_mighty_61 : decode cX10_mighty 61 = .ok (.iload_n 1, 1) := by decide +kernel
theorem dX10_mighty_62 : decode cX10_mighty 62 = .ok (.ireturn, 1) := by decide +kernel
theorem dX10_mighty_27 : decode cX10_mighty 27 = .ok (.aload_n 0, 1) := by decide +kernel
theorem dX10_mighty_28 : decode cX10_mighty 28 = .ok (.getfield 28, 3) := by decide +kernel
theorem dX10_mighty_31 : decode cX10_mighty 31 = .ok (.getfield 49, 3) := by decide +kernel
theorem dX10_mighty_34 : decode cX10_mighty 34 = .ok (.aload_n 0, 1) := by decide +kernel
theorem dX10_mighty_35 : decode cX10_mighty 35 = .ok (.invokevirtual 134, 3) := by decide +kernel
theorem dX10_mighty_38 : decode cX10_mighty 38 = .ok (.iload_n 3, 1) := by decide +kernel
set_option maxRecDepth 20000 in
theorem ggX10_mighty_X9_powerIn : GoodIn wsX10_mighty wsX9_powerIn := goodIn_r _ [20, 21, 22, 23, 24, 25, 26, 27, 28, 29, 30, 31, 32, 33, 34, 35, 36, 37, 38, 39, 40, 41, 42, 19, 43, 44, 45, 46, 7, 47, 48, 49, 50, 51, 52, 53, 54, 55, 56, 57, 58, 59, 60, 61, 62, 78, 79, 80, 81, 82, 83, 84] (by rfl) (by decide +kernel)
set_option maxRecDepth 20000 in
theorem gX10_mighty_X9_powerIn : GoodIn wsX10_mighty (wsV RX10 348 RX9 yX9_powerIn wsX9_powerIn) := goodIn_app (goodIn_r _ [16, 17, 18, 19] (by rfl) (by decide +kernel)) ggX10_mighty_X9_powerIn
theorem dX10_mighty_39 : decode cX10_mighty 39 = .ok (.invokevirtual 348, 3) := by decide +kernel
theorem dX10_mighty_42 : decode cX10_mighty 42 = .ok (.istore 4, 2) := by decide +kernel
theorem dX10_mighty_44 : decode cX10_mighty 44 = .ok (.iload 4, 2) := by decide +kernel
theorem dX10_mighty_46 : decode cX10_mighty 46 = .ok (.iload_n 2, 1) := by decide +kernel
theorem dX10_mighty_55 : decode cX10_mighty 55 = .ok (.iinc 3 1, 3) := by decide +kernel
theorem dX10_mighty_58 : decode cX10_mighty 58 = .ok (.goto (-42), 3) := by decide +kernel
theorem dX10_mighty_47 : decode cX10_mighty 47 = .ok (.if_icmp .le 8, 3) := by decide +kernel
theorem dX10_mighty_50 : decode cX10_mighty 50 = .ok (.iload_n 3, 1) := by decide +kernel
theorem dX10_mighty_51 : decode cX10_mighty 51 = .ok (.istore_n 1, 1) := by decide +kernel
theorem dX10_mighty_52 : decode cX10_mighty 52 = .ok (.iload 4, 2) := by decide +kernel
theorem dX10_mighty_54 : decode cX10_mighty 54 = .ok (.istore_n 2, 1) := by decide +kernel
theorem dX10_mighty_7 : decode cX10_mighty 7 = .ok (.bipush (-2), 2) := by decide +kernel
theorem dX10_mighty_9 : decode cX10_mighty 9 = .ok (.ireturn, 1) := by decide +kernel
theorem dX10_covet_0 : decode cX10_covet 0 = .ok (.aload_n 0, 1) := by decide +kernel
theorem dX10_covet_1 : decode cX10_covet 1 = .ok (.iload_n 1, 1) := by decide +kernel
set_option maxRecDepth 20000 in
theorem ggX10_covet_X10_isPerson : GoodIn wsX10_covet wsX10_isPerson := goodIn_r _ [9, 1, 10, 11, 12, 13, 14, 15, 16, 17, 75, 76, 77, 78, 79, 80, 81, 82, 83, 84, 85, 86, 87, 88, 89, 92, 93, 94, 95, 96, 97, 98, 99, 90, 91] (by rfl) (by decide +kernel)
set_option maxRecDepth 20000 in
theorem gX10_covet_X10_isPerson : GoodIn wsX10_covet (wsV RX10 124 RX10 yX10_isPerson wsX10_isPerson) := goodIn_app (goodIn_r _ [5, 6, 7, 8] (by rfl) (by decide +kernel)) ggX10_covet_X10_isPerson
theorem dX10_covet_2 : decode cX10_covet 2 = .ok (.invokevirtual 124, 3) := by decide +kernel
theorem dX10_covet_5 : decode cX10_covet 5 = .ok (.ifCond .ne 6, 3) := by decide +kernel
theorem dX10_covet_11 : decode cX10_covet 11 = .ok (.iconst (-1), 1) := by decide +kernel
theorem dX10_covet_12 : decode cX10_covet 12 = .ok (.istore_n 2, 1) := by decide +kernel
theorem dX10_covet_13 : decode cX10_covet 13 = .ok (.aload_n 0, 1) := by decide +kernel
theorem dX10_covet_14 : decode cX10_covet 14 = .ok (.getfield 28, 3) := by decide +kernel
theorem dX10_covet_17 : decode cX10_covet 17 = .ok (.getfield 49, 3) := by decide +kernel
theorem dX10_covet_20 : decode cX10_covet 20 = .ok (.aload_n 0, 1) := by decide +kernel
set_option maxRecDepth 20000 in
theorem ggX10_covet_X10_bonds : GoodIn wsX10_covet wsX10_bonds := goodIn_r _ [21, 1, 10, 11, 75, 76, 77, 78, 79, 80, 81, 82, 83, 84, 85, 86, 87, 88, 89, 92, 93, 94, 95, 96, 97, 98, 99] (by rfl) (by decide +kernel)
set_option maxRecDepth 20000 in
theorem gX10_covet_X10_bonds : GoodIn wsX10_covet (wsV RX10 134 RX10 yX10_bonds wsX10_bonds) := goodIn_app (goodIn_r _ [18, 19, 20, 8] (by rfl) (by decide +kernel)) ggX10_covet_X10_bonds
theorem dX10_covet_21 : decode cX10_covet 21 = .ok (.invokevirtual 134, 3) := by decide +kernel
theorem dX10_covet_24 : decode cX10_covet 24 = .ok (.iload_n 1, 1) := by decide +kernel
set_option maxRecDepth 20000 in
theorem ggX10_covet_X9_powerIn : GoodIn wsX10_covet wsX9_powerIn := goodIn_r _ [26, 27, 28, 29, 15, 30, 17, 31, 32, 33, 34, 35, 36, 37, 38, 39, 40, 13, 14, 16, 41, 42, 43, 25, 44, 45, 46, 47, 8, 48, 49, 50, 51, 52, 53, 54, 55, 56, 57, 58, 59, 60, 61, 90, 91, 100, 101, 102, 103, 104, 105, 106] (by rfl) (by decide +kernel)
set_option maxRecDepth 20000 in
theorem gX10_covet_X9_powerIn : GoodIn wsX10_covet (wsV RX10 348 RX9 yX9_powerIn wsX9_powerIn) := goodIn_app (goodIn_r _ [22, 23, 24, 25] (by rfl) (by decide +kernel)) ggX10_covet_X9_powerIn
theorem dX10_covet_25 : decode cX10_covet 25 = .ok (.invokevirtual 348, 3) := by decide +kernel
theorem dX10_covet_28 : decode cX10_covet 28 = .ok (.istore_n 3, 1) := by decide +kernel
theorem dX10_covet_29 : decode cX10_covet 29 = .ok (.aload_n 0, 1) := by decide +kernel
theorem dX10_covet_30 : decode cX10_covet 30 = .ok (.getfield 63, 3) := by decide +kernel
theorem dX10_covet_33 : decode cX10_covet 33 = .ok (.aload_n 0, 1) := by decide +kernel
theorem dX10_covet_34 : decode cX10_covet 34 = .ok (.invokevirtual 134, 3) := by decide +kernel
set_option maxRecDepth 20000 in
theorem ggX10_covet_X0_copyOf : GoodIn wsX10_covet wsX0_copyOf := goodIn_r _ [65, 17, 39, 66, 67, 68, 69, 90, 91] (by rfl) (by decide +kernel)
set_option maxRecDepth 20000 in
theorem gX10_covet_X0_copyOf : GoodIn wsX10_covet (wsV RX10 352 RX0 yX0_copyOf wsX0_copyOf) := goodIn_app (goodIn_r _ [62, 63, 64, 15] (by rfl) (by decide +kernel)) ggX10_covet_X0_copyOf
theorem dX10_covet_37 : decode cX10_covet 37 = .ok (.invokevirtual 352, 3) := by decide +kernel
theorem dX10_covet_40 : decode cX10_covet 40 = .ok (.iconst 0, 1) := by decide +kernel
theorem dX10_covet_41 : decode cX10_covet 41 = .ok (.istore 4, 2) := by decide +kernel
theorem dX10_covet_43 : decode cX10_covet 43 = .ok (.iload 4, 2) := by decide +kernel
theorem dX10_covet_45 : decode cX10_covet 45 = .ok (.aload_n 0, 1) := by decide +kernel
theorem dX10_covet_46 : decode cX10_covet 46 = .ok (.getfield 63, 3) := by decide +kernel
theorem dX10_covet_49 : decode cX10_covet 49 = .ok (.getfield 238, 3) := by decide +kernel
theorem dX10_covet_52 : decode cX10_covet 52 = .ok (.if_icmp .ge 66, 3) := by decide +kernel
theorem dX10_covet_118 : decode cX10_covet 118 = .ok (.iload_n 2, 1) := by decide +kernel
theorem dX10_covet_119 : decode cX10_covet 119 = .ok (.ireturn, 1) := by decide +kernel
theorem dX10_covet_55 : decode cX10_covet 55 = .ok (.aload_n 0, 1) := by decide +kernel
theorem dX10_covet_56 : decode cX10_covet 56 = .ok (.getfield 63, 3) := by decide +kernel
theorem dX10_covet_59 : decode cX10_covet 59 = .ok (.iload 4, 2) := by decide +kernel
theorem dX10_covet_61 : decode cX10_covet 61 = .ok (.iload_n 1, 1) := by decide +kernel
set_option maxRecDepth 20000 in
theorem ggX10_covet_X0_put : GoodIn wsX10_covet wsX0_put := goodIn_r _ [73, 39, 40, 13, 14, 15, 16, 17, 90, 91] (by rfl) (by decide +kernel)
set_option maxRecDepth 20000 in
theorem gX10_covet_X0_put : GoodIn wsX10_covet (wsV RX10 356 RX0 yX0_put wsX0_put) := goodIn_app (goodIn_r _ [70, 71, 72, 15] (by rfl) (by decide +kernel)) ggX10_covet_X0_put
theorem dX10_covet_62 : decode cX10_covet 62 = .ok (.invokevirtual 356, 3) := by decide +kernel
theorem dX10_covet_65 : decode cX10_covet 65 = .ok (.aload_n 0, 1) := by decide +kernel
theorem dX10_covet_66 : decode cX10_covet 66 = .ok (.getfield 28, 3) := by decide +kernel
theorem dX10_covet_69 : decode cX10_covet 69 = .ok (.getfield 49, 3) := by decide +kernel
theorem dX10_covet_72 : decode cX10_covet 72 = .ok (.aload_n 0, 1) := by decide +kernel
theorem dX10_covet_73 : decode cX10_covet 73 = .ok (.getfield 63, 3) := by decide +kernel
theorem dX10_covet_76 : decode cX10_covet 76 = .ok (.iload_n 1, 1) := by decide +kernel
theorem dX10_covet_77 : decode cX10_covet 77 = .ok (.invokevirtual 348, 3) := by decide +kernel
theorem dX10_covet_80 : decode cX10_covet 80 = .ok (.istore 5, 2) := by decide +kernel
theorem dX10_covet_82 : decode cX10_covet 82 = .ok (.iload 5, 2) := by decide +kernel
theorem dX10_covet_84 : decode cX10_covet 84 = .ok (.iload_n 3, 1) := by decide +kernel
theorem dX10_covet_94 : decode cX10_covet 94 = .ok (.aload_n 0, 1) := by decide +kernel
theorem dX10_covet_95 : decode cX10_covet 95 = .ok (.getfield 63, 3) := by decide +kernel
theorem dX10_covet_98 : decode cX10_covet 98 = .ok (.iload 4, 2) := by decide +kernel
theorem dX10_covet_100 : decode cX10_covet 100 = .ok (.aload_n 0, 1) := by decide +kernel
theorem dX10_covet_101 : decode cX10_covet 101 = .ok (.invokevirtual 134, 3) := by decide +kernel
theorem dX10_covet_104 : decode cX10_covet 104 = .ok (.iload 4, 2) := by decide +kernel
set_option maxRecDepth 20000 in
theorem ggX10_covet_X0_holderOf : GoodIn wsX10_covet wsX0_holderOf := goodIn_r _ [38, 39, 40, 13, 14, 15, 16, 17, 90, 91] (by rfl) (by decide +kernel)
set_option maxRecDepth 20000 in
theorem gX10_covet_X0_holderOf : GoodIn wsX10_covet (wsV RX10 138 RX0 yX0_holderOf wsX0_holderOf) := goodIn_app (goodIn_r _ [74, 36, 37, 15] (by rfl) (by decide +kernel)) ggX10_covet_X0_holderOf
theorem dX10_covet_106 : decode cX10_covet 106 = .ok (.invokevirtual 138, 3) := by decide +kernel
theorem dX10_covet_109 : decode cX10_covet 109 = .ok (.invokevirtual 356, 3) := by decide +kernel
theorem dX10_covet_112 : decode cX10_covet 112 = .ok (.iinc 4 1, 3) := by decide +kernel
theorem dX10_covet_115 : decode cX10_covet 115 = .ok (.goto (-72), 3) := by decide +kernel
theorem dX10_covet_85 : decode cX10_covet 85 = .ok (.if_icmp .le 9, 3) := by decide +kernel
theorem dX10_covet_88 : decode cX10_covet 88 = .ok (.iload 4, 2) := by decide +kernel
theorem dX10_covet_90 : decode cX10_covet 90 = .ok (.istore_n 2, 1) := by decide +kernel
theorem dX10_covet_91 : decode cX10_covet 91 = .ok (.iload 5, 2) := by decide +kernel
theorem dX10_covet_93 : decode cX10_covet 93 = .ok (.istore_n 3, 1) := by decide +kernel
theorem dX10_covet_8 : decode cX10_covet 8 = .ok (.bipush (-2), 2) := by decide +kernel
theorem dX10_covet_10 : decode cX10_covet 10 = .ok (.ireturn, 1) := by decide +kernel
theorem dX10_judge_0 : decode cX10_judge 0 = .ok (.aload_n 0, 1) := by decide +kernel
theorem dX10_judge_1 : decode cX10_judge 1 = .ok (.iload_n 1, 1) := by decide +kernel
set_option maxRecDepth 20000 in
theorem ggX10_judge_X10_askingRowState : GoodIn wsX10_judge wsX10_askingRowState := goodIn_r _ [5, 6, 7, 8, 9, 4, 10, 11, 12, 13, 14, 15, 16, 17, 18, 19, 20, 21, 22, 23, 24, 25, 26, 27, 28, 29, 30, 31, 32, 33, 34, 35, 36, 37, 38, 39, 40, 41, 42, 43, 44, 45, 46, 47, 48, 49, 50, 51, 52, 53, 54, 55, 56, 57, 58, 59, 60, 61, 62, 63, 138, 139, 140, 141, 142, 143, 144, 145, 146, 147, 148, 149, 150, 151, 152, 153, 154, 155, 156, 157, 158, 159, 160, 161, 162, 163, 164, 165, 166, 167, 168, 169, 170, 171, 172, 173] (by rfl) (by decide +kernel)
set_option maxRecDepth 20000 in
theorem gX10_judge_X10_askingRowState : GoodIn wsX10_judge (wsV RX10 360 RX10 yX10_askingRowState wsX10_askingRowState) := goodIn_app (goodIn_r _ [1, 2, 3, 4] (by rfl) (by decide +kernel)) ggX10_judge_X10_askingRowState
theorem dX10_judge_2 : decode cX10_judge 2 = .ok (.invokevirtual 360, 3) := by decide +kernel
theorem dX10_judge_5 : decode cX10_judge 5 = .ok (.istore_n 2, 1) := by decide +kernel
theorem dX10_judge_6 : decode cX10_judge 6 = .ok (.iload_n 2, 1) := by decide +kernel
theorem dX10_judge_7 : decode cX10_judge 7 = .ok (.ifCond .eq 7, 3) := by decide +kernel
theorem dX10_judge_14 : decode cX10_judge 14 = .ok (.aload_n 0, 1) := by decide +kernel
theorem dX10_judge_15 : decode cX10_judge 15 = .ok (.iload_n 1, 1) := by decide +kernel
set_option maxRecDepth 20000 in
theorem ggX10_judge_X10_runTrial : GoodIn wsX10_judge wsX10_runTrial := goodIn_r _ [67, 68, 6, 69, 70, 71, 72, 73, 74, 75, 76, 77, 78, 79, 80, 81, 82, 83, 84, 85, 86, 87, 88, 89, 90, 91, 92, 31, 32, 33, 14, 34, 35, 28, 12, 13, 15, 36, 37, 38, 39, 40, 41, 42, 43, 44, 45, 46, 47, 48, 49, 50, 93, 94, 95, 96, 97, 98, 29, 4, 30, 99, 100, 101, 102, 103, 104, 105, 106, 107, 108, 109, 110, 63, 111, 112, 113, 114, 115, 116, 117, 118, 119, 120, 121, 122, 123, 124, 125, 126, 127, 128, 129, 130, 131, 132, 133, 134, 135, 136, 137, 138, 139, 140, 141, 142, 143, 144, 145, 146, 147, 148, 166, 167, 168, 169, 170, 171, 172, 173, 153, 154, 155, 156, 157, 158, 159, 164, 165, 160, 161, 162, 163] (by rfl) (by decide +kernel)
set_option maxRecDepth 20000 in
theorem gX10_judge_X10_runTrial : GoodIn wsX10_judge (wsV RX10 363 RX10 yX10_runTrial wsX10_runTrial) := goodIn_app (goodIn_r _ [64, 65, 66, 4] (by rfl) (by decide +kernel)) ggX10_judge_X10_runTrial
theorem dX10_judge_16 : decode cX10_judge 16 = .ok (.invokevirtual 363, 3) := by decide +kernel
theorem dX10_judge_19 : decode cX10_judge 19 = .ok (.ireturn, 1) := by decide +kernel
theorem dX10_judge_10 : decode cX10_judge 10 = .ok (.iload_n 2, 1) := by decide +kernel
theorem dX10_judge_11 : decode cX10_judge 11 = .ok (.goto 8, 3) := by decide +kernel
theorem dX10_freed_0 : decode cX10_freed 0 = .ok (.aload_n 0, 1) := by decide +kernel
theorem dX10_freed_1 : decode cX10_freed 1 = .ok (.iload_n 1, 1) := by decide +kernel
set_option maxRecDepth 20000 in
theorem ggX10_freed_X10_askingRowState : GoodIn wsX10_freed wsX10_askingRowState := goodIn_r _ [7, 8, 9, 10, 11, 6, 12, 13, 14, 15, 16, 17, 18, 19, 20, 21, 22, 23, 24, 25, 26, 27, 28, 29, 30, 31, 32, 33, 34, 35, 36, 37, 38, 39, 40, 41, 42, 43, 44, 45, 46, 47, 48, 49, 50, 51, 52, 53, 54, 55, 56, 57, 58, 59, 60, 61, 62, 63, 2, 64, 147, 148, 149, 150, 151, 152, 153, 154, 155, 156, 157, 166, 167, 168, 169, 170, 171, 172, 173, 174, 175, 176, 177, 178, 179, 180, 181, 182, 158, 159, 160, 161, 162, 163, 164, 165] (by rfl) (by decide +kernel)
set_option maxRecDepth 20000 in
theorem gX10_freed_X10_askingRowState : GoodIn wsX10_freed (wsV RX10 360 RX10 yX10_askingRowState wsX10_askingRowState) := goodIn_app (goodIn_r _ [3, 4, 5, 6] (by rfl) (by decide +kernel)) ggX10_freed_X10_askingRowState
theorem dX10_freed_2 : decode cX10_freed 2 = .ok (.invokevirtual 360, 3) := by decide +kernel
theorem dX10_freed_5 : decode cX10_freed 5 = .ok (.istore_n 2, 1) := by decide +kernel
theorem dX10_freed_6 : decode cX10_freed 6 = .ok (.iload_n 2, 1) := by decide +kernel
theorem dX10_freed_7 : decode cX10_freed 7 = .ok (.ifCond .eq 5, 3) := by decide +kernel
theorem dX10_freed_12 : decode cX10_freed 12 = .ok (.aload_n 0, 1) := by decide +kernel
theorem dX10_freed_13 : decode cX10_freed 13 = .ok (.iload_n 1, 1) := by decide +kernel
set_option maxRecDepth 20000 in
theorem ggX10_freed_X10_runTrial : GoodIn wsX10_freed wsX10_runTrial := goodIn_r _ [68, 1, 8, 69, 70, 71, 72, 73, 74, 75, 76, 77, 78, 79, 80, 81, 82, 83, 84, 85, 86, 87, 88, 89, 90, 91, 92, 33, 34, 35, 16, 36, 37, 30, 14, 15, 17, 38, 39, 40, 41, 42, 43, 44, 45, 46, 47, 48, 49, 50, 51, 52, 93, 94, 95, 96, 97, 98, 31, 6, 32, 99, 100, 101, 102, 103, 104, 105, 106, 107, 108, 109, 110, 64, 111, 112, 113, 114, 115, 116, 117, 118, 119, 120, 121, 122, 123, 124, 125, 126, 127, 128, 129, 130, 131, 132, 133, 134, 135, 136, 137, 147, 148, 149, 150, 151, 152, 153, 154, 155, 156, 157, 158, 159, 160, 161, 162, 163, 164, 165, 170, 171, 172, 173, 174, 175, 176, 181, 182, 177, 178, 179, 180] (by rfl) (by decide +kernel)
set_option maxRecDepth 20000 in
theorem gX10_freed_X10_runTrial : GoodIn wsX10_freed (wsV RX10 363 RX10 yX10_runTrial wsX10_runTrial) := goodIn_app (goodIn_r _ [65, 66, 67, 6] (by rfl) (by decide +kernel)) ggX10_freed_X10_runTrial
theorem dX10_freed_14 : decode cX10_freed 14 = .ok (.invokevirtual 363, 3) := by decide +kernel
theorem dX10_freed_17 : decode cX10_freed 17 = .ok (.pop, 1) := by decide +kernel
theorem dX10_freed_18 : decode cX10_freed 18 = .ok (.aload_n 0, 1) := by decide +kernel
theorem dX10_freed_19 : decode cX10_freed 19 = .ok (.getfield 56, 3) := by decide +kernel
theorem dX10_freed_22 : decode cX10_freed 22 = .ok (.getfield 366, 3) := by decide +kernel
set_option maxRecDepth 20000 in
theorem ggX10_freed_X0_freeOnes : GoodIn wsX10_freed wsX0_freeOnes := goodIn_r _ [141, 142, 143, 144, 85, 145, 87, 146, 100, 101, 102, 88, 103, 104, 105, 106, 181, 182] (by rfl) (by decide +kernel)
set_option maxRecDepth 20000 in
theorem gX10_freed_X0_freeOnes : GoodIn wsX10_freed (wsV RX10 166 RX0 yX0_freeOnes wsX0_freeOnes) := goodIn_app (goodIn_r _ [138, 139, 140, 85] (by rfl) (by decide +kernel)) ggX10_freed_X0_freeOnes
theorem dX10_freed_25 : decode cX10_freed 25 = .ok (.invokevirtual 166, 3) := by decide +kernel
theorem dX10_freed_28 : decode cX10_freed 28 = .ok (.ireturn, 1) := by decide +kernel
theorem dX10_freed_10 : decode cX10_freed 10 = .ok (.iload_n 2, 1) := by decide +kernel
theorem dX10_freed_11 : decode cX10_freed 11 = .ok (.ireturn, 1) := by decide +kernel
theorem dX10_drawn_0 : decode cX10_drawn 0 = .ok (.iload_n 1, 1) := by decide +kernel
set_option maxRecDepth 20000 in
theorem ggX10_drawn_X10_isSeed : GoodIn wsX10_drawn wsX10_isSeed := goodIn_r _ [7, 8] (by rfl) (by decide +kernel)
set_option maxRecDepth 20000 in
theorem gX10_drawn_X10_isSeed : GoodIn wsX10_drawn (va_wsS RX10 368 yX10_isSeed wsX10_isSeed) := goodIn_app (goodIn_r _ [4, 5, 6] (by rfl) (by decide +kernel)) ggX10_drawn_X10_isSeed
theorem dX10_drawn_1 : decode cX10_drawn 1 = .ok (.invokestatic 368, 3) := by decide +kernel
theorem dX10_drawn_4 : decode cX10_drawn 4 = .ok (.ifCond .eq 11, 3) := by decide +kernel
theorem dX10_drawn_15 : decode cX10_drawn 15 = .ok (.bipush (-2), 2) := by decide +kernel
theorem dX10_drawn_17 : decode cX10_drawn 17 = .ok (.ireturn, 1) := by decide +kernel
theorem dX10_drawn_7 : decode cX10_drawn 7 = .ok (.aload_n 0, 1) := by decide +kernel
theorem dX10_drawn_8 : decode cX10_drawn 8 = .ok (.iload_n 2, 1) := by decide +kernel
set_option maxRecDepth 20000 in
theorem ggX10_drawn_X10_isPerson : GoodIn wsX10_drawn wsX10_isPerson := goodIn_r _ [12, 13, 14, 15, 16, 17, 18, 19, 20, 21, 57, 58, 59, 60, 61, 62, 63, 64, 65, 66, 67, 73, 74, 75, 76, 77, 78, 79, 80, 81, 82, 83, 84, 68, 69] (by rfl) (by decide +kernel)
set_option maxRecDepth 20000 in
theorem gX10_drawn_X10_isPerson : GoodIn wsX10_drawn (wsV RX10 124 RX10 yX10_isPerson wsX10_isPerson) := goodIn_app (goodIn_r _ [9, 10, 11, 6] (by rfl) (by decide +kernel)) ggX10_drawn_X10_isPerson
theorem dX10_drawn_9 : decode cX10_drawn 9 = .ok (.invokevirtual 124, 3) := by decide +kernel
theorem dX10_drawn_12 : decode cX10_drawn 12 = .ok (.ifCond .ne 6, 3) := by decide +kernel
theorem dX10_drawn_18 : decode cX10_drawn 18 = .ok (.aload_n 0, 1) := by decide +kernel
theorem dX10_drawn_19 : decode cX10_drawn 19 = .ok (.getfield 70, 3) := by decide +kernel
theorem dX10_drawn_22 : decode cX10_drawn 22 = .ok (.iload_n 1, 1) := by decide +kernel
theorem dX10_drawn_23 : decode cX10_drawn 23 = .ok (.aload_n 0, 1) := by decide +kernel
set_option maxRecDepth 20000 in
theorem ggX10_drawn_X10_bonds : GoodIn wsX10_drawn wsX10_bonds := goodIn_r _ [25, 13, 14, 15, 57, 58, 59, 60, 61, 62, 63, 64, 65, 66, 67, 73, 74, 75, 76, 77, 78, 79, 80, 81, 82, 83, 84] (by rfl) (by decide +kernel)
set_option maxRecDepth 20000 in
theorem gX10_drawn_X10_bonds : GoodIn wsX10_drawn (wsV RX10 134 RX10 yX10_bonds wsX10_bonds) := goodIn_app (goodIn_r _ [22, 23, 24, 6] (by rfl) (by decide +kernel)) ggX10_drawn_X10_bonds
theorem dX10_drawn_24 : decode cX10_drawn 24 = .ok (.invokevirtual 134, 3) := by decide +kernel
theorem dX10_drawn_27 : decode cX10_drawn 27 = .ok (.getfield 238, 3) := by decide +kernel
set_option maxRecDepth 20000 in
theorem ggX10_drawn_X7_deal : GoodIn wsX10_drawn wsX7_deal := goodIn_r _ [30, 31, 32, 33, 34, 35, 36, 37, 38, 39, 40, 41, 29, 42, 43, 44, 45, 46, 47, 48, 49, 19, 50, 51, 52, 17, 18, 20, 21, 70, 71, 72, 68, 69] (by rfl) (by decide +kernel)
set_option maxRecDepth 20000 in
theorem gX10_drawn_X7_deal : GoodIn wsX10_drawn (wsV RX10 371 RX7 yX7_deal wsX7_deal) := goodIn_app (goodIn_r _ [26, 27, 28, 29] (by rfl) (by decide +kernel)) ggX10_drawn_X7_deal
theorem dX10_drawn_30 : decode cX10_drawn 30 = .ok (.invokevirtual 371, 3) := by decide +kernel
theorem dX10_drawn_33 : decode cX10_drawn 33 = .ok (.aload_n 0, 1) := by decide +kernel
theorem dX10_drawn_34 : decode cX10_drawn 34 = .ok (.getfield 70, 3) := by decide +kernel
theorem dX10_drawn_37 : decode cX10_drawn 37 = .ok (.getfield 374, 3) := by decide +kernel
theorem dX10_drawn_40 : decode cX10_drawn 40 = .ok (.iload_n 2, 1) := by decide +kernel
set_option maxRecDepth 20000 in
theorem ggX10_drawn_X0_holderOf : GoodIn wsX10_drawn wsX0_holderOf := goodIn_r _ [56, 51, 52, 17, 18, 19, 20, 21, 68, 69] (by rfl) (by decide +kernel)
set_option maxRecDepth 20000 in
theorem gX10_drawn_X0_holderOf : GoodIn wsX10_drawn (wsV RX10 138 RX0 yX0_holderOf wsX0_holderOf) := goodIn_app (goodIn_r _ [53, 54, 55, 19] (by rfl) (by decide +kernel)) ggX10_drawn_X0_holderOf
theorem dX10_drawn_41 : decode cX10_drawn 41 = .ok (.invokevirtual 138, 3) := by decide +kernel
theorem dX10_drawn_44 : decode cX10_drawn 44 = .ok (.ireturn, 1) := by decide +kernel
theorem dX10_luck_0 : decode cX10_luck 0 = .ok (.iload_n 1, 1) := by decide +kernel
set_option maxRecDepth 20000 in
theorem ggX10_luck_X10_isSeed : GoodIn wsX10_luck wsX10_isSeed := goodIn_r _ [7, 8] (by rfl) (by decide +kernel)
set_option maxRecDepth 20000 in
theorem gX10_luck_X10_isSeed : GoodIn wsX10_luck (va_wsS RX10 368 yX10_isSeed wsX10_isSeed) := goodIn_app (goodIn_r _ [4, 5, 6] (by rfl) (by decide +kernel)) ggX10_luck_X10_isSeed
theorem dX10_luck_1 : decode cX10_luck 1 = .ok (.invokestatic 368, 3) := by decide +kernel
theorem dX10_luck_4 : decode cX10_luck 4 = .ok (.ifCond .eq 18, 3) := by decide +kernel
theorem dX10_luck_22 : decode cX10_luck 22 = .ok (.bipush (-2), 2) := by decide +kernel
theorem dX10_luck_24 : decode cX10_luck 24 = .ok (.ireturn, 1) := by decide +kernel
theorem dX10_luck_7 : decode cX10_luck 7 = .ok (.iload_n 2, 1) := by decide +kernel
set_option maxRecDepth 20000 in
theorem ggX10_luck_X10_isSquareNumber : GoodIn wsX10_luck wsX10_isSquareNumber := goodIn_r _ [11] (by rfl) (by decide +kernel)
set_option maxRecDepth 20000 in
theorem gX10_luck_X10_isSquareNumber : GoodIn wsX10_luck (va_wsS RX10 377 yX10_isSquareNumber wsX10_isSquareNumber) := goodIn_app (goodIn_r _ [9, 10, 6] (by rfl) (by decide +kernel)) ggX10_luck_X10_isSquareNumber
theorem dX10_luck_8 : decode cX10_luck 8 = .ok (.invokestatic 377, 3) := by decide +kernel
theorem dX10_luck_11 : decode cX10_luck 11 = .ok (.ifCond .eq 11, 3) := by decide +kernel
theorem dX10_luck_14 : decode cX10_luck 14 = .ok (.aload_n 0, 1) := by decide +kernel
theorem dX10_luck_15 : decode cX10_luck 15 = .ok (.iload_n 3, 1) := by decide +kernel
set_option maxRecDepth 20000 in
theorem ggX10_luck_X10_isPerson : GoodIn wsX10_luck wsX10_isPerson := goodIn_r _ [15, 16, 17, 18, 19, 20, 21, 22, 23, 24, 60, 61, 62, 63, 64, 65, 66, 67, 68, 69, 70, 76, 77, 78, 79, 80, 81, 82, 83, 84, 85, 86, 87, 71, 72] (by rfl) (by decide +kernel)
set_option maxRecDepth 20000 in
theorem gX10_luck_X10_isPerson : GoodIn wsX10_luck (wsV RX10 124 RX10 yX10_isPerson wsX10_isPerson) := goodIn_app (goodIn_r _ [12, 13, 14, 6] (by rfl) (by decide +kernel)) ggX10_luck_X10_isPerson
theorem dX10_luck_16 : decode cX10_luck 16 = .ok (.invokevirtual 124, 3) := by decide +kernel
theorem dX10_luck_19 : decode cX10_luck 19 = .ok (.ifCond .ne 6, 3) := by decide +kernel
theorem dX10_luck_25 : decode cX10_luck 25 = .ok (.iconst 0, 1) := by decide +kernel
theorem dX10_luck_26 : decode cX10_luck 26 = .ok (.istore 4, 2) := by decide +kernel
theorem dX10_luck_28 : decode cX10_luck 28 = .ok (.iconst 0, 1) := by decide +kernel
theorem dX10_luck_29 : decode cX10_luck 29 = .ok (.istore 5, 2) := by decide +kernel
theorem dX10_luck_31 : decode cX10_luck 31 = .ok (.iload 5, 2) := by decide +kernel
theorem dX10_luck_33 : decode cX10_luck 33 = .ok (.iload_n 2, 1) := by decide +kernel
theorem dX10_luck_34 : decode cX10_luck 34 = .ok (.if_icmp .ge 45, 3) := by decide +kernel
theorem dX10_luck_79 : decode cX10_luck 79 = .ok (.iload 4, 2) := by decide +kernel
theorem dX10_luck_81 : decode cX10_luck 81 = .ok (.ireturn, 1) := by decide +kernel
theorem dX10_luck_37 : decode cX10_luck 37 = .ok (.aload_n 0, 1) := by decide +kernel
theorem dX10_luck_38 : decode cX10_luck 38 = .ok (.getfield 70, 3) := by decide +kernel
theorem dX10_luck_41 : decode cX10_luck 41 = .ok (.iload_n 1, 1) := by decide +kernel
theorem dX10_luck_42 : decode cX10_luck 42 = .ok (.iload 5, 2) := by decide +kernel
theorem dX10_luck_44 : decode cX10_luck 44 = .ok (.iadd, 1) := by decide +kernel
theorem dX10_luck_45 : decode cX10_luck 45 = .ok (.aload_n 0, 1) := by decide +kernel
set_option maxRecDepth 20000 in
theorem ggX10_luck_X10_bonds : GoodIn wsX10_luck wsX10_bonds := goodIn_r _ [28, 16, 17, 18, 60, 61, 62, 63, 64, 65, 66, 67, 68, 69, 70, 76, 77, 78, 79, 80, 81, 82, 83, 84, 85, 86, 87] (by rfl) (by decide +kernel)
set_option maxRecDepth 20000 in
theorem gX10_luck_X10_bonds : GoodIn wsX10_luck (wsV RX10 134 RX10 yX10_bonds wsX10_bonds) := goodIn_app (goodIn_r _ [25, 26, 27, 6] (by rfl) (by decide +kernel)) ggX10_luck_X10_bonds
theorem dX10_luck_46 : decode cX10_luck 46 = .ok (.invokevirtual 134, 3) := by decide +kernel
theorem dX10_luck_49 : decode cX10_luck 49 = .ok (.getfield 238, 3) := by decide +kernel
set_option maxRecDepth 20000 in
theorem ggX10_luck_X7_deal : GoodIn wsX10_luck wsX7_deal := goodIn_r _ [33, 34, 35, 36, 37, 38, 39, 40, 41, 42, 43, 44, 32, 45, 46, 47, 48, 49, 50, 51, 52, 22, 53, 54, 55, 20, 21, 23, 24, 73, 74, 75, 71, 72] (by rfl) (by decide +kernel)
set_option maxRecDepth 20000 in
theorem gX10_luck_X7_deal : GoodIn wsX10_luck (wsV RX10 371 RX7 yX7_deal wsX7_deal) := goodIn_app (goodIn_r _ [29, 30, 31, 32] (by rfl) (by decide +kernel)) ggX10_luck_X7_deal
theorem dX10_luck_52 : decode cX10_luck 52 = .ok (.invokevirtual 371, 3) := by decide +kernel
theorem dX10_luck_55 : decode cX10_luck 55 = .ok (.aload_n 0, 1) := by decide +kernel
theorem dX10_luck_56 : decode cX10_luck 56 = .ok (.getfield 70, 3) := by decide +kernel
theorem dX10_luck_59 : decode cX10_luck 59 = .ok (.getfield 374, 3) := by decide +kernel
theorem dX10_luck_62 : decode cX10_luck 62 = .ok (.iload_n 3, 1) := by decide +kernel
set_option maxRecDepth 20000 in
theorem ggX10_luck_X0_holderOf : GoodIn wsX10_luck wsX0_holderOf := goodIn_r _ [59, 54, 55, 20, 21, 22, 23, 24, 71, 72] (by rfl) (by decide +kernel)
set_option maxRecDepth 20000 in
theorem gX10_luck_X0_holderOf : GoodIn wsX10_luck (wsV RX10 138 RX0 yX0_holderOf wsX0_holderOf) := goodIn_app (goodIn_r _ [56, 57, 58, 22] (by rfl) (by decide +kernel)) ggX10_luck_X0_holderOf
theorem dX10_luck_63 : decode cX10_luck 63 = .ok (.invokevirtual 138, 3) := by decide +kernel
theorem dX10_luck_66 : decode cX10_luck 66 = .ok (.iload_n 3, 1) := by decide +kernel
theorem dX10_luck_73 : decode cX10_luck 73 = .ok (.iinc 5 1, 3) := by decide +kernel
theorem dX10_luck_76 : decode cX10_luck 76 = .ok (.goto (-45), 3) := by decide +kernel
theorem dX10_luck_67 : decode cX10_luck 67 = .ok (.if_icmp .ne 6, 3) := by decide +kernel
theorem dX10_luck_70 : decode cX10_luck 70 = .ok (.iinc 4 1, 3) := by decide +kernel
theorem dX10_winds_0 : decode cX10_winds 0 = .ok (.aload_n 0, 1) := by decide +kernel
set_option maxRecDepth 20000 in
theorem ggX10_winds_X10_hasCity : GoodIn wsX10_winds wsX10_hasCity := goodIn_r _ [8, 9, 10, 11, 80, 81, 82, 83, 84, 85, 86, 87, 88, 89, 90, 96, 97, 98, 99, 100, 101, 102, 103, 104, 105, 106] (by rfl) (by decide +kernel)
set_option maxRecDepth 20000 in
theorem gX10_winds_X10_hasCity : GoodIn wsX10_winds (wsV RX10 163 RX10 yX10_hasCity wsX10_hasCity) := goodIn_app (goodIn_r _ [4, 5, 6, 7] (by rfl) (by decide +kernel)) ggX10_winds_X10_hasCity
theorem dX10_winds_1 : decode cX10_winds 1 = .ok (.invokevirtual 163, 3) := by decide +kernel
theorem dX10_winds_4 : decode cX10_winds 4 = .ok (.ifCond .eq 17, 3) := by decide +kernel
theorem dX10_winds_21 : decode cX10_winds 21 = .ok (.bipush (-2), 2) := by decide +kernel
theorem dX10_winds_23 : decode cX10_winds 23 = .ok (.ireturn, 1) := by decide +kernel
theorem dX10_winds_7 : decode cX10_winds 7 = .ok (.iload_n 1, 1) := by decide +kernel
set_option maxRecDepth 20000 in
theorem ggX10_winds_X10_isSeed : GoodIn wsX10_winds wsX10_isSeed := goodIn_r _ [14, 15] (by rfl) (by decide +kernel)
set_option maxRecDepth 20000 in
theorem gX10_winds_X10_isSeed : GoodIn wsX10_winds (va_wsS RX10 368 yX10_isSeed wsX10_isSeed) := goodIn_app (goodIn_r _ [12, 13, 7] (by rfl) (by decide +kernel)) ggX10_winds_X10_isSeed
theorem dX10_winds_8 : decode cX10_winds 8 = .ok (.invokestatic 368, 3) := by decide +kernel
theorem dX10_winds_11 : decode cX10_winds 11 = .ok (.ifCond .eq 10, 3) := by decide +kernel
theorem dX10_winds_14 : decode cX10_winds 14 = .ok (.iload_n 2, 1) := by decide +kernel
set_option maxRecDepth 20000 in
theorem ggX10_winds_X10_isSquareNumber : GoodIn wsX10_winds wsX10_isSquareNumber := goodIn_r _ [18] (by rfl) (by decide +kernel)
set_option maxRecDepth 20000 in
theorem gX10_winds_X10_isSquareNumber : GoodIn wsX10_winds (va_wsS RX10 377 yX10_isSquareNumber wsX10_isSquareNumber) := goodIn_app (goodIn_r _ [16, 17, 7] (by rfl) (by decide +kernel)) ggX10_winds_X10_isSquareNumber
theorem dX10_winds_15 : decode cX10_winds 15 = .ok (.invokestatic 377, 3) := by decide +kernel
theorem dX10_winds_18 : decode cX10_winds 18 = .ok (.ifCond .ne 6, 3) := by decide +kernel
theorem dX10_winds_24 : decode cX10_winds 24 = .ok (.iconst 0, 1) := by decide +kernel
theorem dX10_winds_25 : decode cX10_winds 25 = .ok (.istore_n 3, 1) := by decide +kernel
theorem dX10_winds_26 : decode cX10_winds 26 = .ok (.iconst 0, 1) := by decide +kernel
theorem dX10_winds_27 : decode cX10_winds 27 = .ok (.istore 4, 2) := by decide +kernel
theorem dX10_winds_29 : decode cX10_winds 29 = .ok (.iload 4, 2) := by decide +kernel
theorem dX10_winds_31 : decode cX10_winds 31 = .ok (.iload_n 2, 1) := by decide +kernel
theorem dX10_winds_32 : decode cX10_winds 32 = .ok (.if_icmp .ge 40, 3) := by decide +kernel
theorem dX10_winds_72 : decode cX10_winds 72 = .ok (.iload_n 3, 1) := by decide +kernel
theorem dX10_winds_73 : decode cX10_winds 73 = .ok (.ireturn, 1) := by decide +kernel
theorem dX10_winds_35 : decode cX10_winds 35 = .ok (.aload_n 0, 1) := by decide +kernel
theorem dX10_winds_36 : decode cX10_winds 36 = .ok (.getfield 70, 3) := by decide +kernel
theorem dX10_winds_39 : decode cX10_winds 39 = .ok (.iload_n 1, 1) := by decide +kernel
theorem dX10_winds_40 : decode cX10_winds 40 = .ok (.iload 4, 2) := by decide +kernel
theorem dX10_winds_42 : decode cX10_winds 42 = .ok (.iadd, 1) := by decide +kernel
theorem dX10_winds_43 : decode cX10_winds 43 = .ok (.aload_n 0, 1) := by decide +kernel
set_option maxRecDepth 20000 in
theorem ggX10_winds_X10_bonds : GoodIn wsX10_winds wsX10_bonds := goodIn_r _ [22, 9, 23, 24, 80, 81, 82, 83, 84, 85, 86, 87, 88, 89, 90, 96, 97, 98, 99, 107, 108, 109, 110, 111, 112, 113, 114] (by rfl) (by decide +kernel)
set_option maxRecDepth 20000 in
theorem gX10_winds_X10_bonds : GoodIn wsX10_winds (wsV RX10 134 RX10 yX10_bonds wsX10_bonds) := goodIn_app (goodIn_r _ [19, 20, 21, 7] (by rfl) (by decide +kernel)) ggX10_winds_X10_bonds
theorem dX10_winds_44 : decode cX10_winds 44 = .ok (.invokevirtual 134, 3) := by decide +kernel
theorem dX10_winds_47 : decode cX10_winds 47 = .ok (.getfield 238, 3) := by decide +kernel
set_option maxRecDepth 20000 in
theorem ggX10_winds_X7_deal : GoodIn wsX10_winds wsX7_deal := goodIn_r _ [29, 30, 31, 32, 33, 34, 35, 36, 37, 38, 39, 40, 28, 41, 42, 43, 44, 45, 46, 47, 48, 49, 50, 51, 52, 53, 54, 55, 56, 93, 94, 95, 91, 92] (by rfl) (by decide +kernel)
set_option maxRecDepth 20000 in
theorem gX10_winds_X7_deal : GoodIn wsX10_winds (wsV RX10 371 RX7 yX7_deal wsX7_deal) := goodIn_app (goodIn_r _ [25, 26, 27, 28] (by rfl) (by decide +kernel)) ggX10_winds_X7_deal
theorem dX10_winds_50 : decode cX10_winds 50 = .ok (.invokevirtual 371, 3) := by decide +kernel
theorem dX10_winds_53 : decode cX10_winds 53 = .ok (.iload_n 3, 1) := by decide +kernel
theorem dX10_winds_54 : decode cX10_winds 54 = .ok (.aload_n 0, 1) := by decide +kernel
theorem dX10_winds_55 : decode cX10_winds 55 = .ok (.getfield 70, 3) := by decide +kernel
theorem dX10_winds_58 : decode cX10_winds 58 = .ok (.getfield 374, 3) := by decide +kernel
set_option maxRecDepth 20000 in
theorem ggX10_winds_X0_ringCount : GoodIn wsX10_winds wsX0_ringCount := goodIn_r _ [60, 56, 61, 62, 63, 49, 64, 65, 66, 67, 68, 69, 70, 34, 71, 72, 73, 74, 75, 76, 77, 78, 79, 51, 52, 53, 54, 55, 91, 92] (by rfl) (by decide +kernel)
set_option maxRecDepth 20000 in
theorem gX10_winds_X0_ringCount : GoodIn wsX10_winds (wsV RX10 182 RX0 yX0_ringCount wsX0_ringCount) := goodIn_app (goodIn_r _ [57, 58, 59, 49] (by rfl) (by decide +kernel)) ggX10_winds_X0_ringCount
theorem dX10_winds_61 : decode cX10_winds 61 = .ok (.invokevirtual 182, 3) := by decide +kernel
theorem dX10_winds_64 : decode cX10_winds 64 = .ok (.iadd, 1) := by decide +kernel
theorem dX10_winds_65 : decode cX10_winds 65 = .ok (.istore_n 3, 1) := by decide +kernel
theorem dX10_winds_66 : decode cX10_winds 66 = .ok (.iinc 4 1, 3) := by decide +kernel
theorem dX10_winds_69 : decode cX10_winds 69 = .ok (.goto (-40), 3) := by decide +kernel
theorem dX10_rate_0 : decode cX10_rate 0 = .ok (.aload_n 0, 1) := by decide +kernel
theorem dX10_rate_1 : decode cX10_rate 1 = .ok (.iload_n 1, 1) := by decide +kernel
set_option maxRecDepth 20000 in
theorem ggX10_rate_X10_isPerson : GoodIn wsX10_rate wsX10_isPerson := goodIn_r _ [9, 1, 10, 11, 12, 13, 14, 15, 16, 17, 26, 27, 28, 29, 30, 31, 32, 33, 34, 35, 36, 37, 38, 39, 40, 48, 49, 50, 51, 52, 53, 54, 55, 56, 57] (by rfl) (by decide +kernel)
set_option maxRecDepth 20000 in
theorem gX10_rate_X10_isPerson : GoodIn wsX10_rate (wsV RX10 124 RX10 yX10_isPerson wsX10_isPerson) := goodIn_app (goodIn_r _ [5, 6, 7, 8] (by rfl) (by decide +kernel)) ggX10_rate_X10_isPerson
theorem dX10_rate_2 : decode cX10_rate 2 = .ok (.invokevirtual 124, 3) := by decide +kernel
theorem dX10_rate_5 : decode cX10_rate 5 = .ok (.ifCond .eq 15, 3) := by decide +kernel
theorem dX10_rate_20 : decode cX10_rate 20 = .ok (.bipush (-2), 2) := by decide +kernel
theorem dX10_rate_22 : decode cX10_rate 22 = .ok (.ireturn, 1) := by decide +kernel
theorem dX10_rate_8 : decode cX10_rate 8 = .ok (.iload_n 2, 1) := by decide +kernel
theorem dX10_rate_9 : decode cX10_rate 9 = .ok (.iconst 1, 1) := by decide +kernel
theorem dX10_rate_10 : decode cX10_rate 10 = .ok (.if_icmp .lt 10, 3) := by decide +kernel
theorem dX10_rate_13 : decode cX10_rate 13 = .ok (.iload_n 2, 1) := by decide +kernel
theorem dX10_rate_14 : decode cX10_rate 14 = .ok (.sipush 999, 3) := by decide +kernel
theorem dX10_rate_17 : decode cX10_rate 17 = .ok (.if_icmp .le 6, 3) := by decide +kernel
theorem dX10_rate_23 : decode cX10_rate 23 = .ok (.aload_n 0, 1) := by decide +kernel
theorem dX10_rate_24 : decode cX10_rate 24 = .ok (.getfield 28, 3) := by decide +kernel
theorem dX10_rate_27 : decode cX10_rate 27 = .ok (.getfield 226, 3) := by decide +kernel
theorem dX10_rate_30 : decode cX10_rate 30 = .ok (.ifCond .le 6, 3) := by decide +kernel
theorem dX10_rate_36 : decode cX10_rate 36 = .ok (.aload_n 0, 1) := by decide +kernel
theorem dX10_rate_37 : decode cX10_rate 37 = .ok (.getfield 28, 3) := by decide +kernel
theorem dX10_rate_40 : decode cX10_rate 40 = .ok (.getfield 49, 3) := by decide +kernel
theorem dX10_rate_43 : decode cX10_rate 43 = .ok (.iload_n 1, 1) := by decide +kernel
set_option maxRecDepth 20000 in
theorem ggX10_rate_X9_worthOf : GoodIn wsX10_rate wsX9_worthOf := goodIn_r _ [22, 23, 24, 25, 13, 14, 15, 16, 17, 41, 42, 43, 44, 45, 46, 47, 56, 57] (by rfl) (by decide +kernel)
set_option maxRecDepth 20000 in
theorem gX10_rate_X9_worthOf : GoodIn wsX10_rate (wsV RX10 127 RX9 yX9_worthOf wsX9_worthOf) := goodIn_app (goodIn_r _ [18, 19, 20, 21] (by rfl) (by decide +kernel)) ggX10_rate_X9_worthOf
theorem dX10_rate_44 : decode cX10_rate 44 = .ok (.invokevirtual 127, 3) := by decide +kernel
theorem dX10_rate_47 : decode cX10_rate 47 = .ok (.istore_n 3, 1) := by decide +kernel
theorem dX10_rate_48 : decode cX10_rate 48 = .ok (.aload_n 0, 1) := by decide +kernel
theorem dX10_rate_49 : decode cX10_rate 49 = .ok (.getfield 28, 3) := by decide +kernel
theorem dX10_rate_52 : decode cX10_rate 52 = .ok (.getfield 49, 3) := by decide +kernel
theorem dX10_rate_55 : decode cX10_rate 55 = .ok (.getfield 380, 3) := by decide +kernel
theorem dX10_rate_58 : decode cX10_rate 58 = .ok (.iload_n 1, 1) := by decide +kernel
theorem dX10_rate_59 : decode cX10_rate 59 = .ok (.iload_n 2, 1) := by decide +kernel
theorem dX10_rate_60 : decode cX10_rate 60 = .ok (.iastore, 1) := by decide +kernel
theorem dX10_rate_61 : decode cX10_rate 61 = .ok (.iload_n 3, 1) := by decide +kernel
theorem dX10_rate_62 : decode cX10_rate 62 = .ok (.ireturn, 1) := by decide +kernel
theorem dX10_rate_33 : decode cX10_rate 33 = .ok (.bipush (-5), 2) := by decide +kernel
theorem dX10_rate_35 : decode cX10_rate 35 = .ok (.ireturn, 1) := by decide +kernel
theorem dX10_forge_0 : decode cX10_forge 0 = .ok (.aload_n 0, 1) := by decide +kernel
theorem dX10_forge_1 : decode cX10_forge 1 = .ok (.iload_n 1, 1) := by decide +kernel
set_option maxRecDepth 20000 in
theorem ggX10_forge_X10_isPerson : GoodIn wsX10_forge wsX10_isPerson := goodIn_r _ [9, 1, 10, 11, 12, 13, 14, 15, 16, 17, 26, 27, 28, 29, 30, 31, 32, 33, 34, 35, 36, 37, 38, 39, 40, 48, 49, 50, 51, 52, 53, 54, 55, 56, 57] (by rfl) (by decide +kernel)
set_option maxRecDepth 20000 in
theorem gX10_forge_X10_isPerson : GoodIn wsX10_forge (wsV RX10 124 RX10 yX10_isPerson wsX10_isPerson) := goodIn_app (goodIn_r _ [5, 6, 7, 8] (by rfl) (by decide +kernel)) ggX10_forge_X10_isPerson
theorem dX10_forge_2 : decode cX10_forge 2 = .ok (.invokevirtual 124, 3) := by decide +kernel
theorem dX10_forge_5 : decode cX10_forge 5 = .ok (.ifCond .eq 12, 3) := by decide +kernel
theorem dX10_forge_17 : decode cX10_forge 17 = .ok (.bipush (-2), 2) := by decide +kernel
theorem dX10_forge_19 : decode cX10_forge 19 = .ok (.ireturn, 1) := by decide +kernel
theorem dX10_forge_8 : decode cX10_forge 8 = .ok (.iload_n 2, 1) := by decide +kernel
theorem dX10_forge_9 : decode cX10_forge 9 = .ok (.ifCond .lt 8, 3) := by decide +kernel
theorem dX10_forge_12 : decode cX10_forge 12 = .ok (.iload_n 2, 1) := by decide +kernel
theorem dX10_forge_13 : decode cX10_forge 13 = .ok (.iconst 1, 1) := by decide +kernel
theorem dX10_forge_14 : decode cX10_forge 14 = .ok (.if_icmp .le 6, 3) := by decide +kernel
theorem dX10_forge_20 : decode cX10_forge 20 = .ok (.aload_n 0, 1) := by decide +kernel
theorem dX10_forge_21 : decode cX10_forge 21 = .ok (.getfield 28, 3) := by decide +kernel
theorem dX10_forge_24 : decode cX10_forge 24 = .ok (.getfield 226, 3) := by decide +kernel
theorem dX10_forge_27 : decode cX10_forge 27 = .ok (.ifCond .le 6, 3) := by decide +kernel
theorem dX10_forge_33 : decode cX10_forge 33 = .ok (.aload_n 0, 1) := by decide +kernel
theorem dX10_forge_34 : decode cX10_forge 34 = .ok (.getfield 28, 3) := by decide +kernel
theorem dX10_forge_37 : decode cX10_forge 37 = .ok (.getfield 49, 3) := by decide +kernel
theorem dX10_forge_40 : decode cX10_forge 40 = .ok (.iload_n 1, 1) := by decide +kernel
set_option maxRecDepth 20000 in
theorem ggX10_forge_X9_forgedOf : GoodIn wsX10_forge wsX9_forgedOf := goodIn_r _ [22, 23, 24, 25, 13, 14, 15, 16, 17, 41, 42, 43, 44, 45, 46, 47, 56, 57] (by rfl) (by decide +kernel)
set_option maxRecDepth 20000 in
theorem gX10_forge_X9_forgedOf : GoodIn wsX10_forge (wsV RX10 157 RX9 yX9_forgedOf wsX9_forgedOf) := goodIn_app (goodIn_r _ [18, 19, 20, 21] (by rfl) (by decide +kernel)) ggX10_forge_X9_forgedOf
theorem dX10_forge_41 : decode cX10_forge 41 = .ok (.invokevirtual 157, 3) := by decide +kernel
theorem dX10_forge_44 : decode cX10_forge 44 = .ok (.istore_n 3, 1) := by decide +kernel
theorem dX10_forge_45 : decode cX10_forge 45 = .ok (.aload_n 0, 1) := by decide +kernel
theorem dX10_forge_46 : decode cX10_forge 46 = .ok (.getfield 28, 3) := by decide +kernel
theorem dX10_forge_49 : decode cX10_forge 49 = .ok (.getfield 49, 3) := by decide +kernel
theorem dX10_forge_52 : decode cX10_forge 52 = .ok (.getfield 384, 3) := by decide +kernel
theorem dX10_forge_55 : decode cX10_forge 55 = .ok (.iload_n 1, 1) := by decide +kernel
theorem dX10_forge_56 : decode cX10_forge 56 = .ok (.iload_n 2, 1) := by decide +kernel
theorem dX10_forge_57 : decode cX10_forge 57 = .ok (.iastore, 1) := by decide +kernel
theorem dX10_forge_58 : decode cX10_forge 58 = .ok (.iload_n 3, 1) := by decide +kernel
theorem dX10_forge_59 : decode cX10_forge 59 = .ok (.ireturn, 1) := by decide +kernel
theorem dX10_forge_30 : decode cX10_forge 30 = .ok (.bipush (-5), 2) := by decide +kernel
theorem dX10_forge_32 : decode cX10_forge 32 = .ok (.ireturn, 1) := by decide +kernel
theorem dX10_count_0 : decode cX10_count 0 = .ok (.iload_n 1, 1) := by decide +kernel
theorem dX10_count_1 : decode cX10_count 1 = .ok (.tableswitch 131 0 7 #[47, 55, 66, 85, 96, 104, 115, 123], 47) := by decide +kernel
theorem dX10_count_48 : decode cX10_count 48 = .ok (.aload_n 0, 1) := by decide +kernel
set_option maxRecDepth 20000 in
theorem ggX10_count_X10_bonds : GoodIn wsX10_count wsX10_bonds := goodIn_r _ [14, 2, 15, 16, 65, 66, 67, 68, 69, 70, 71, 72, 73, 74, 75, 76, 77, 78, 79, 89, 90, 91, 92, 93, 94, 95, 96] (by rfl) (by decide +kernel)
set_option maxRecDepth 20000 in
theorem gX10_count_X10_bonds : GoodIn wsX10_count (wsV RX10 134 RX10 yX10_bonds wsX10_bonds) := goodIn_app (goodIn_r _ [10, 11, 12, 13] (by rfl) (by decide +kernel)) ggX10_count_X10_bonds
theorem dX10_count_49 : decode cX10_count 49 = .ok (.invokevirtual 134, 3) := by decide +kernel
theorem dX10_count_52 : decode cX10_count 52 = .ok (.getfield 238, 3) := by decide +kernel
theorem dX10_count_55 : decode cX10_count 55 = .ok (.ireturn, 1) := by decide +kernel
theorem dX10_count_56 : decode cX10_count 56 = .ok (.aload_n 0, 1) := by decide +kernel
theorem dX10_count_57 : decode cX10_count 57 = .ok (.getfield 28, 3) := by decide +kernel
theorem dX10_count_60 : decode cX10_count 60 = .ok (.getfield 49, 3) := by decide +kernel
theorem dX10_count_63 : decode cX10_count 63 = .ok (.getfield 387, 3) := by decide +kernel
theorem dX10_count_66 : decode cX10_count 66 = .ok (.ireturn, 1) := by decide +kernel
theorem dX10_count_67 : decode cX10_count 67 = .ok (.aload_n 0, 1) := by decide +kernel
theorem dX10_count_68 : decode cX10_count 68 = .ok (.invokevirtual 134, 3) := by decide +kernel
theorem dX10_count_71 : decode cX10_count 71 = .ok (.getfield 238, 3) := by decide +kernel
theorem dX10_count_74 : decode cX10_count 74 = .ok (.aload_n 0, 1) := by decide +kernel
theorem dX10_count_75 : decode cX10_count 75 = .ok (.invokevirtual 134, 3) := by decide +kernel
set_option maxRecDepth 20000 in
theorem ggX10_count_X0_freeOnes : GoodIn wsX10_count wsX0_freeOnes := goodIn_r _ [21, 22, 23, 24, 20, 25, 26, 27, 28, 29, 30, 31, 32, 33, 34, 35, 63, 64] (by rfl) (by decide +kernel)
set_option maxRecDepth 20000 in
theorem gX10_count_X0_freeOnes : GoodIn wsX10_count (wsV RX10 166 RX0 yX0_freeOnes wsX0_freeOnes) := goodIn_app (goodIn_r _ [17, 18, 19, 20] (by rfl) (by decide +kernel)) ggX10_count_X0_freeOnes
theorem dX10_count_78 : decode cX10_count 78 = .ok (.invokevirtual 166, 3) := by decide +kernel
set_option maxRecDepth 20000 in
theorem ggX10_count_J6_bitCount_0f7a4 : GoodIn wsX10_count wsJ6_bitCount_0f7a4 := goodIn_r _ [39, 40, 41, 42] (by rfl) (by decide +kernel)
set_option maxRecDepth 20000 in
theorem gX10_count_J6_bitCount_0f7a4 : GoodIn wsX10_count (va_wsS RX10 256 yJ6_bitCount_0f7a4 wsJ6_bitCount_0f7a4) := goodIn_app (goodIn_r _ [36, 37, 38] (by rfl) (by decide +kernel)) ggX10_count_J6_bitCount_0f7a4
theorem dX10_count_81 : decode cX10_count 81 = .ok (.invokestatic 256, 3) := by decide +kernel
theorem dX10_count_84 : decode cX10_count 84 = .ok (.isub, 1) := by decide +kernel
theorem dX10_count_85 : decode cX10_count 85 = .ok (.ireturn, 1) := by decide +kernel
theorem dX10_count_86 : decode cX10_count 86 = .ok (.aload_n 0, 1) := by decide +kernel
theorem dX10_count_87 : decode cX10_count 87 = .ok (.getfield 28, 3) := by decide +kernel
theorem dX10_count_90 : decode cX10_count 90 = .ok (.getfield 49, 3) := by decide +kernel
set_option maxRecDepth 20000 in
theorem ggX10_count_X9_forgedCards : GoodIn wsX10_count wsX9_forgedCards := goodIn_r _ [47, 48, 49, 50, 51, 52, 46, 53, 54, 55, 33, 34, 20, 35, 26, 80, 81, 82, 83, 84, 85, 86, 63, 64] (by rfl) (by decide +kernel)
set_option maxRecDepth 20000 in
theorem gX10_count_X9_forgedCards : GoodIn wsX10_count (wsV RX10 390 RX9 yX9_forgedCards wsX9_forgedCards) := goodIn_app (goodIn_r _ [43, 44, 45, 46] (by rfl) (by decide +kernel)) ggX10_count_X9_forgedCards
theorem dX10_count_93 : decode cX10_count 93 = .ok (.invokevirtual 390, 3) := by decide +kernel
theorem dX10_count_96 : decode cX10_count 96 = .ok (.ireturn, 1) := by decide +kernel
theorem dX10_count_97 : decode cX10_count 97 = .ok (.aload_n 0, 1) := by decide +kernel
theorem dX10_count_98 : decode cX10_count 98 = .ok (.getfield 28, 3) := by decide +kernel
theorem dX10_count_101 : decode cX10_count 101 = .ok (.getfield 226, 3) := by decide +kernel
theorem dX10_count_104 : decode cX10_count 104 = .ok (.ireturn, 1) := by decide +kernel
theorem dX10_count_105 : decode cX10_count 105 = .ok (.aload_n 0, 1) := by decide +kernel
theorem dX10_count_106 : decode cX10_count 106 = .ok (.getfield 28, 3) := by decide +kernel
theorem dX10_count_109 : decode cX10_count 109 = .ok (.getfield 49, 3) := by decide +kernel
theorem dX10_count_112 : decode cX10_count 112 = .ok (.getfield 113, 3) := by decide +kernel
theorem dX10_count_115 : decode cX10_count 115 = .ok (.ireturn, 1) := by decide +kernel
theorem dX10_count_116 : decode cX10_count 116 = .ok (.aload_n 0, 1) := by decide +kernel
theorem dX10_count_117 : decode cX10_count 117 = .ok (.getfield 10, 3) := by decide +kernel
theorem dX10_count_120 : decode cX10_count 120 = .ok (.getfield 96, 3) := by decide +kernel
theorem dX10_count_123 : decode cX10_count 123 = .ok (.ireturn, 1) := by decide +kernel
theorem dX10_count_124 : decode cX10_count 124 = .ok (.aload_n 0, 1) := by decide +kernel
theorem dX10_count_125 : decode cX10_count 125 = .ok (.getfield 43, 3) := by decide +kernel
set_option maxRecDepth 20000 in
theorem ggX10_count_X6_kept : GoodIn wsX10_count wsX6_kept := goodIn_r _ [60, 61, 62, 37, 38, 39, 40, 41, 42, 97, 98, 99, 100] (by rfl) (by decide +kernel)
set_option maxRecDepth 20000 in
theorem gX10_count_X6_kept : GoodIn wsX10_count (wsV RX10 393 RX6 yX6_kept wsX6_kept) := goodIn_app (goodIn_r _ [56, 57, 58, 59] (by rfl) (by decide +kernel)) ggX10_count_X6_kept
theorem dX10_count_128 : decode cX10_count 128 = .ok (.invokevirtual 393, 3) := by decide +kernel
theorem dX10_count_131 : decode cX10_count 131 = .ok (.ireturn, 1) := by decide +kernel
theorem dX10_count_132 : decode cX10_count 132 = .ok (.iconst (-1), 1) := by decide +kernel
theorem dX10_count_133 : decode cX10_count 133 = .ok (.ireturn, 1) := by decide +kernel
theorem dX10_image_0 : decode cX10_image 0 = .ok (.iload_n 1, 1) := by decide +kernel
theorem dX10_image_1 : decode cX10_image 1 = .ok (.ifCond .lt 8, 3) := by decide +kernel
theorem dX10_image_9 : decode cX10_image 9 = .ok (.bipush (-2), 2) := by decide +kernel
theorem dX10_image_11 : decode cX10_image 11 = .ok (.ireturn, 1) := by decide +kernel
theorem dX10_image_4 : decode cX10_image 4 = .ok (.iload_n 1, 1) := by decide +kernel
theorem dX10_image_5 : decode cX10_image 5 = .ok (.iconst 3, 1) := by decide +kernel
theorem dX10_image_6 : decode cX10_image 6 = .ok (.if_icmp .lt 6, 3) := by decide +kernel
theorem dX10_image_12 : decode cX10_image 12 = .ok (.aload_n 0, 1) := by decide +kernel
theorem dX10_image_13 : decode cX10_image 13 = .ok (.getfield 32, 3) := by decide +kernel
theorem dX10_image_16 : decode cX10_image 16 = .ok (.iload_n 1, 1) := by decide +kernel
theorem dX10_image_17 : decode cX10_image 17 = .ok (.aaload, 1) := by decide +kernel
theorem dX10_image_18 : decode cX10_image 18 = .ok (.aload_n 0, 1) := by decide +kernel
theorem dX10_image_19 : decode cX10_image 19 = .ok (.getfield 28, 3) := by decide +kernel
set_option maxRecDepth 20000 in
theorem ggX10_image_X4_copyOf : GoodIn wsX10_image wsX4_copyOf := goodIn_r _ [8, 9, 10, 11, 12, 13, 14, 15, 16, 17, 18, 19, 20, 21, 22, 23, 24, 25, 26, 27, 28, 29, 30, 31, 32, 33, 34, 35, 36, 37, 38, 39, 7, 40, 41, 42, 43, 44, 45, 46, 47, 48, 49, 50, 51, 52, 53, 54, 55, 56, 57, 58, 59, 60, 61, 62, 63, 64, 65, 66, 67, 68, 69, 70, 71, 72, 73, 74, 75, 76, 77, 78, 79, 80, 81, 82, 83, 84, 85, 86, 87, 88, 89, 90, 91, 92, 93, 94, 95, 96, 97, 98, 99, 100, 101, 113, 114, 115, 116, 117, 118, 119, 120, 121, 122, 123, 124, 125, 126, 127, 128, 129, 130, 131, 132, 133] (by rfl) (by decide +kernel)
set_option maxRecDepth 20000 in
theorem gX10_image_X4_copyOf : GoodIn wsX10_image (wsV RX10 395 RX4 yX4_copyOf wsX4_copyOf) := goodIn_app (goodIn_r _ [4, 5, 6, 7] (by rfl) (by decide +kernel)) ggX10_image_X4_copyOf
theorem dX10_image_22 : decode cX10_image 22 = .ok (.invokevirtual 395, 3) := by decide +kernel
theorem dX10_image_25 : decode cX10_image 25 = .ok (.aload_n 0, 1) := by decide +kernel
theorem dX10_image_26 : decode cX10_image 26 = .ok (.getfield 36, 3) := by decide +kernel
theorem dX10_image_29 : decode cX10_image 29 = .ok (.iload_n 1, 1) := by decide +kernel
theorem dX10_image_30 : decode cX10_image 30 = .ok (.iconst 1, 1) := by decide +kernel
theorem dX10_image_31 : decode cX10_image 31 = .ok (.bastore, 1) := by decide +kernel
theorem dX10_image_32 : decode cX10_image 32 = .ok (.iconst 0, 1) := by decide +kernel
theorem dX10_image_33 : decode cX10_image 33 = .ok (.ireturn, 1) := by decide +kernel
theorem dX10_back_0 : decode cX10_back 0 = .ok (.iload_n 1, 1) := by decide +kernel
theorem dX10_back_1 : decode cX10_back 1 = .ok (.ifCond .lt 8, 3) := by decide +kernel
theorem dX10_back_9 : decode cX10_back 9 = .ok (.bipush (-2), 2) := by decide +kernel
theorem dX10_back_11 : decode cX10_back 11 = .ok (.ireturn, 1) := by decide +kernel
theorem dX10_back_4 : decode cX10_back 4 = .ok (.iload_n 1, 1) := by decide +kernel
theorem dX10_back_5 : decode cX10_back 5 = .ok (.iconst 3, 1) := by decide +kernel
theorem dX10_back_6 : decode cX10_back 6 = .ok (.if_icmp .lt 6, 3) := by decide +kernel
theorem dX10_back_12 : decode cX10_back 12 = .ok (.aload_n 0, 1) := by decide +kernel
theorem dX10_back_13 : decode cX10_back 13 = .ok (.getfield 36, 3) := by decide +kernel
theorem dX10_back_16 : decode cX10_back 16 = .ok (.iload_n 1, 1) := by decide +kernel
theorem dX10_back_17 : decode cX10_back 17 = .ok (.baload, 1) := by decide +kernel
theorem dX10_back_18 : decode cX10_back 18 = .ok (.ifCond .ne 6, 3) := by decide +kernel
theorem dX10_back_24 : decode cX10_back 24 = .ok (.aload_n 0, 1) := by decide +kernel
theorem dX10_back_25 : decode cX10_back 25 = .ok (.getfield 28, 3) := by decide +kernel
theorem dX10_back_28 : decode cX10_back 28 = .ok (.aload_n 0, 1) := by decide +kernel
theorem dX10_back_29 : decode cX10_back 29 = .ok (.getfield 32, 3) := by decide +kernel
theorem dX10_back_32 : decode cX10_back 32 = .ok (.iload_n 1, 1) := by decide +kernel
theorem dX10_back_33 : decode cX10_back 33 = .ok (.aaload, 1) := by decide +kernel
set_option maxRecDepth 20000 in
theorem ggX10_back_X4_copyOf : GoodIn wsX10_back wsX4_copyOf := goodIn_r _ [8, 9, 10, 11, 12, 13, 14, 15, 16, 17, 18, 19, 20, 21, 22, 23, 24, 25, 26, 27, 28, 29, 30, 31, 32, 33, 34, 35, 36, 37, 38, 39, 7, 40, 41, 42, 43, 44, 45, 46, 47, 48, 49, 50, 51, 52, 53, 54, 55, 56, 57, 58, 59, 60, 61, 62, 63, 64, 65, 66, 67, 68, 69, 70, 71, 72, 73, 74, 75, 76, 77, 78, 79, 80, 81, 82, 83, 84, 85, 86, 87, 88, 89, 90, 91, 92, 93, 94, 95, 96, 97, 98, 99, 100, 101, 113, 114, 115, 116, 117, 118, 119, 120, 121, 122, 123, 124, 125, 126, 127, 128, 129, 130, 131, 132, 133] (by rfl) (by decide +kernel)
set_option maxRecDepth 20000 in
theorem gX10_back_X4_copyOf : GoodIn wsX10_back (wsV RX10 395 RX4 yX4_copyOf wsX4_copyOf) := goodIn_app (goodIn_r _ [4, 5, 6, 7] (by rfl) (by decide +kernel)) ggX10_back_X4_copyOf
theorem dX10_back_34 : decode cX10_back 34 = .ok (.invokevirtual 395, 3) := by decide +kernel
theorem dX10_back_37 : decode cX10_back 37 = .ok (.iconst 0, 1) := by decide +kernel
theorem dX10_back_38 : decode cX10_back 38 = .ok (.ireturn, 1) := by decide +kernel
theorem dX10_back_21 : decode cX10_back 21 = .ok (.bipush (-6), 2) := by decide +kernel
theorem dX10_back_23 : decode cX10_back 23 = .ok (.ireturn, 1) := by decide +kernel
theorem dX10_row_0 : decode cX10_row 0 = .ok (.aload_n 0, 1) := by decide +kernel
theorem dX10_row_1 : decode cX10_row 1 = .ok (.getfield 43, 3) := by decide +kernel
theorem dX10_row_4 : decode cX10_row 4 = .ok (.iload_n 1, 1) := by decide +kernel
set_option maxRecDepth 20000 in
theorem ggX10_row_X6_isSlot : GoodIn wsX10_row wsX6_isSlot := goodIn_r _ [6] (by rfl) (by decide +kernel)
set_option maxRecDepth 20000 in
theorem gX10_row_X6_isSlot : GoodIn wsX10_row (wsV RX10 397 RX6 yX6_isSlot wsX6_isSlot) := goodIn_app (goodIn_r _ [2, 3, 4, 5] (by rfl) (by decide +kernel)) ggX10_row_X6_isSlot
theorem dX10_row_5 : decode cX10_row 5 = .ok (.invokevirtual 397, 3) := by decide +kernel
theorem dX10_row_8 : decode cX10_row 8 = .ok (.ifCond .eq 18, 3) := by decide +kernel
theorem dX10_row_26 : decode cX10_row 26 = .ok (.bipush (-2), 2) := by decide +kernel
theorem dX10_row_28 : decode cX10_row 28 = .ok (.ireturn, 1) := by decide +kernel
theorem dX10_row_11 : decode cX10_row 11 = .ok (.iload_n 2, 1) := by decide +kernel
theorem dX10_row_12 : decode cX10_row 12 = .ok (.ifCond .lt 14, 3) := by decide +kernel
theorem dX10_row_15 : decode cX10_row 15 = .ok (.iload_n 2, 1) := by decide +kernel
theorem dX10_row_16 : decode cX10_row 16 = .ok (.iconst 3, 1) := by decide +kernel
theorem dX10_row_17 : decode cX10_row 17 = .ok (.if_icmp .gt 9, 3) := by decide +kernel
theorem dX10_row_20 : decode cX10_row 20 = .ok (.iload_n 3, 1) := by decide +kernel
theorem dX10_row_21 : decode cX10_row 21 = .ok (.bipush 60, 2) := by decide +kernel
theorem dX10_row_23 : decode cX10_row 23 = .ok (.if_icmp .le 6, 3) := by decide +kernel
theorem dX10_row_29 : decode cX10_row 29 = .ok (.iload_n 3, 1) := by decide +kernel
theorem dX10_row_30 : decode cX10_row 30 = .ok (.ifCond .ge 6, 3) := by decide +kernel
theorem dX10_row_36 : decode cX10_row 36 = .ok (.aload_n 0, 1) := by decide +kernel
theorem dX10_row_37 : decode cX10_row 37 = .ok (.getfield 43, 3) := by decide +kernel
theorem dX10_row_40 : decode cX10_row 40 = .ok (.iload_n 1, 1) := by decide +kernel
theorem dX10_row_41 : decode cX10_row 41 = .ok (.iload_n 2, 1) := by decide +kernel
theorem dX10_row_42 : decode cX10_row 42 = .ok (.iload_n 3, 1) := by decide +kernel
set_option maxRecDepth 20000 in
theorem ggX10_row_X6_make : GoodIn wsX10_row wsX6_make := goodIn_r _ [10, 11, 12, 13, 14, 15, 3, 4, 5, 6, 27, 28, 29, 30] (by rfl) (by decide +kernel)
set_option maxRecDepth 20000 in
theorem gX10_row_X6_make : GoodIn wsX10_row (wsV RX10 400 RX6 yX6_make wsX6_make) := goodIn_app (goodIn_r _ [7, 8, 9, 5] (by rfl) (by decide +kernel)) ggX10_row_X6_make
theorem dX10_row_43 : decode cX10_row 43 = .ok (.invokevirtual 400, 3) := by decide +kernel
theorem dX10_row_46 : decode cX10_row 46 = .ok (.iconst 0, 1) := by decide +kernel
theorem dX10_row_47 : decode cX10_row 47 = .ok (.ireturn, 1) := by decide +kernel
theorem dX10_row_33 : decode cX10_row 33 = .ok (.bipush (-3), 2) := by decide +kernel
theorem dX10_row_35 : decode cX10_row 35 = .ok (.ireturn, 1) := by decide +kernel
theorem dX10_write_0 : decode cX10_write 0 = .ok (.aload_n 0, 1) := by decide +kernel
theorem dX10_write_1 : decode cX10_write 1 = .ok (.getfield 43, 3) := by decide +kernel
theorem dX10_write_4 : decode cX10_write 4 = .ok (.iload_n 1, 1) := by decide +kernel
set_option maxRecDepth 20000 in
theorem ggX10_write_X6_isSlot : GoodIn wsX10_write wsX6_isSlot := goodIn_r _ [6] (by rfl) (by decide +kernel)
set_option maxRecDepth 20000 in
theorem gX10_write_X6_isSlot : GoodIn wsX10_write (wsV RX10 397 RX6 yX6_isSlot wsX6_isSlot) := goodIn_app (goodIn_r _ [2, 3, 4, 5] (by rfl) (by decide +kernel)) ggX10_write_X6_isSlot
theorem dX10_write_5 : decode cX10_write 5 = .ok (.invokevirtual 397, 3) := by decide +kernel
theorem dX10_write_8 : decode cX10_write 8 = .ok (.ifCond .ne 6, 3) := by decide +kernel
theorem dX10_write_14 : decode cX10_write 14 = .ok (.aload_n 0, 1) := by decide +kernel
theorem dX10_write_15 : decode cX10_write 15 = .ok (.getfield 43, 3) := by decide +kernel
theorem dX10_write_18 : decode cX10_write 18 = .ok (.iload_n 1, 1) := by decide +kernel
set_option maxRecDepth 20000 in
theorem ggX10_write_X6_isKept : GoodIn wsX10_write wsX6_isKept := goodIn_r _ [10, 11, 12, 3, 4, 5, 6, 13, 14, 15, 46, 47, 48, 49] (by rfl) (by decide +kernel)
set_option maxRecDepth 20000 in
theorem gX10_write_X6_isKept : GoodIn wsX10_write (wsV RX10 404 RX6 yX6_isKept wsX6_isKept) := goodIn_app (goodIn_r _ [7, 8, 9, 5] (by rfl) (by decide +kernel)) ggX10_write_X6_isKept
theorem dX10_write_19 : decode cX10_write 19 = .ok (.invokevirtual 404, 3) := by decide +kernel
theorem dX10_write_22 : decode cX10_write 22 = .ok (.ifCond .ne 6, 3) := by decide +kernel
theorem dX10_write_28 : decode cX10_write 28 = .ok (.aload_n 0, 1) := by decide +kernel
theorem dX10_write_29 : decode cX10_write 29 = .ok (.getfield 43, 3) := by decide +kernel
theorem dX10_write_32 : decode cX10_write 32 = .ok (.iload_n 1, 1) := by decide +kernel
theorem dX10_write_33 : decode cX10_write 33 = .ok (.iload_n 2, 1) := by decide +kernel
theorem dX10_write_34 : decode cX10_write 34 = .ok (.iconst 1, 1) := by decide +kernel
set_option maxRecDepth 20000 in
theorem ggX10_write_X6_hasPlaces : GoodIn wsX10_write wsX6_hasPlaces := goodIn_r _ [19, 20, 21, 22, 5, 23, 24, 12, 3, 4, 6, 46, 47, 48, 49] (by rfl) (by decide +kernel)
set_option maxRecDepth 20000 in
theorem gX10_write_X6_hasPlaces : GoodIn wsX10_write (wsV RX10 407 RX6 yX6_hasPlaces wsX6_hasPlaces) := goodIn_app (goodIn_r _ [16, 17, 18, 5] (by rfl) (by decide +kernel)) ggX10_write_X6_hasPlaces
theorem dX10_write_35 : decode cX10_write 35 = .ok (.invokevirtual 407, 3) := by decide +kernel
theorem dX10_write_38 : decode cX10_write 38 = .ok (.ifCond .ne 6, 3) := by decide +kernel
theorem dX10_write_44 : decode cX10_write 44 = .ok (.aload_n 0, 1) := by decide +kernel
theorem dX10_write_45 : decode cX10_write 45 = .ok (.getfield 43, 3) := by decide +kernel
theorem dX10_write_48 : decode cX10_write 48 = .ok (.iload_n 1, 1) := by decide +kernel
theorem dX10_write_49 : decode cX10_write 49 = .ok (.iload_n 2, 1) := by decide +kernel
theorem dX10_write_50 : decode cX10_write 50 = .ok (.lload_n 3, 1) := by decide +kernel
set_option maxRecDepth 20000 in
theorem ggX10_write_X6_set : GoodIn wsX10_write wsX6_set := goodIn_r _ [28, 29, 30, 31, 17, 18, 5, 19, 20, 21, 22, 23, 24, 12, 3, 4, 6, 32, 33, 34, 46, 47, 48, 49] (by rfl) (by decide +kernel)
set_option maxRecDepth 20000 in
theorem gX10_write_X6_set : GoodIn wsX10_write (wsV RX10 411 RX6 yX6_set wsX6_set) := goodIn_app (goodIn_r _ [25, 26, 27, 5] (by rfl) (by decide +kernel)) ggX10_write_X6_set
theorem dX10_write_51 : decode cX10_write 51 = .ok (.invokevirtual 411, 3) := by decide +kernel
theorem dX10_write_54 : decode cX10_write 54 = .ok (.iconst 0, 1) := by decide +kernel
theorem dX10_write_55 : decode cX10_write 55 = .ok (.ireturn, 1) := by decide +kernel
theorem dX10_write_41 : decode cX10_write 41 = .ok (.bipush (-7), 2) := by decide +kernel
theorem dX10_write_43 : decode cX10_write 43 = .ok (.ireturn, 1) := by decide +kernel
theorem dX10_write_25 : decode cX10_write 25 = .ok (.bipush (-6), 2) := by decide +kernel
theorem dX10_write_27 : decode cX10_write 27 = .ok (.ireturn, 1) := by decide +kernel
theorem dX10_write_11 : decode cX10_write 11 = .ok (.bipush (-2), 2) := by decide +kernel
theorem dX10_write_13 : decode cX10_write 13 = .ok (.ireturn, 1) := by decide +kernel
theorem dX10_paste_0 : decode cX10_paste 0 = .ok (.aload_n 0, 1) := by decide +kernel
theorem dX10_paste_1 : decode cX10_paste 1 = .ok (.getfield 43, 3) := by decide +kernel
theorem dX10_paste_4 : decode cX10_paste 4 = .ok (.iload_n 1, 1) := by decide +kernel
set_option maxRecDepth 20000 in
theorem ggX10_paste_X6_isSlot : GoodIn wsX10_paste wsX6_isSlot := goodIn_r _ [12] (by rfl) (by decide +kernel)
set_option maxRecDepth 20000 in
theorem gX10_paste_X6_isSlot : GoodIn wsX10_paste (wsV RX10 397 RX6 yX6_isSlot wsX6_isSlot) := goodIn_app (goodIn_r _ [8, 9, 10, 11] (by rfl) (by decide +kernel)) ggX10_paste_X6_isSlot
theorem dX10_paste_5 : decode cX10_paste 5 = .ok (.invokevirtual 397, 3) := by decide +kernel
theorem dX10_paste_8 : decode cX10_paste 8 = .ok (.ifCond .eq 14, 3) := by decide +kernel
theorem dX10_paste_22 : decode cX10_paste 22 = .ok (.bipush (-2), 2) := by decide +kernel
theorem dX10_paste_24 : decode cX10_paste 24 = .ok (.ireturn, 1) := by decide +kernel
theorem dX10_paste_11 : decode cX10_paste 11 = .ok (.aload_n 0, 1) := by decide +kernel
theorem dX10_paste_12 : decode cX10_paste 12 = .ok (.getfield 43, 3) := by decide +kernel
theorem dX10_paste_15 : decode cX10_paste 15 = .ok (.iload_n 3, 1) := by decide +kernel
theorem dX10_paste_16 : decode cX10_paste 16 = .ok (.invokevirtual 397, 3) := by decide +kernel
theorem dX10_paste_19 : decode cX10_paste 19 = .ok (.ifCond .ne 6, 3) := by decide +kernel
theorem dX10_paste_25 : decode cX10_paste 25 = .ok (.aload_n 0, 1) := by decide +kernel
theorem dX10_paste_26 : decode cX10_paste 26 = .ok (.getfield 43, 3) := by decide +kernel
theorem dX10_paste_29 : decode cX10_paste 29 = .ok (.iload_n 1, 1) := by decide +kernel
set_option maxRecDepth 20000 in
theorem ggX10_paste_X6_isKept : GoodIn wsX10_paste wsX6_isKept := goodIn_r _ [16, 17, 18, 9, 10, 11, 12, 19, 20, 21, 42, 43, 44, 45] (by rfl) (by decide +kernel)
set_option maxRecDepth 20000 in
theorem gX10_paste_X6_isKept : GoodIn wsX10_paste (wsV RX10 404 RX6 yX6_isKept wsX6_isKept) := goodIn_app (goodIn_r _ [13, 14, 15, 11] (by rfl) (by decide +kernel)) ggX10_paste_X6_isKept
theorem dX10_paste_30 : decode cX10_paste 30 = .ok (.invokevirtual 404, 3) := by decide +kernel
theorem dX10_paste_33 : decode cX10_paste 33 = .ok (.ifCond .eq 14, 3) := by decide +kernel
theorem dX10_paste_47 : decode cX10_paste 47 = .ok (.bipush (-6), 2) := by decide +kernel
theorem dX10_paste_49 : decode cX10_paste 49 = .ok (.ireturn, 1) := by decide +kernel
theorem dX10_paste_36 : decode cX10_paste 36 = .ok (.aload_n 0, 1) := by decide +kernel
theorem dX10_paste_37 : decode cX10_paste 37 = .ok (.getfield 43, 3) := by decide +kernel
theorem dX10_paste_40 : decode cX10_paste 40 = .ok (.iload_n 3, 1) := by decide +kernel
theorem dX10_paste_41 : decode cX10_paste 41 = .ok (.invokevirtual 404, 3) := by decide +kernel
theorem dX10_paste_44 : decode cX10_paste 44 = .ok (.ifCond .ne 6, 3) := by decide +kernel
theorem dX10_paste_50 : decode cX10_paste 50 = .ok (.aload_n 0, 1) := by decide +kernel
theorem dX10_paste_51 : decode cX10_paste 51 = .ok (.getfield 43, 3) := by decide +kernel
theorem dX10_paste_54 : decode cX10_paste 54 = .ok (.getfield 415, 3) := by decide +kernel
theorem dX10_paste_57 : decode cX10_paste 57 = .ok (.iload_n 1, 1) := by decide +kernel
theorem dX10_paste_58 : decode cX10_paste 58 = .ok (.iaload, 1) := by decide +kernel
theorem dX10_paste_59 : decode cX10_paste 59 = .ok (.aload_n 0, 1) := by decide +kernel
theorem dX10_paste_60 : decode cX10_paste 60 = .ok (.getfield 43, 3) := by decide +kernel
theorem dX10_paste_63 : decode cX10_paste 63 = .ok (.getfield 415, 3) := by decide +kernel
theorem dX10_paste_66 : decode cX10_paste 66 = .ok (.iload_n 3, 1) := by decide +kernel
theorem dX10_paste_67 : decode cX10_paste 67 = .ok (.iaload, 1) := by decide +kernel
theorem dX10_paste_68 : decode cX10_paste 68 = .ok (.if_icmp .eq 6, 3) := by decide +kernel
theorem dX10_paste_74 : decode cX10_paste 74 = .ok (.aload_n 0, 1) := by decide +kernel
theorem dX10_paste_75 : decode cX10_paste 75 = .ok (.getfield 43, 3) := by decide +kernel
theorem dX10_paste_78 : decode cX10_paste 78 = .ok (.iload_n 1, 1) := by decide +kernel
theorem dX10_paste_79 : decode cX10_paste 79 = .ok (.iload_n 2, 1) := by decide +kernel
theorem dX10_paste_80 : decode cX10_paste 80 = .ok (.iload 5, 2) := by decide +kernel
set_option maxRecDepth 20000 in
theorem ggX10_paste_X6_hasPlaces : GoodIn wsX10_paste wsX6_hasPlaces := goodIn_r _ [25, 26, 27, 28, 11, 29, 30, 18, 9, 10, 12, 42, 43, 44, 45] (by rfl) (by decide +kernel)
set_option maxRecDepth 20000 in
theorem gX10_paste_X6_hasPlaces : GoodIn wsX10_paste (wsV RX10 407 RX6 yX6_hasPlaces wsX6_hasPlaces) := goodIn_app (goodIn_r _ [22, 23, 24, 11] (by rfl) (by decide +kernel)) ggX10_paste_X6_hasPlaces
theorem dX10_paste_82 : decode cX10_paste 82 = .ok (.invokevirtual 407, 3) := by decide +kernel
theorem dX10_paste_85 : decode cX10_paste 85 = .ok (.ifCond .eq 18, 3) := by decide +kernel
theorem dX10_paste_103 : decode cX10_paste 103 = .ok (.bipush (-7), 2) := by decide +kernel
theorem dX10_paste_105 : decode cX10_paste 105 = .ok (.ireturn, 1) := by decide +kernel
theorem dX10_paste_88 : decode cX10_paste 88 = .ok (.aload_n 0, 1) := by decide +kernel
theorem dX10_paste_89 : decode cX10_paste 89 = .ok (.getfield 43, 3) := by decide +kernel
theorem dX10_paste_92 : decode cX10_paste 92 = .ok (.iload_n 3, 1) := by decide +kernel
theorem dX10_paste_93 : decode cX10_paste 93 = .ok (.iload 4, 2) := by decide +kernel
theorem dX10_paste_95 : decode cX10_paste 95 = .ok (.iload 5, 2) := by decide +kernel
theorem dX10_paste_97 : decode cX10_paste 97 = .ok (.invokevirtual 407, 3) := by decide +kernel
theorem dX10_paste_100 : decode cX10_paste 100 = .ok (.ifCond .ne 6, 3) := by decide +kernel
theorem dX10_paste_106 : decode cX10_paste 106 = .ok (.aload_n 0, 1) := by decide +kernel
theorem dX10_paste_107 : decode cX10_paste 107 = .ok (.getfield 43, 3) := by decide +kernel
theorem dX10_paste_110 : decode cX10_paste 110 = .ok (.getfield 418, 3) := by decide +kernel
theorem dX10_paste_113 : decode cX10_paste 113 = .ok (.iload_n 1, 1) := by decide +kernel
theorem dX10_paste_114 : decode cX10_paste 114 = .ok (.aaload, 1) := by decide +kernel
theorem dX10_paste_115 : decode cX10_paste 115 = .ok (.iload_n 2, 1) := by decide +kernel
theorem dX10_paste_116 : decode cX10_paste 116 = .ok (.aload_n 0, 1) := by decide +kernel
theorem dX10_paste_117 : decode cX10_paste 117 = .ok (.getfield 43, 3) := by decide +kernel
theorem dX10_paste_120 : decode cX10_paste 120 = .ok (.getfield 418, 3) := by decide +kernel
theorem dX10_paste_123 : decode cX10_paste 123 = .ok (.iload_n 3, 1) := by decide +kernel
theorem dX10_paste_124 : decode cX10_paste 124 = .ok (.aaload, 1) := by decide +kernel
theorem dX10_paste_125 : decode cX10_paste 125 = .ok (.iload 4, 2) := by decide +kernel
theorem dX10_paste_127 : decode cX10_paste 127 = .ok (.iload 5, 2) := by decide +kernel
theorem dX10_paste_129 : decode cX10_paste 129 = .ok (.invokestatic 422, 3) := by decide +kernel
theorem dX10_paste_132 : decode cX10_paste 132 = .ok (.iconst 0, 1) := by decide +kernel
theorem dX10_paste_133 : decode cX10_paste 133 = .ok (.ireturn, 1) := by decide +kernel
theorem dX10_paste_71 : decode cX10_paste 71 = .ok (.bipush (-8), 2) := by decide +kernel
theorem dX10_paste_73 : decode cX10_paste 73 = .ok (.ireturn, 1) := by decide +kernel
set_option maxHeartbeats 4000000 in
set_option maxRecDepth 100000 in
theorem a_X10_suspects (l : Launch) (G : va_G) (ct : Nat → ClassId) (a0 : Nat) (a1 : Nat) (a3 : Nat) (a11 : Nat) (a25 : Nat) (a68 : Nat) (a69 : Nat) (a77 : Nat) (a82 : Nat) (a84 : Nat) (a88 : Nat) (a91 : Nat) (a12 : Nat) (a19 : Nat) (a24 : Nat) (n11_3 : Int32) (a13 : Nat) (a15 : Nat) (a16 : Nat) (a17 : Nat) (a18 : Nat) (n12_5 : Int32) (n12_6 : Int32) (a14 : Nat) (n13_1 : Int32) (f17 : Nat → Int32) (a70 : Nat) (a75 : Nat) (a76 : Nat) (n69_3 : Int32) (rr : Nat → Nat) (f71 : Nat → Int64) (f72 : Nat → Int64) (f73 : Nat → Int64) (f74 : Nat → Int64) (f76 : Nat → Int32) (p0 : Int32) (hp_n13_1 : rg 0 8 n13_1) (hp_f76 : ar 0 60 f76) : Met l yX10_suspects wsX10_suspects ({ frames := 5, cells := 0, slots := 0, locals := 112 }) (va_Pc [.ref a0, .int p0] (roP G ct [(a0, .inr (10, [.ref a1, .ref a3, .ref a11, .ref a25, .ref a68, .ref a69, .ref a77, .ref a82, .ref a84, .ref a88, .ref a91])), (a11, .inr (4, [.ref a12, .ref a19, .ref a24, .int n11_3])), (a12, .inr (9, [.ref a13, .ref a15, .ref a16, .ref a17, .ref a18, .int n12_5, .int n12_6])), (a13, .inr (0, [.ref a14, .int n13_1])), (a17, .inl (ct 0, 8, .inl f17)), (a69, .inr (6, [.ref a70, .ref a75, .ref a76, .int n69_3])), (a70, .inl (ct 5, 4, .inr (.inr (.inr (.inr (fun i => if i < 4 then some (rr i) else none)))))), ((rr 0), .inl (ct 3, 60, .inr (.inl f71))), ((rr 1), .inl (ct 3, 60, .inr (.inl f72))), ((rr 2), .inl (ct 3, 60, .inr (.inl f73))), ((rr 3), .inl (ct 3, 60, .inr (.inl f74))), (a76, .inl (ct 0, 4, .inl f76))])) (roQ (fun r => rg (-6) 255 r ∧ (r = 0 → rg 0 3 p0) ∧ (¬ r = (-2) → rg 0 3 p0) ∧ (r = 0 → rg 1 2147483647 n12_5) ∧ (¬ r = (-2) → rg 1 2147483647 n12_5) ∧ True)) 0 0 no := by
  refine Met.ofW (cc := cX10_suspects) (maxL := 3) (ret := (some .int)) (by decide) rfl ?_
  intro p e s m args below meth c s₁ B hml hv
  obtain ⟨rfl, hP, hK⟩ := hv
  have hx := B.exec
  have hb := B.bytes
  have hr := B.returns
  have hts := atoms_spec (ws := wsX10_suspects) B.pre
  have hown : s.vm.findClass RX10 = some m.cls := findClass_of_methodNamed B.named
  have hlocks := B.notSynchronized
  have hS : va_S no s.heap s.heap [] := va_S.rf
  have hl := lv_entry ([.ref a0, .int p0]) (n := 3) (Nat.le_of_ble_eq_true rfl)
  rw [lg_entry_eq]
  generalize (lg_sl ([.ref a0, .int p0]) ++ List.replicate (3 - (lg_sl ([.ref a0, .int p0])).length) Slot.unset).toArray = ls at hl ⊢
  have hl : lv_has ls 3 [(0, .ref a0), (1, .int p0)] := hl
  refine lv_aload_n hx hb dX10_suspects_0 rfl (lv_at hl 0 rfl) ?_
  refine lv_iload_n hx hb dX10_suspects_1 rfl (lv_at hl 1 rfl) ?_
  refine ro_calli (va_runV (As := [.int p0]) (rest := []) ⟨hx, hb, hml, hown, hts⟩ (a_X10_deedRowState l G ct a0 a1 a3 a11 a25 a68 a69 a77 a82 a84 a88 a91 a12 a19 a24 n11_3 a13 a15 a16 a17 a18 n12_5 n12_6 a70 a75 a76 n69_3 rr f71 f72 f73 f74 f76 p0 hp_f76) (cwV 1 hts gX10_suspects_X10_deedRowState rfl rfl rfl (by decide +kernel) ⟨Nat.le_of_ble_eq_true rfl, Nat.le_of_ble_eq_true rfl⟩) (ro_preV 10 0 hK (hP.sub [0, 1, 2, 5, 6, 7, 8, 9, 10, 11] rfl) rfl rfl) rfl rfl hl.1 rfl (lv_room (Nat.le_of_ble_eq_true rfl)) dX10_suspects_2 ⟨Nat.zero_le _, Nat.zero_le _⟩) hS hP (fun r2 H locs wr2 hP hS => ?_)
  obtain ⟨p_1, p_2, p_3, p_4, p_5, -⟩ := wr2
  refine lv_istore_n (lv' := [(2, .int r2), (0, .ref a0), (1, .int p0)]) hx hb dX10_suspects_5 rfl hl (by decide) rfl (fun ls hl => ?_)
  refine lv_iload_n hx hb dX10_suspects_6 rfl (lv_at hl 0 rfl) ?_
  refine lv_if_eq (tgt := 14) hx hb dX10_suspects_7 (by decide) (fun c7 => ?_) (fun c7 => ?_)
  · have h_6 : rg 0 0 r2 := r_eq_l_i (e := 0) (f := 0) c7 p_1 (rgn 0 (x := 0) (by decide)) (by decide)
    have h_7 : rg 0 3 p0 := (p_2 (req h_6 (y := 0) (by decide)))
    have h_8 : rg 1 2147483647 n12_5 := (p_4 (req h_6 (y := 0) (by decide)))
    refine lv_aload_n hx hb dX10_suspects_14 rfl (lv_at hl 1 rfl) ?_
    refine va_get (D := G) (ci := 10) (v := .ref a11) (C := RX10) (T := TX10) (N := 11) hx hb hts (by decide +kernel) hown hK.1 hP 0 rfl rfl 2 (by decide) (hts (.fieldLink RX10 28 "CardHolder" "play" "LCardHolder$Play;") (by decide +kernel)) (fun _ h9 => h9) rfl dX10_suspects_15 ?_
    refine va_get (D := G) (ci := 4) (v := .ref a12) (C := RX4) (T := TX4) (N := 4) hx hb hts (by decide +kernel) hown hK.1 hP 1 rfl rfl 0 (by decide) (hts (.fieldLink RX10 49 "CardHolder$Play" "town" "LCardHolder$Town;") (by decide +kernel)) (fun _ h9 => h9) rfl dX10_suspects_18 ?_
    refine lv_aload_n hx hb dX10_suspects_21 rfl (lv_at hl 1 rfl) ?_
    refine va_get (D := G) (ci := 10) (v := .ref a69) (C := RX10) (T := TX10) (N := 11) hx hb hts (by decide +kernel) hown hK.1 hP 0 rfl rfl 5 (by decide) (hts (.fieldLink RX10 43 "CardHolder" "rows" "LCardHolder$Rows;") (by decide +kernel)) (fun _ h9 => h9) rfl dX10_suspects_22 ?_
    refine lv_iload_n hx hb dX10_suspects_25 rfl (lv_at hl 2 rfl) ?_
    refine ro_calli (va_runV (As := [.int p0]) (rest := [.ref a12]) ⟨hx, hb, hml, hown, hts⟩ (a_X6_bitsOf l G ct a69 a70 a75 a76 n69_3 rr f71 f72 f73 f74 f76 p0 hp_f76) (cwV 1 hts gX10_suspects_X6_bitsOf rfl rfl rfl (by decide +kernel) ⟨Nat.le_of_ble_eq_true rfl, Nat.le_of_ble_eq_true rfl⟩) (ro_preV 6 0 hK (hP.sub [5, 6, 7, 8, 9, 10, 11] rfl) rfl rfl) rfl rfl hl.1 rfl (lv_room (Nat.le_of_ble_eq_true rfl)) dX10_suspects_26 ⟨Nat.zero_le _, Nat.zero_le _⟩) hS hP (fun r26 H locs wr26 hP hS => ?_)
    refine ro_calli (va_runV (As := [.int r26]) (rest := []) ⟨hx, hb, hml, hown, hts⟩ (a_X9_wishersOf l G ct a12 a13 a15 a16 a17 a18 n12_5 n12_6 a14 n13_1 f17 r26 hp_n13_1) (cwV 1 hts gX10_suspects_X9_wishersOf rfl rfl rfl (by decide +kernel) ⟨Nat.le_of_ble_eq_true rfl, Nat.le_of_ble_eq_true rfl⟩) (ro_preV 9 0 hK (hP.sub [2, 3, 4] rfl) rfl rfl) rfl rfl hl.1 rfl (lv_room (Nat.le_of_ble_eq_true rfl)) dX10_suspects_29 ⟨Nat.zero_le _, Nat.zero_le _⟩) hS hP (fun r29 H locs wr29 hP hS => ?_)
    obtain ⟨p_9, -⟩ := wr29
    exact W.iret (v := r29) hx hb hr (fun t ht hW => ⟨⟨r29, (), rfl, ⟨(rg_w (c := (-6)) (d := 255) p_9 (by decide)), (fun _ => h_7), (fun _ => h_7), (fun _ => h_8), (fun _ => h_8), trivial⟩, trivial⟩, hS.F ht⟩) hS.2.2 dX10_suspects_32
  · have h_10 : rg (-6) (-1) r2 := r_ne_hi_i c7 p_1 (by decide) (by decide)
    refine lv_iload_n hx hb dX10_suspects_10 rfl (lv_at hl 0 rfl) ?_
    refine lv_goto (tgt := 32) hx hb dX10_suspects_11 (by decide) ?_
    exact W.iret (v := r2) hx hb hr (fun t ht hW => ⟨⟨r2, (), rfl, ⟨(rg_w (c := (-6)) (d := 255) h_10 (by decide)), (fun hq => rg_w (p_2 hq) (by decide)), (fun hq => rg_w (p_3 hq) (by decide)), (fun hq => rg_w (p_4 hq) (by decide)), (fun hq => rg_w (p_5 hq) (by decide)), trivial⟩, trivial⟩, hS.F ht⟩) hS.2.2 dX10_suspects_32

set_option maxHeartbeats 4000000 in
set_option maxRecDepth 100000 in
theorem a_X10_watch (l : Launch) (G : va_G) (ct : Nat → ClassId) (a0 : Nat) (a1 : Nat) (a3 : Nat) (a11 : Nat) (a25 : Nat) (a68 : Nat) (a69 : Nat) (a77 : Nat) (a82 : Nat) (a84 : Nat) (a88 : Nat) (a91 : Nat) (a12 : Nat) (a19 : Nat) (a24 : Nat) (n11_3 : Int32) (a13 : Nat) (a15 : Nat) (a16 : Nat) (a17 : Nat) (a18 : Nat) (n12_5 : Int32) (n12_6 : Int32) (a14 : Nat) (n13_1 : Int32) (f17 : Nat → Int32) (a70 : Nat) (a75 : Nat) (a76 : Nat) (n69_3 : Int32) (rr : Nat → Nat) (f71 : Nat → Int64) (f72 : Nat → Int64) (f73 : Nat → Int64) (f74 : Nat → Int64) (f76 : Nat → Int32) (p0 : Int32) (hp_n13_1 : rg 0 8 n13_1) (hp_f76 : ar 0 60 f76) : Met l yX10_watch wsX10_watch ({ frames := 5, cells := 0, slots := 0, locals := 113 }) (va_Pc [.ref a0, .int p0] (roP G ct [(a0, .inr (10, [.ref a1, .ref a3, .ref a11, .ref a25, .ref a68, .ref a69, .ref a77, .ref a82, .ref a84, .ref a88, .ref a91])), (a11, .inr (4, [.ref a12, .ref a19, .ref a24, .int n11_3])), (a12, .inr (9, [.ref a13, .ref a15, .ref a16, .ref a17, .ref a18, .int n12_5, .int n12_6])), (a13, .inr (0, [.ref a14, .int n13_1])), (a17, .inl (ct 0, 8, .inl f17)), (a69, .inr (6, [.ref a70, .ref a75, .ref a76, .int n69_3])), (a70, .inl (ct 5, 4, .inr (.inr (.inr (.inr (fun i => if i < 4 then some (rr i) else none)))))), ((rr 0), .inl (ct 3, 60, .inr (.inl f71))), ((rr 1), .inl (ct 3, 60, .inr (.inl f72))), ((rr 2), .inl (ct 3, 60, .inr (.inl f73))), ((rr 3), .inl (ct 3, 60, .inr (.inl f74))), (a76, .inl (ct 0, 4, .inl f76))])) (roQ (fun r => rg (-6) 5 r ∧ (r = 0 → rg 0 3 p0) ∧ (¬ r = (-2) → rg 0 3 p0) ∧ (r = 0 → rg 1 2147483647 n12_5) ∧ (¬ r = (-2) → rg 1 2147483647 n12_5) ∧ True)) 0 0 no := by
  refine Met.ofW (cc := cX10_watch) (maxL := 4) (ret := (some .int)) (by decide) rfl ?_
  intro p e s m args below meth c s₁ B hml hv
  obtain ⟨rfl, hP, hK⟩ := hv
  have hx := B.exec
  have hb := B.bytes
  have hr := B.returns
  have hts := atoms_spec (ws := wsX10_watch) B.pre
  have hown : s.vm.findClass RX10 = some m.cls := findClass_of_methodNamed B.named
  have hlocks := B.notSynchronized
  have hS : va_S no s.heap s.heap [] := va_S.rf
  have hl := lv_entry ([.ref a0, .int p0]) (n := 4) (Nat.le_of_ble_eq_true rfl)
  rw [lg_entry_eq]
  generalize (lg_sl ([.ref a0, .int p0]) ++ List.replicate (4 - (lg_sl ([.ref a0, .int p0])).length) Slot.unset).toArray = ls at hl ⊢
  have hl : lv_has ls 4 [(0, .ref a0), (1, .int p0)] := hl
  refine lv_aload_n hx hb dX10_watch_0 rfl (lv_at hl 0 rfl) ?_
  refine lv_iload_n hx hb dX10_watch_1 rfl (lv_at hl 1 rfl) ?_
  refine ro_calli (va_runV (As := [.int p0]) (rest := []) ⟨hx, hb, hml, hown, hts⟩ (a_X10_deedRowState l G ct a0 a1 a3 a11 a25 a68 a69 a77 a82 a84 a88 a91 a12 a19 a24 n11_3 a13 a15 a16 a17 a18 n12_5 n12_6 a70 a75 a76 n69_3 rr f71 f72 f73 f74 f76 p0 hp_f76) (cwV 1 hts gX10_watch_X10_deedRowState rfl rfl rfl (by decide +kernel) ⟨Nat.le_of_ble_eq_true rfl, Nat.le_of_ble_eq_true rfl⟩) (ro_preV 10 0 hK (hP.sub [0, 1, 2, 5, 6, 7, 8, 9, 10, 11] rfl) rfl rfl) rfl rfl hl.1 rfl (lv_room (Nat.le_of_ble_eq_true rfl)) dX10_watch_2 ⟨Nat.zero_le _, Nat.zero_le _⟩) hS hP (fun r2 H locs wr2 hP hS => ?_)
  obtain ⟨p_1, p_2, p_3, p_4, p_5, -⟩ := wr2
  refine lv_istore_n (lv' := [(2, .int r2), (0, .ref a0), (1, .int p0)]) hx hb dX10_watch_5 rfl hl (by decide) rfl (fun ls hl => ?_)
  refine lv_iload_n hx hb dX10_watch_6 rfl (lv_at hl 0 rfl) ?_
  refine lv_if_eq (tgt := 12) hx hb dX10_watch_7 (by decide) (fun c7 => ?_) (fun c7 => ?_)
  · have h_6 : rg 0 0 r2 := r_eq_l_i (e := 0) (f := 0) c7 p_1 (rgn 0 (x := 0) (by decide)) (by decide)
    have h_7 : rg 0 3 p0 := (p_2 (req h_6 (y := 0) (by decide)))
    have h_8 : rg 1 2147483647 n12_5 := (p_4 (req h_6 (y := 0) (by decide)))
    refine lv_aload_n hx hb dX10_watch_12 rfl (lv_at hl 1 rfl) ?_
    refine va_get (D := G) (ci := 10) (v := .ref a11) (C := RX10) (T := TX10) (N := 11) hx hb hts (by decide +kernel) hown hK.1 hP 0 rfl rfl 2 (by decide) (hts (.fieldLink RX10 28 "CardHolder" "play" "LCardHolder$Play;") (by decide +kernel)) (fun _ h9 => h9) rfl dX10_watch_13 ?_
    refine va_get (D := G) (ci := 4) (v := .ref a12) (C := RX4) (T := TX4) (N := 4) hx hb hts (by decide +kernel) hown hK.1 hP 1 rfl rfl 0 (by decide) (hts (.fieldLink RX10 49 "CardHolder$Play" "town" "LCardHolder$Town;") (by decide +kernel)) (fun _ h9 => h9) rfl dX10_watch_16 ?_
    refine lv_aload_n hx hb dX10_watch_19 rfl (lv_at hl 1 rfl) ?_
    refine va_get (D := G) (ci := 10) (v := .ref a69) (C := RX10) (T := TX10) (N := 11) hx hb hts (by decide +kernel) hown hK.1 hP 0 rfl rfl 5 (by decide) (hts (.fieldLink RX10 43 "CardHolder" "rows" "LCardHolder$Rows;") (by decide +kernel)) (fun _ h9 => h9) rfl dX10_watch_20 ?_
    refine lv_iload_n hx hb dX10_watch_23 rfl (lv_at hl 2 rfl) ?_
    refine ro_calli (va_runV (As := [.int p0]) (rest := [.ref a12]) ⟨hx, hb, hml, hown, hts⟩ (a_X6_bitsOf l G ct a69 a70 a75 a76 n69_3 rr f71 f72 f73 f74 f76 p0 hp_f76) (cwV 1 hts gX10_watch_X6_bitsOf rfl rfl rfl (by decide +kernel) ⟨Nat.le_of_ble_eq_true rfl, Nat.le_of_ble_eq_true rfl⟩) (ro_preV 6 0 hK (hP.sub [5, 6, 7, 8, 9, 10, 11] rfl) rfl rfl) rfl rfl hl.1 rfl (lv_room (Nat.le_of_ble_eq_true rfl)) dX10_watch_24 ⟨Nat.zero_le _, Nat.zero_le _⟩) hS hP (fun r24 H locs wr24 hP hS => ?_)
    refine ro_calli (va_runV (As := [.int r24]) (rest := []) ⟨hx, hb, hml, hown, hts⟩ (a_X9_wishersOf l G ct a12 a13 a15 a16 a17 a18 n12_5 n12_6 a14 n13_1 f17 r24 hp_n13_1) (cwV 1 hts gX10_watch_X9_wishersOf rfl rfl rfl (by decide +kernel) ⟨Nat.le_of_ble_eq_true rfl, Nat.le_of_ble_eq_true rfl⟩) (ro_preV 9 0 hK (hP.sub [2, 3, 4] rfl) rfl rfl) rfl rfl hl.1 rfl (lv_room (Nat.le_of_ble_eq_true rfl)) dX10_watch_27 ⟨Nat.zero_le _, Nat.zero_le _⟩) hS hP (fun r27 H locs wr27 hP hS => ?_)
    obtain ⟨p_9, -⟩ := wr27
    refine lv_istore_n (lv' := [(3, .int r27), (2, .int r2), (0, .ref a0), (1, .int p0)]) hx hb dX10_watch_30 rfl hl (by decide) rfl (fun ls hl => ?_)
    refine lv_aload_n hx hb dX10_watch_31 rfl (lv_at hl 2 rfl) ?_
    refine va_get (D := G) (ci := 10) (v := .ref a11) (C := RX10) (T := TX10) (N := 11) hx hb hts (by decide +kernel) hown hK.1 hP 0 rfl rfl 2 (by decide) (hts (.fieldLink RX10 28 "CardHolder" "play" "LCardHolder$Play;") (by decide +kernel)) (fun _ h9 => h9) rfl dX10_watch_32 ?_
    refine va_get (D := G) (ci := 4) (v := .ref a12) (C := RX4) (T := TX4) (N := 4) hx hb hts (by decide +kernel) hown hK.1 hP 1 rfl rfl 0 (by decide) (hts (.fieldLink RX10 49 "CardHolder$Play" "town" "LCardHolder$Town;") (by decide +kernel)) (fun _ h9 => h9) rfl dX10_watch_35 ?_
    refine lv_iload_n hx hb dX10_watch_38 rfl (lv_at hl 0 rfl) ?_
    refine ro_calli (va_runV (As := [.int r27]) (rest := []) ⟨hx, hb, hml, hown, hts⟩ (a_X9_tellingDeed l G ct a12 a13 a15 a16 a17 a18 n12_5 n12_6 a14 n13_1 f17 r27 hp_n13_1) (cwV 1 hts gX10_watch_X9_tellingDeed rfl rfl rfl (by decide +kernel) ⟨Nat.le_of_ble_eq_true rfl, Nat.le_of_ble_eq_true rfl⟩) (ro_preV 9 0 hK (hP.sub [2, 3, 4] rfl) rfl rfl) rfl rfl hl.1 rfl (lv_room (Nat.le_of_ble_eq_true rfl)) dX10_watch_39 ⟨Nat.zero_le _, Nat.zero_le _⟩) hS hP (fun r39 H locs wr39 hP hS => ?_)
    obtain ⟨p_10, -⟩ := wr39
    exact W.iret (v := r39) hx hb hr (fun t ht hW => ⟨⟨r39, (), rfl, ⟨(rg_w (c := (-6)) (d := 5) p_10 (by decide)), (fun _ => h_7), (fun _ => h_7), (fun _ => h_8), (fun _ => h_8), trivial⟩, trivial⟩, hS.F ht⟩) hS.2.2 dX10_watch_42
  · have h_11 : rg (-6) (-1) r2 := r_ne_hi_i c7 p_1 (by decide) (by decide)
    refine lv_iload_n hx hb dX10_watch_10 rfl (lv_at hl 0 rfl) ?_
    exact W.iret (v := r2) hx hb hr (fun t ht hW => ⟨⟨r2, (), rfl, ⟨(rg_w (c := (-6)) (d := 5) h_11 (by decide)), (fun hq => rg_w (p_2 hq) (by decide)), (fun hq => rg_w (p_3 hq) (by decide)), (fun hq => rg_w (p_4 hq) (by decide)), (fun hq => rg_w (p_5 hq) (by decide)), trivial⟩, trivial⟩, hS.F ht⟩) hS.2.2 dX10_watch_11

set_option maxHeartbeats 4000000 in
set_option maxRecDepth 100000 in
theorem a_X10_leaves (l : Launch) (G : va_G) (ct : Nat → ClassId) (a0 : Nat) (a1 : Nat) (a3 : Nat) (a11 : Nat) (a25 : Nat) (a68 : Nat) (a69 : Nat) (a77 : Nat) (a82 : Nat) (a84 : Nat) (a88 : Nat) (a91 : Nat) (a12 : Nat) (a19 : Nat) (a24 : Nat) (n11_3 : Int32) (a13 : Nat) (a15 : Nat) (a16 : Nat) (a17 : Nat) (a18 : Nat) (n12_5 : Int32) (n12_6 : Int32) (a14 : Nat) (n13_1 : Int32) (f17 : Nat → Int32) (a70 : Nat) (a75 : Nat) (a76 : Nat) (n69_3 : Int32) (rr : Nat → Nat) (f71 : Nat → Int64) (f72 : Nat → Int64) (f73 : Nat → Int64) (f74 : Nat → Int64) (f76 : Nat → Int32) (p0 : Int32) (hp_n13_1 : rg 0 8 n13_1) (hp_f76 : ar 0 60 f76) : Met l yX10_leaves wsX10_leaves ({ frames := 5, cells := 0, slots := 0, locals := 113 }) (va_Pc [.ref a0, .int p0] (roP G ct [(a0, .inr (10, [.ref a1, .ref a3, .ref a11, .ref a25, .ref a68, .ref a69, .ref a77, .ref a82, .ref a84, .ref a88, .ref a91])), (a11, .inr (4, [.ref a12, .ref a19, .ref a24, .int n11_3])), (a12, .inr (9, [.ref a13, .ref a15, .ref a16, .ref a17, .ref a18, .int n12_5, .int n12_6])), (a13, .inr (0, [.ref a14, .int n13_1])), (a17, .inl (ct 0, 8, .inl f17)), (a69, .inr (6, [.ref a70, .ref a75, .ref a76, .int n69_3])), (a70, .inl (ct 5, 4, .inr (.inr (.inr (.inr (fun i => if i < 4 then some (rr i) else none)))))), ((rr 0), .inl (ct 3, 60, .inr (.inl f71))), ((rr 1), .inl (ct 3, 60, .inr (.inl f72))), ((rr 2), .inl (ct 3, 60, .inr (.inl f73))), ((rr 3), .inl (ct 3, 60, .inr (.inl f74))), (a76, .inl (ct 0, 4, .inl f76))])) (roQ (fun r => rg (-6) 63 r ∧ (r = 0 → rg 0 3 p0) ∧ (¬ r = (-2) → rg 0 3 p0) ∧ (r = 0 → rg 1 2147483647 n12_5) ∧ (¬ r = (-2) → rg 1 2147483647 n12_5) ∧ True)) 0 0 no := by
  refine Met.ofW (cc := cX10_leaves) (maxL := 5) (ret := (some .int)) (by decide) rfl ?_
  intro p e s m args below meth c s₁ B hml hv
  obtain ⟨rfl, hP, hK⟩ := hv
  have hx := B.exec
  have hb := B.bytes
  have hr := B.returns
  have hts := atoms_spec (ws := wsX10_leaves) B.pre
  have hown : s.vm.findClass RX10 = some m.cls := findClass_of_methodNamed B.named
  have hlocks := B.notSynchronized
  have hS : va_S no s.heap s.heap [] := va_S.rf
  have hl := lv_entry ([.ref a0, .int p0]) (n := 5) (Nat.le_of_ble_eq_true rfl)
  rw [lg_entry_eq]
  generalize (lg_sl ([.ref a0, .int p0]) ++ List.replicate (5 - (lg_sl ([.ref a0, .int p0])).length) Slot.unset).toArray = ls at hl ⊢
  have hl : lv_has ls 5 [(0, .ref a0), (1, .int p0)] := hl
  refine lv_aload_n hx hb dX10_leaves_0 rfl (lv_at hl 0 rfl) ?_
  refine lv_iload_n hx hb dX10_leaves_1 rfl (lv_at hl 1 rfl) ?_
  refine ro_calli (va_runV (As := [.int p0]) (rest := []) ⟨hx, hb, hml, hown, hts⟩ (a_X10_deedRowState l G ct a0 a1 a3 a11 a25 a68 a69 a77 a82 a84 a88 a91 a12 a19 a24 n11_3 a13 a15 a16 a17 a18 n12_5 n12_6 a70 a75 a76 n69_3 rr f71 f72 f73 f74 f76 p0 hp_f76) (cwV 1 hts gX10_leaves_X10_deedRowState rfl rfl rfl (by decide +kernel) ⟨Nat.le_of_ble_eq_true rfl, Nat.le_of_ble_eq_true rfl⟩) (ro_preV 10 0 hK (hP.sub [0, 1, 2, 5, 6, 7, 8, 9, 10, 11] rfl) rfl rfl) rfl rfl hl.1 rfl (lv_room (Nat.le_of_ble_eq_true rfl)) dX10_leaves_2 ⟨Nat.zero_le _, Nat.zero_le _⟩) hS hP (fun r2 H locs wr2 hP hS => ?_)
  obtain ⟨p_1, p_2, p_3, p_4, p_5, -⟩ := wr2
  refine lv_istore_n (lv' := [(2, .int r2), (0, .ref a0), (1, .int p0)]) hx hb dX10_leaves_5 rfl hl (by decide) rfl (fun ls hl => ?_)
  refine lv_iload_n hx hb dX10_leaves_6 rfl (lv_at hl 0 rfl) ?_
  refine lv_if_eq (tgt := 12) hx hb dX10_leaves_7 (by decide) (fun c7 => ?_) (fun c7 => ?_)
  · have h_6 : rg 0 0 r2 := r_eq_l_i (e := 0) (f := 0) c7 p_1 (rgn 0 (x := 0) (by decide)) (by decide)
    have h_7 : rg 0 3 p0 := (p_2 (req h_6 (y := 0) (by decide)))
    have h_8 : rg 1 2147483647 n12_5 := (p_4 (req h_6 (y := 0) (by decide)))
    refine lv_aload_n hx hb dX10_leaves_12 rfl (lv_at hl 1 rfl) ?_
    refine va_get (D := G) (ci := 10) (v := .ref a11) (C := RX10) (T := TX10) (N := 11) hx hb hts (by decide +kernel) hown hK.1 hP 0 rfl rfl 2 (by decide) (hts (.fieldLink RX10 28 "CardHolder" "play" "LCardHolder$Play;") (by decide +kernel)) (fun _ h9 => h9) rfl dX10_leaves_13 ?_
    refine va_get (D := G) (ci := 4) (v := .ref a12) (C := RX4) (T := TX4) (N := 4) hx hb hts (by decide +kernel) hown hK.1 hP 1 rfl rfl 0 (by decide) (hts (.fieldLink RX10 49 "CardHolder$Play" "town" "LCardHolder$Town;") (by decide +kernel)) (fun _ h9 => h9) rfl dX10_leaves_16 ?_
    refine lv_aload_n hx hb dX10_leaves_19 rfl (lv_at hl 1 rfl) ?_
    refine va_get (D := G) (ci := 10) (v := .ref a69) (C := RX10) (T := TX10) (N := 11) hx hb hts (by decide +kernel) hown hK.1 hP 0 rfl rfl 5 (by decide) (hts (.fieldLink RX10 43 "CardHolder" "rows" "LCardHolder$Rows;") (by decide +kernel)) (fun _ h9 => h9) rfl dX10_leaves_20 ?_
    refine lv_iload_n hx hb dX10_leaves_23 rfl (lv_at hl 2 rfl) ?_
    refine ro_calli (va_runV (As := [.int p0]) (rest := [.ref a12]) ⟨hx, hb, hml, hown, hts⟩ (a_X6_bitsOf l G ct a69 a70 a75 a76 n69_3 rr f71 f72 f73 f74 f76 p0 hp_f76) (cwV 1 hts gX10_leaves_X6_bitsOf rfl rfl rfl (by decide +kernel) ⟨Nat.le_of_ble_eq_true rfl, Nat.le_of_ble_eq_true rfl⟩) (ro_preV 6 0 hK (hP.sub [5, 6, 7, 8, 9, 10, 11] rfl) rfl rfl) rfl rfl hl.1 rfl (lv_room (Nat.le_of_ble_eq_true rfl)) dX10_leaves_24 ⟨Nat.zero_le _, Nat.zero_le _⟩) hS hP (fun r24 H locs wr24 hP hS => ?_)
    refine ro_calli (va_runV (As := [.int r24]) (rest := []) ⟨hx, hb, hml, hown, hts⟩ (a_X9_wishersOf l G ct a12 a13 a15 a16 a17 a18 n12_5 n12_6 a14 n13_1 f17 r24 hp_n13_1) (cwV 1 hts gX10_leaves_X9_wishersOf rfl rfl rfl (by decide +kernel) ⟨Nat.le_of_ble_eq_true rfl, Nat.le_of_ble_eq_true rfl⟩) (ro_preV 9 0 hK (hP.sub [2, 3, 4] rfl) rfl rfl) rfl rfl hl.1 rfl (lv_room (Nat.le_of_ble_eq_true rfl)) dX10_leaves_27 ⟨Nat.zero_le _, Nat.zero_le _⟩) hS hP (fun r27 H locs wr27 hP hS => ?_)
    obtain ⟨p_9, -⟩ := wr27
    refine lv_istore_n (lv' := [(3, .int r27), (2, .int r2), (0, .ref a0), (1, .int p0)]) hx hb dX10_leaves_30 rfl hl (by decide) rfl (fun ls hl => ?_)
    refine lv_aload_n hx hb dX10_leaves_31 rfl (lv_at hl 2 rfl) ?_
    refine va_get (D := G) (ci := 10) (v := .ref a11) (C := RX10) (T := TX10) (N := 11) hx hb hts (by decide +kernel) hown hK.1 hP 0 rfl rfl 2 (by decide) (hts (.fieldLink RX10 28 "CardHolder" "play" "LCardHolder$Play;") (by decide +kernel)) (fun _ h9 => h9) rfl dX10_leaves_32 ?_
    refine va_get (D := G) (ci := 4) (v := .ref a12) (C := RX4) (T := TX4) (N := 4) hx hb hts (by decide +kernel) hown hK.1 hP 1 rfl rfl 0 (by decide) (hts (.fieldLink RX10 49 "CardHolder$Play" "town" "LCardHolder$Town;") (by decide +kernel)) (fun _ h9 => h9) rfl dX10_leaves_35 ?_
    refine lv_iload_n hx hb dX10_leaves_38 rfl (lv_at hl 0 rfl) ?_
    refine ro_calli (va_runV (As := [.int r27]) (rest := []) ⟨hx, hb, hml, hown, hts⟩ (a_X9_tellingDeed l G ct a12 a13 a15 a16 a17 a18 n12_5 n12_6 a14 n13_1 f17 r27 hp_n13_1) (cwV 1 hts gX10_leaves_X9_tellingDeed rfl rfl rfl (by decide +kernel) ⟨Nat.le_of_ble_eq_true rfl, Nat.le_of_ble_eq_true rfl⟩) (ro_preV 9 0 hK (hP.sub [2, 3, 4] rfl) rfl rfl) rfl rfl hl.1 rfl (lv_room (Nat.le_of_ble_eq_true rfl)) dX10_leaves_39 ⟨Nat.zero_le _, Nat.zero_le _⟩) hS hP (fun r39 H locs wr39 hP hS => ?_)
    obtain ⟨p_10, -⟩ := wr39
    refine lv_istore (lv' := [(4, .int r39), (3, .int r27), (2, .int r2), (0, .ref a0), (1, .int p0)]) hx hb dX10_leaves_42 hl (by decide) rfl (fun ls hl => ?_)
    refine lv_iload hx hb dX10_leaves_44 (lv_at hl 0 rfl) ?_
    refine lv_iconst (v := (-1)) hx hb dX10_leaves_46 (by decide) ?_
    refine lv_icmp_ne (tgt := 57) hx hb dX10_leaves_47 (by decide) (fun c47 => ?_) (fun c47 => ?_)
    · have h_11 : rg 0 5 r39 := r_ne_lo_i c47 p_10 (by decide) (by decide)
      refine lv_aload_n hx hb dX10_leaves_57 rfl (lv_at hl 3 rfl) ?_
      refine va_get (D := G) (ci := 10) (v := .ref a11) (C := RX10) (T := TX10) (N := 11) hx hb hts (by decide +kernel) hown hK.1 hP 0 rfl rfl 2 (by decide) (hts (.fieldLink RX10 28 "CardHolder" "play" "LCardHolder$Play;") (by decide +kernel)) (fun _ h9 => h9) rfl dX10_leaves_58 ?_
      refine va_get (D := G) (ci := 4) (v := .ref a12) (C := RX4) (T := TX4) (N := 4) hx hb hts (by decide +kernel) hown hK.1 hP 1 rfl rfl 0 (by decide) (hts (.fieldLink RX10 49 "CardHolder$Play" "town" "LCardHolder$Town;") (by decide +kernel)) (fun _ h9 => h9) rfl dX10_leaves_61 ?_
      refine lv_iload_n hx hb dX10_leaves_64 rfl (lv_at hl 1 rfl) ?_
      refine lv_iload hx hb dX10_leaves_65 (lv_at hl 0 rfl) ?_
      refine ro_calli (va_runV (As := [.int r27, .int r39]) (rest := []) ⟨hx, hb, hml, hown, hts⟩ (a_X9_worstOf l G ct a12 a13 a15 a16 a17 a18 n12_5 n12_6 a14 n13_1 f17 r27 r39 hp_n13_1) (cwV 2 hts gX10_leaves_X9_worstOf rfl rfl rfl (by decide +kernel) ⟨Nat.le_of_ble_eq_true rfl, Nat.le_of_ble_eq_true rfl⟩) (ro_preV 9 0 hK (hP.sub [2, 3, 4] rfl) rfl rfl) rfl rfl hl.1 rfl (lv_room (Nat.le_of_ble_eq_true rfl)) dX10_leaves_67 ⟨Nat.zero_le _, Nat.zero_le _⟩) hS hP (fun r67 H locs wr67 hP hS => ?_)
      obtain ⟨p_12, -⟩ := wr67
      exact W.iret (v := r67) hx hb hr (fun t ht hW => ⟨⟨r67, (), rfl, ⟨(rg_w (c := (-6)) (d := 63) p_12 (by decide)), (fun _ => h_7), (fun _ => h_7), (fun _ => h_8), (fun _ => h_8), trivial⟩, trivial⟩, hS.F ht⟩) hS.2.2 dX10_leaves_70
    · have h_13 : rg (-1) (-1) r39 := r_eq_l_i (e := (-1)) (f := (-1)) c47 p_10 (rgn (-1) (x := (-1)) (by decide)) (by decide)
      refine lv_iload_n hx hb dX10_leaves_50 rfl (lv_at hl 1 rfl) ?_
      refine ro_calli (va_runS (As := [.int r27]) (rest := []) ⟨hx, hb, hml, hown, hts⟩ (a_J6_bitCount_0f7a4 l G ct r27) (va_cwS 1 hts gX10_leaves_J6_bitCount_0f7a4 rfl rfl rfl (by decide +kernel) ⟨Nat.le_of_ble_eq_true rfl, Nat.le_of_ble_eq_true rfl⟩) (ro_pre hK (hP.sub [] rfl)) rfl rfl hl.1 rfl (lv_room (Nat.le_of_ble_eq_true rfl)) dX10_leaves_51 ⟨Nat.zero_le _, Nat.zero_le _⟩) hS hP (fun r51 H locs wr51 hP hS => ?_)
      obtain ⟨p_14, -⟩ := wr51
      refine lv_goto (tgt := 70) hx hb dX10_leaves_54 (by decide) ?_
      exact W.iret (v := r51) hx hb hr (fun t ht hW => ⟨⟨r51, (), rfl, ⟨(rg_w (c := (-6)) (d := 63) p_14 (by decide)), (fun _ => h_7), (fun _ => h_7), (fun _ => h_8), (fun _ => h_8), trivial⟩, trivial⟩, hS.F ht⟩) hS.2.2 dX10_leaves_70
  · have h_15 : rg (-6) (-1) r2 := r_ne_hi_i c7 p_1 (by decide) (by decide)
    refine lv_iload_n hx hb dX10_leaves_10 rfl (lv_at hl 0 rfl) ?_
    exact W.iret (v := r2) hx hb hr (fun t ht hW => ⟨⟨r2, (), rfl, ⟨(rg_w (c := (-6)) (d := 63) h_15 (by decide)), (fun hq => rg_w (p_2 hq) (by decide)), (fun hq => rg_w (p_3 hq) (by decide)), (fun hq => rg_w (p_4 hq) (by decide)), (fun hq => rg_w (p_5 hq) (by decide)), trivial⟩, trivial⟩, hS.F ht⟩) hS.2.2 dX10_leaves_11

set_option maxHeartbeats 4000000 in
set_option maxRecDepth 100000 in
theorem a_X10_proof (l : Launch) (G : va_G) (ct : Nat → ClassId) (a0 : Nat) (a1 : Nat) (a3 : Nat) (a11 : Nat) (a25 : Nat) (a68 : Nat) (a69 : Nat) (a77 : Nat) (a82 : Nat) (a84 : Nat) (a88 : Nat) (a91 : Nat) (a12 : Nat) (a19 : Nat) (a24 : Nat) (n11_3 : Int32) (a13 : Nat) (a15 : Nat) (a16 : Nat) (a17 : Nat) (a18 : Nat) (n12_5 : Int32) (n12_6 : Int32) (a14 : Nat) (n13_1 : Int32) (f17 : Nat → Int32) (a70 : Nat) (a75 : Nat) (a76 : Nat) (n69_3 : Int32) (rr : Nat → Nat) (f71 : Nat → Int64) (f72 : Nat → Int64) (f73 : Nat → Int64) (f74 : Nat → Int64) (f76 : Nat → Int32) (p0 : Int32) (hp_n13_1 : rg 0 8 n13_1) (hp_f76 : ar 0 60 f76) : Met l yX10_proof wsX10_proof ({ frames := 5, cells := 0, slots := 0, locals := 112 }) (va_Pc [.ref a0, .int p0] (roP G ct [(a0, .inr (10, [.ref a1, .ref a3, .ref a11, .ref a25, .ref a68, .ref a69, .ref a77, .ref a82, .ref a84, .ref a88, .ref a91])), (a11, .inr (4, [.ref a12, .ref a19, .ref a24, .int n11_3])), (a12, .inr (9, [.ref a13, .ref a15, .ref a16, .ref a17, .ref a18, .int n12_5, .int n12_6])), (a13, .inr (0, [.ref a14, .int n13_1])), (a17, .inl (ct 0, 8, .inl f17)), (a69, .inr (6, [.ref a70, .ref a75, .ref a76, .int n69_3])), (a70, .inl (ct 5, 4, .inr (.inr (.inr (.inr (fun i => if i < 4 then some (rr i) else none)))))), ((rr 0), .inl (ct 3, 60, .inr (.inl f71))), ((rr 1), .inl (ct 3, 60, .inr (.inl f72))), ((rr 2), .inl (ct 3, 60, .inr (.inl f73))), ((rr 3), .inl (ct 3, 60, .inr (.inl f74))), (a76, .inl (ct 0, 4, .inl f76))])) (roQ (fun r => rg (-6) 63 r ∧ (r = 0 → rg 0 3 p0) ∧ (¬ r = (-2) → rg 0 3 p0) ∧ (r = 0 → rg 1 2147483647 n12_5) ∧ (¬ r = (-2) → rg 1 2147483647 n12_5) ∧ True)) 0 0 no := by
  refine Met.ofW (cc := cX10_proof) (maxL := 8) (ret := (some .int)) (by decide) rfl ?_
  intro p e s m args below meth c s₁ B hml hv
  obtain ⟨rfl, hP, hK⟩ := hv
  have hx := B.exec
  have hb := B.bytes
  have hr := B.returns
  have hts := atoms_spec (ws := wsX10_proof) B.pre
  have hown : s.vm.findClass RX10 = some m.cls := findClass_of_methodNamed B.named
  have hlocks := B.notSynchronized
  have hS : va_S no s.heap s.heap [] := va_S.rf
  have hl := lv_entry ([.ref a0, .int p0]) (n := 8) (Nat.le_of_ble_eq_true rfl)
  rw [lg_entry_eq]
  generalize (lg_sl ([.ref a0, .int p0]) ++ List.replicate (8 - (lg_sl ([.ref a0, .int p0])).length) Slot.unset).toArray = ls at hl ⊢
  have hl : lv_has ls 8 [(0, .ref a0), (1, .int p0)] := hl
  refine lv_aload_n hx hb dX10_proof_0 rfl (lv_at hl 0 rfl) ?_
  refine lv_iload_n hx hb dX10_proof_1 rfl (lv_at hl 1 rfl) ?_
  refine ro_calli (va_runV (As := [.int p0]) (rest := []) ⟨hx, hb, hml, hown, hts⟩ (a_X10_deedRowState l G ct a0 a1 a3 a11 a25 a68 a69 a77 a82 a84 a88 a91 a12 a19 a24 n11_3 a13 a15 a16 a17 a18 n12_5 n12_6 a70 a75 a76 n69_3 rr f71 f72 f73 f74 f76 p0 hp_f76) (cwV 1 hts gX10_proof_X10_deedRowState rfl rfl rfl (by decide +kernel) ⟨Nat.le_of_ble_eq_true rfl, Nat.le_of_ble_eq_true rfl⟩) (ro_preV 10 0 hK (hP.sub [0, 1, 2, 5, 6, 7, 8, 9, 10, 11] rfl) rfl rfl) rfl rfl hl.1 rfl (lv_room (Nat.le_of_ble_eq_true rfl)) dX10_proof_2 ⟨Nat.zero_le _, Nat.zero_le _⟩) hS hP (fun r2 H locs wr2 hP hS => ?_)
  obtain ⟨p_1, p_2, p_3, p_4, p_5, -⟩ := wr2
  refine lv_istore_n (lv' := [(2, .int r2), (0, .ref a0), (1, .int p0)]) hx hb dX10_proof_5 rfl hl (by decide) rfl (fun ls hl => ?_)
  refine lv_iload_n hx hb dX10_proof_6 rfl (lv_at hl 0 rfl) ?_
  refine lv_if_eq (tgt := 12) hx hb dX10_proof_7 (by decide) (fun c7 => ?_) (fun c7 => ?_)
  · have h_6 : rg 0 0 r2 := r_eq_l_i (e := 0) (f := 0) c7 p_1 (rgn 0 (x := 0) (by decide)) (by decide)
    have h_7 : rg 0 3 p0 := (p_2 (req h_6 (y := 0) (by decide)))
    have h_8 : rg 1 2147483647 n12_5 := (p_4 (req h_6 (y := 0) (by decide)))
    refine lv_aload_n hx hb dX10_proof_12 rfl (lv_at hl 1 rfl) ?_
    refine va_get (D := G) (ci := 10) (v := .ref a69) (C := RX10) (T := TX10) (N := 11) hx hb hts (by decide +kernel) hown hK.1 hP 0 rfl rfl 5 (by decide) (hts (.fieldLink RX10 43 "CardHolder" "rows" "LCardHolder$Rows;") (by decide +kernel)) (fun _ h9 => h9) rfl dX10_proof_13 ?_
    refine lv_iload_n hx hb dX10_proof_16 rfl (lv_at hl 2 rfl) ?_
    refine ro_calli (va_runV (As := [.int p0]) (rest := []) ⟨hx, hb, hml, hown, hts⟩ (a_X6_bitsOf l G ct a69 a70 a75 a76 n69_3 rr f71 f72 f73 f74 f76 p0 hp_f76) (cwV 1 hts gX10_proof_X6_bitsOf rfl rfl rfl (by decide +kernel) ⟨Nat.le_of_ble_eq_true rfl, Nat.le_of_ble_eq_true rfl⟩) (ro_preV 6 0 hK (hP.sub [5, 6, 7, 8, 9, 10, 11] rfl) rfl rfl) rfl rfl hl.1 rfl (lv_room (Nat.le_of_ble_eq_true rfl)) dX10_proof_17 ⟨Nat.zero_le _, Nat.zero_le _⟩) hS hP (fun r17 H locs wr17 hP hS => ?_)
    refine lv_istore_n (lv' := [(3, .int r17), (2, .int r2), (0, .ref a0), (1, .int p0)]) hx hb dX10_proof_20 rfl hl (by decide) rfl (fun ls hl => ?_)
    refine lv_aload_n hx hb dX10_proof_21 rfl (lv_at hl 2 rfl) ?_
    refine va_get (D := G) (ci := 10) (v := .ref a11) (C := RX10) (T := TX10) (N := 11) hx hb hts (by decide +kernel) hown hK.1 hP 0 rfl rfl 2 (by decide) (hts (.fieldLink RX10 28 "CardHolder" "play" "LCardHolder$Play;") (by decide +kernel)) (fun _ h9 => h9) rfl dX10_proof_22 ?_
    refine va_get (D := G) (ci := 4) (v := .ref a12) (C := RX4) (T := TX4) (N := 4) hx hb hts (by decide +kernel) hown hK.1 hP 1 rfl rfl 0 (by decide) (hts (.fieldLink RX10 49 "CardHolder$Play" "town" "LCardHolder$Town;") (by decide +kernel)) (fun _ h9 => h9) rfl dX10_proof_25 ?_
    refine lv_iload_n hx hb dX10_proof_28 rfl (lv_at hl 0 rfl) ?_
    refine ro_calli (va_runV (As := [.int r17]) (rest := []) ⟨hx, hb, hml, hown, hts⟩ (a_X9_wishersOf l G ct a12 a13 a15 a16 a17 a18 n12_5 n12_6 a14 n13_1 f17 r17 hp_n13_1) (cwV 1 hts gX10_proof_X9_wishersOf rfl rfl rfl (by decide +kernel) ⟨Nat.le_of_ble_eq_true rfl, Nat.le_of_ble_eq_true rfl⟩) (ro_preV 9 0 hK (hP.sub [2, 3, 4] rfl) rfl rfl) rfl rfl hl.1 rfl (lv_room (Nat.le_of_ble_eq_true rfl)) dX10_proof_29 ⟨Nat.zero_le _, Nat.zero_le _⟩) hS hP (fun r29 H locs wr29 hP hS => ?_)
    obtain ⟨p_9, -⟩ := wr29
    refine lv_istore (lv' := [(4, .int r29), (3, .int r17), (2, .int r2), (0, .ref a0), (1, .int p0)]) hx hb dX10_proof_32 hl (by decide) rfl (fun ls hl => ?_)
    refine lv_iload_n hx hb dX10_proof_34 rfl (lv_at hl 1 rfl) ?_
    refine ro_calli (va_runS (As := [.int r17]) (rest := []) ⟨hx, hb, hml, hown, hts⟩ (a_J6_bitCount_0f7a4 l G ct r17) (va_cwS 1 hts gX10_proof_J6_bitCount_0f7a4 rfl rfl rfl (by decide +kernel) ⟨Nat.le_of_ble_eq_true rfl, Nat.le_of_ble_eq_true rfl⟩) (ro_pre hK (hP.sub [] rfl)) rfl rfl hl.1 rfl (lv_room (Nat.le_of_ble_eq_true rfl)) dX10_proof_35 ⟨Nat.zero_le _, Nat.zero_le _⟩) hS hP (fun r35 H locs wr35 hP hS => ?_)
    obtain ⟨p_10, -⟩ := wr35
    refine lv_istore (lv' := [(5, .int r35), (4, .int r29), (3, .int r17), (2, .int r2), (0, .ref a0), (1, .int p0)]) hx hb dX10_proof_38 hl (by decide) rfl (fun ls hl => ?_)
    refine lv_iconst (v := 0) hx hb dX10_proof_40 (by decide) ?_
    refine lv_istore (lv' := [(6, .int 0), (5, .int r35), (4, .int r29), (3, .int r17), (2, .int r2), (0, .ref a0), (1, .int p0)]) hx hb dX10_proof_41 hl (by decide) rfl (fun ls hl => ?_)
    have j43 : ∀ (n : Nat) (x43_5 : Int32) (x43_6 : Int32) (H : Heap) (locs : List Loc) (ls : Array Slot), 2147483648 ≤ x43_6.toInt + (n : Int) → rg 0 63 x43_5 → rg 0 2147483647 x43_6 → va_P G vwCl [(a0, .inr (10, [.ref a1, .ref a3, .ref a11, .ref a25, .ref a68, .ref a69, .ref a77, .ref a82, .ref a84, .ref a88, .ref a91])), (a11, .inr (4, [.ref a12, .ref a19, .ref a24, .int n11_3])), (a12, .inr (9, [.ref a13, .ref a15, .ref a16, .ref a17, .ref a18, .int n12_5, .int n12_6])), (a13, .inr (0, [.ref a14, .int n13_1])), (a17, .inl (ct 0, 8, .inl f17)), (a69, .inr (6, [.ref a70, .ref a75, .ref a76, .int n69_3])), (a70, .inl (ct 5, 4, .inr (.inr (.inr (.inr (fun i => if i < 4 then some (rr i) else none)))))), ((rr 0), .inl (ct 3, 60, .inr (.inl f71))), ((rr 1), .inl (ct 3, 60, .inr (.inl f72))), ((rr 2), .inl (ct 3, 60, .inr (.inl f73))), ((rr 3), .inl (ct 3, 60, .inr (.inl f74))), (a76, .inl (ct 0, 4, .inl f76))] H → va_S no s.heap H locs → lv_has ls 8 [(0, .ref a0), (1, .int p0), (2, .int r2), (3, .int r17), (4, .int r29), (5, .int x43_5), (6, .int x43_6)] → W p l e (headSpec wsX10_proof ({ frames := 5, cells := 0, slots := 0, locals := 112 })).room s m ([.ref a0, .int p0] : List Value).toArray below meth c H locs 0 0 (MQ below (roQ (fun r => rg (-6) 63 r ∧ (r = 0 → rg 0 3 p0) ∧ (¬ r = (-2) → rg 0 3 p0) ∧ (r = 0 → rg 1 2147483647 n12_5) ∧ (¬ r = (-2) → rg 1 2147483647 n12_5) ∧ True)) ([.ref a0, .int p0] : List Value).toArray s 0 0 no) (F0 m 43 ls []) := by
      intro n
      induction n with
      | zero => intro x43_5 x43_6 H locs ls hn43 hx43_5 hx43_6 hP hS hl; exact absurd hn43 (by have := Int32.toInt_lt x43_6; have := Int32.le_toInt x43_6; omega)
      | succ n ih43 =>
        intro x43_5 x43_6 H locs ls hn43 hx43_5 hx43_6 hP hS hl
        refine lv_iload hx hb dX10_proof_43 (lv_at hl 6 rfl) ?_
        refine lv_iload_n hx hb dX10_proof_45 rfl (lv_at hl 3 rfl) ?_
        refine lv_icmp_ge (tgt := 110) hx hb dX10_proof_46 (by decide) (fun c46 => ?_) (fun c46 => ?_)
        · refine lv_iload hx hb dX10_proof_110 (lv_at hl 5 rfl) ?_
          exact W.iret (v := x43_5) hx hb hr (fun t ht hW => ⟨⟨x43_5, (), rfl, ⟨(rg_w (c := (-6)) (d := 63) hx43_5 (by decide)), (fun _ => h_7), (fun _ => h_7), (fun _ => h_8), (fun _ => h_8), trivial⟩, trivial⟩, hS.F ht⟩) hS.2.2 dX10_proof_112
        · have h_11 : rg 0 2147483646 x43_6 := r_lt_l_i (nle_i c46) hx43_6 (rg_t r17) (by decide)
          have h_12 : rg 1 2147483647 r17 := r_lt_r_i (nle_i c46) hx43_6 (rg_t r17) (by decide)
          refine lv_iload hx hb dX10_proof_49 (lv_at hl 6 rfl) ?_
          refine lv_iload_n hx hb dX10_proof_51 rfl (lv_at hl 3 rfl) ?_
          refine lv_iconst (v := (-1)) hx hb dX10_proof_52 (by decide) ?_
          refine lv_ixor hx hb dX10_proof_53 ?_
          refine nm_0 (fun z53 => ?_)
          refine lv_iand hx hb dX10_proof_54 ?_
          refine nm_andl h_11 (by decide) (fun z54 hz54 => ?_)
          have j80 : ∀ (y80_0 : Int32) (H : Heap) (locs : List Loc) (ls : Array Slot), rg 0 1 y80_0 → va_P G vwCl [(a0, .inr (10, [.ref a1, .ref a3, .ref a11, .ref a25, .ref a68, .ref a69, .ref a77, .ref a82, .ref a84, .ref a88, .ref a91])), (a11, .inr (4, [.ref a12, .ref a19, .ref a24, .int n11_3])), (a12, .inr (9, [.ref a13, .ref a15, .ref a16, .ref a17, .ref a18, .int n12_5, .int n12_6])), (a13, .inr (0, [.ref a14, .int n13_1])), (a17, .inl (ct 0, 8, .inl f17)), (a69, .inr (6, [.ref a70, .ref a75, .ref a76, .int n69_3])), (a70, .inl (ct 5, 4, .inr (.inr (.inr (.inr (fun i => if i < 4 then some (rr i) else none)))))), ((rr 0), .inl (ct 3, 60, .inr (.inl f71))), ((rr 1), .inl (ct 3, 60, .inr (.inl f72))), ((rr 2), .inl (ct 3, 60, .inr (.inl f73))), ((rr 3), .inl (ct 3, 60, .inr (.inl f74))), (a76, .inl (ct 0, 4, .inl f76))] H → va_S no s.heap H locs → lv_has ls 8 [(0, .ref a0), (1, .int p0), (2, .int r2), (3, .int r17), (4, .int r29), (5, .int x43_5), (6, .int x43_6)] → W p l e (headSpec wsX10_proof ({ frames := 5, cells := 0, slots := 0, locals := 112 })).room s m ([.ref a0, .int p0] : List Value).toArray below meth c H locs 0 0 (MQ below (roQ (fun r => rg (-6) 63 r ∧ (r = 0 → rg 0 3 p0) ∧ (¬ r = (-2) → rg 0 3 p0) ∧ (r = 0 → rg 1 2147483647 n12_5) ∧ (¬ r = (-2) → rg 1 2147483647 n12_5) ∧ True)) ([.ref a0, .int p0] : List Value).toArray s 0 0 no) (F0 m 80 ls [.int y80_0]) := by
            intro y80_0 H locs ls hy80_0 hP hS hl
            refine lv_istore (lv' := [(7, .int y80_0), (0, .ref a0), (1, .int p0), (2, .int r2), (3, .int r17), (4, .int r29), (5, .int x43_5), (6, .int x43_6)]) hx hb dX10_proof_80 hl (by decide) rfl (fun ls hl => ?_)
            refine lv_iload hx hb dX10_proof_82 (lv_at hl 0 rfl) ?_
            have j104 : ∀ (x104_5 : Int32) (H : Heap) (locs : List Loc) (ls : Array Slot), rg 0 63 x104_5 → va_P G vwCl [(a0, .inr (10, [.ref a1, .ref a3, .ref a11, .ref a25, .ref a68, .ref a69, .ref a77, .ref a82, .ref a84, .ref a88, .ref a91])), (a11, .inr (4, [.ref a12, .ref a19, .ref a24, .int n11_3])), (a12, .inr (9, [.ref a13, .ref a15, .ref a16, .ref a17, .ref a18, .int n12_5, .int n12_6])), (a13, .inr (0, [.ref a14, .int n13_1])), (a17, .inl (ct 0, 8, .inl f17)), (a69, .inr (6, [.ref a70, .ref a75, .ref a76, .int n69_3])), (a70, .inl (ct 5, 4, .inr (.inr (.inr (.inr (fun i => if i < 4 then some (rr i) else none)))))), ((rr 0), .inl (ct 3, 60, .inr (.inl f71))), ((rr 1), .inl (ct 3, 60, .inr (.inl f72))), ((rr 2), .inl (ct 3, 60, .inr (.inl f73))), ((rr 3), .inl (ct 3, 60, .inr (.inl f74))), (a76, .inl (ct 0, 4, .inl f76))] H → va_S no s.heap H locs → lv_has ls 8 [(0, .ref a0), (1, .int p0), (2, .int r2), (3, .int r17), (4, .int r29), (5, .int x104_5), (6, .int x43_6), (7, .int y80_0)] → W p l e (headSpec wsX10_proof ({ frames := 5, cells := 0, slots := 0, locals := 112 })).room s m ([.ref a0, .int p0] : List Value).toArray below meth c H locs 0 0 (MQ below (roQ (fun r => rg (-6) 63 r ∧ (r = 0 → rg 0 3 p0) ∧ (¬ r = (-2) → rg 0 3 p0) ∧ (r = 0 → rg 1 2147483647 n12_5) ∧ (¬ r = (-2) → rg 1 2147483647 n12_5) ∧ True)) ([.ref a0, .int p0] : List Value).toArray s 0 0 no) (F0 m 104 ls []) := by
              intro x104_5 H locs ls hx104_5 hP hS hl
              obtain ⟨z104, qz104⟩ : ∃ y : Int32, y = x43_6 + Int32.ofInt 1 := ⟨_, rfl⟩
              obtain ⟨hz104, ez104⟩ := inc_z (e := 1) (f := 2147483647) h_11 qz104 (by decide)
              refine lv_iinc (v := z104) (lv' := [(6, .int z104), (0, .ref a0), (1, .int p0), (2, .int r2), (3, .int r17), (4, .int r29), (5, .int x104_5), (7, .int y80_0)]) hx hb dX10_proof_104 hl (k := 6) rfl (qz104.symm) (by decide) rfl (fun ls hl => ?_)
              refine lv_goto (tgt := 43) hx hb dX10_proof_107 (by decide) ?_
              exact ih43 x104_5 z104 _ _ ls (by have q := hn43; have := ez104; omega) hx104_5 (rg_w (c := 0) (d := 2147483647) hz104 (by decide)) hP hS (lv_sub hl [1, 2, 3, 4, 5, 6, 0] rfl)
            refine lv_if_eq (tgt := 104) hx hb dX10_proof_84 (by decide) (fun c84 => ?_) (fun c84 => ?_)
            · have h_13 : rg 0 0 y80_0 := r_eq_l_i (e := 0) (f := 0) c84 hy80_0 (rgn 0 (x := 0) (by decide)) (by decide)
              exact j104 x43_5 _ _ ls hx43_5 hP hS (lv_sub hl [1, 2, 3, 4, 5, 6, 7, 0] rfl)
            · have h_14 : rg 1 1 y80_0 := r_ne_lo_i c84 hy80_0 (by decide) (by decide)
              refine lv_iload hx hb dX10_proof_87 (lv_at hl 7 rfl) ?_
              refine ro_calli (va_runS (As := [.int x43_6]) (rest := []) ⟨hx, hb, hml, hown, hts⟩ (a_J6_bitCount_0f7a4 l G ct x43_6) (va_cwS 1 hts gX10_proof_J6_bitCount_0f7a4 rfl rfl rfl (by decide +kernel) ⟨Nat.le_of_ble_eq_true rfl, Nat.le_of_ble_eq_true rfl⟩) (ro_pre hK (hP.sub [] rfl)) rfl rfl hl.1 rfl (lv_room (Nat.le_of_ble_eq_true rfl)) dX10_proof_89 ⟨Nat.zero_le _, Nat.zero_le _⟩) hS hP (fun r89 H locs wr89 hP hS => ?_)
              obtain ⟨p_15, -⟩ := wr89
              refine lv_iload hx hb dX10_proof_92 (lv_at hl 6 rfl) ?_
              refine lv_icmp_ge (tgt := 104) hx hb dX10_proof_94 (by decide) (fun c94 => ?_) (fun c94 => ?_)
              · exact j104 x43_5 _ _ ls hx43_5 hP hS (lv_sub hl [1, 2, 3, 4, 5, 6, 7, 0] rfl)
              · have h_16 : rg 0 62 r89 := r_lt_l_i (nle_i c94) p_15 hx43_5 (by decide)
                have h_17 : rg 1 63 x43_5 := r_lt_r_i (nle_i c94) p_15 hx43_5 (by decide)
                refine lv_iload hx hb dX10_proof_97 (lv_at hl 7 rfl) ?_
                refine ro_calli (va_runS (As := [.int x43_6]) (rest := []) ⟨hx, hb, hml, hown, hts⟩ (a_J6_bitCount_0f7a4 l G ct x43_6) (va_cwS 1 hts gX10_proof_J6_bitCount_0f7a4 rfl rfl rfl (by decide +kernel) ⟨Nat.le_of_ble_eq_true rfl, Nat.le_of_ble_eq_true rfl⟩) (ro_pre hK (hP.sub [] rfl)) rfl rfl hl.1 rfl (lv_room (Nat.le_of_ble_eq_true rfl)) dX10_proof_99 ⟨Nat.zero_le _, Nat.zero_le _⟩) hS hP (fun r99 H locs wr99 hP hS => ?_)
                obtain ⟨p_18, -⟩ := wr99
                refine lv_istore (lv' := [(5, .int r99), (7, .int y80_0), (0, .ref a0), (1, .int p0), (2, .int r2), (3, .int r17), (4, .int r29), (6, .int x43_6)]) hx hb dX10_proof_102 hl (by decide) rfl (fun ls hl => ?_)
                exact j104 r99 _ _ ls p_18 hP hS (lv_sub hl [2, 3, 4, 5, 6, 0, 7, 1] rfl)
          have j79 : ∀ (H : Heap) (locs : List Loc) (ls : Array Slot), va_P G vwCl [(a0, .inr (10, [.ref a1, .ref a3, .ref a11, .ref a25, .ref a68, .ref a69, .ref a77, .ref a82, .ref a84, .ref a88, .ref a91])), (a11, .inr (4, [.ref a12, .ref a19, .ref a24, .int n11_3])), (a12, .inr (9, [.ref a13, .ref a15, .ref a16, .ref a17, .ref a18, .int n12_5, .int n12_6])), (a13, .inr (0, [.ref a14, .int n13_1])), (a17, .inl (ct 0, 8, .inl f17)), (a69, .inr (6, [.ref a70, .ref a75, .ref a76, .int n69_3])), (a70, .inl (ct 5, 4, .inr (.inr (.inr (.inr (fun i => if i < 4 then some (rr i) else none)))))), ((rr 0), .inl (ct 3, 60, .inr (.inl f71))), ((rr 1), .inl (ct 3, 60, .inr (.inl f72))), ((rr 2), .inl (ct 3, 60, .inr (.inl f73))), ((rr 3), .inl (ct 3, 60, .inr (.inl f74))), (a76, .inl (ct 0, 4, .inl f76))] H → va_S no s.heap H locs → lv_has ls 8 [(0, .ref a0), (1, .int p0), (2, .int r2), (3, .int r17), (4, .int r29), (5, .int x43_5), (6, .int x43_6)] → W p l e (headSpec wsX10_proof ({ frames := 5, cells := 0, slots := 0, locals := 112 })).room s m ([.ref a0, .int p0] : List Value).toArray below meth c H locs 0 0 (MQ below (roQ (fun r => rg (-6) 63 r ∧ (r = 0 → rg 0 3 p0) ∧ (¬ r = (-2) → rg 0 3 p0) ∧ (r = 0 → rg 1 2147483647 n12_5) ∧ (¬ r = (-2) → rg 1 2147483647 n12_5) ∧ True)) ([.ref a0, .int p0] : List Value).toArray s 0 0 no) (F0 m 79 ls []) := by
            intro  H locs ls  hP hS hl
            refine lv_iconst (v := 0) hx hb dX10_proof_79 (by decide) ?_
            exact j80 (0 : Int32) _ _ ls (rg_w (c := 0) (d := 1) (rgn 0 (x := 0) (by decide)) (by decide)) hP hS (lv_sub hl [0, 1, 2, 3, 4, 5, 6] rfl)
          refine lv_if_ne (tgt := 79) hx hb dX10_proof_55 (by decide) (fun c55 => ?_) (fun c55 => ?_)
          · have h_19 : rg 1 2147483646 z54 := r_ne_lo_i c55 hz54 (by decide) (by decide)
            exact j79 _ _ ls hP hS (lv_sub hl [0, 1, 2, 3, 4, 5, 6] rfl)
          · have h_20 : rg 0 0 z54 := r_eq_l_i (e := 0) (f := 0) c55 hz54 (rgn 0 (x := 0) (by decide)) (by decide)
            refine lv_aload_n hx hb dX10_proof_58 rfl (lv_at hl 0 rfl) ?_
            refine va_get (D := G) (ci := 10) (v := .ref a11) (C := RX10) (T := TX10) (N := 11) hx hb hts (by decide +kernel) hown hK.1 hP 0 rfl rfl 2 (by decide) (hts (.fieldLink RX10 28 "CardHolder" "play" "LCardHolder$Play;") (by decide +kernel)) (fun _ h9 => h9) rfl dX10_proof_59 ?_
            refine va_get (D := G) (ci := 4) (v := .ref a12) (C := RX4) (T := TX4) (N := 4) hx hb hts (by decide +kernel) hown hK.1 hP 1 rfl rfl 0 (by decide) (hts (.fieldLink RX10 49 "CardHolder$Play" "town" "LCardHolder$Town;") (by decide +kernel)) (fun _ h9 => h9) rfl dX10_proof_62 ?_
            refine lv_iload hx hb dX10_proof_65 (lv_at hl 6 rfl) ?_
            refine ro_calli (va_runV (As := [.int x43_6]) (rest := []) ⟨hx, hb, hml, hown, hts⟩ (a_X9_wishersOf l G ct a12 a13 a15 a16 a17 a18 n12_5 n12_6 a14 n13_1 f17 x43_6 hp_n13_1) (cwV 1 hts gX10_proof_X9_wishersOf rfl rfl rfl (by decide +kernel) ⟨Nat.le_of_ble_eq_true rfl, Nat.le_of_ble_eq_true rfl⟩) (ro_preV 9 0 hK (hP.sub [2, 3, 4] rfl) rfl rfl) rfl rfl hl.1 rfl (lv_room (Nat.le_of_ble_eq_true rfl)) dX10_proof_67 ⟨Nat.zero_le _, Nat.zero_le _⟩) hS hP (fun r67 H locs wr67 hP hS => ?_)
            obtain ⟨p_21, -⟩ := wr67
            refine lv_iload hx hb dX10_proof_70 (lv_at hl 4 rfl) ?_
            refine lv_icmp_ne (tgt := 79) hx hb dX10_proof_72 (by decide) (fun c72 => ?_) (fun c72 => ?_)
            · exact j79 _ _ ls hP hS (lv_sub hl [0, 1, 2, 3, 4, 5, 6] rfl)
            · refine lv_iconst (v := 1) hx hb dX10_proof_75 (by decide) ?_
              refine lv_goto (tgt := 80) hx hb dX10_proof_76 (by decide) ?_
              exact j80 (1 : Int32) _ _ ls (rg_w (c := 0) (d := 1) (rgn 1 (x := 1) (by decide)) (by decide)) hP hS (lv_sub hl [0, 1, 2, 3, 4, 5, 6] rfl)
    exact j43 4294967296 r35 (0 : Int32) _ _ ls (ms_e (0 : Int32)) p_10 (rg_w (c := 0) (d := 2147483647) (rgn 0 (x := 0) (by decide)) (by decide)) hP hS (lv_sub hl [5, 6, 4, 3, 2, 1, 0] rfl)
  · have h_22 : rg (-6) (-1) r2 := r_ne_hi_i c7 p_1 (by decide) (by decide)
    refine lv_iload_n hx hb dX10_proof_10 rfl (lv_at hl 0 rfl) ?_
    exact W.iret (v := r2) hx hb hr (fun t ht hW => ⟨⟨r2, (), rfl, ⟨(rg_w (c := (-6)) (d := 63) h_22 (by decide)), (fun hq => rg_w (p_2 hq) (by decide)), (fun hq => rg_w (p_3 hq) (by decide)), (fun hq => rg_w (p_4 hq) (by decide)), (fun hq => rg_w (p_5 hq) (by decide)), trivial⟩, trivial⟩, hS.F ht⟩) hS.2.2 dX10_proof_11

set_option maxHeartbeats 4000000 in
set_option maxRecDepth 100000 in
theorem a_X10_duel (l : Launch) (G : va_G) (ct : Nat → ClassId) (a0 : Nat) (a1 : Nat) (a3 : Nat) (a11 : Nat) (a25 : Nat) (a68 : Nat) (a69 : Nat) (a77 : Nat) (a82 : Nat) (a84 : Nat) (a88 : Nat) (a91 : Nat) (a12 : Nat) (a19 : Nat) (a24 : Nat) (n11_3 : Int32) (a13 : Nat) (a15 : Nat) (a16 : Nat) (a17 : Nat) (a18 : Nat) (n12_5 : Int32) (n12_6 : Int32) (a14 : Nat) (n13_1 : Int32) (f15 : Nat → Int32) (a20 : Nat) (a22 : Nat) (a23 : Nat) (n19_4 : Int32) (n19_5 : Int32) (n19_6 : Int32) (n19_7 : Int32) (a21 : Nat) (n20_1 : Int32) (f21 : Nat → Int32) (p0 : Int32) (p1 : Int32) (p2 : Int32) (hp_n13_1 : rg 0 8 n13_1) (hp_n20_1 : rg 0 8 n20_1) : Met l yX10_duel wsX10_duel ({ frames := 4, cells := 0, slots := 0, locals := 87 }) (va_Pc [.ref a0, .int p0, .int p1, .int p2] (roP G ct [(a0, .inr (10, [.ref a1, .ref a3, .ref a11, .ref a25, .ref a68, .ref a69, .ref a77, .ref a82, .ref a84, .ref a88, .ref a91])), (a11, .inr (4, [.ref a12, .ref a19, .ref a24, .int n11_3])), (a12, .inr (9, [.ref a13, .ref a15, .ref a16, .ref a17, .ref a18, .int n12_5, .int n12_6])), (a13, .inr (0, [.ref a14, .int n13_1])), (a15, .inl (ct 0, 8, .inl f15)), (a19, .inr (2, [.ref a12, .ref a20, .ref a22, .ref a23, .int n19_4, .int n19_5, .int n19_6, .int n19_7])), (a20, .inr (0, [.ref a21, .int n20_1])), (a21, .inl (ct 0, 8, .inl f21))])) (roQ (fun r => (r = 0 → rg 0 7 p0) ∧ (r = (-1) → rg 0 7 p0) ∧ (¬ r = (-2) → rg 0 7 p0) ∧ (r = 0 → rg 0 7 p1) ∧ (r = (-1) → rg 0 7 p1) ∧ (¬ r = (-2) → rg 0 7 p1) ∧ (r = 0 → rg 0 1 p2) ∧ (r = (-1) → rg 0 1 p2) ∧ (¬ r = (-2) → rg 0 1 p2) ∧ (r = 0 → rg 1 8 n20_1) ∧ (r = (-1) → rg 1 8 n20_1) ∧ (¬ r = (-2) → rg 1 8 n20_1) ∧ True)) 0 0 no := by
  refine Met.ofW (cc := cX10_duel) (maxL := 9) (ret := (some .int)) (by decide) rfl ?_
  intro p e s m args below meth c s₁ B hml hv
  obtain ⟨rfl, hP, hK⟩ := hv
  have hx := B.exec
  have hb := B.bytes
  have hr := B.returns
  have hts := atoms_spec (ws := wsX10_duel) B.pre
  have hown : s.vm.findClass RX10 = some m.cls := findClass_of_methodNamed B.named
  have hlocks := B.notSynchronized
  have hS : va_S no s.heap s.heap [] := va_S.rf
  have hl := lv_entry ([.ref a0, .int p0, .int p1, .int p2]) (n := 9) (Nat.le_of_ble_eq_true rfl)
  rw [lg_entry_eq]
  generalize (lg_sl ([.ref a0, .int p0, .int p1, .int p2]) ++ List.replicate (9 - (lg_sl ([.ref a0, .int p0, .int p1, .int p2])).length) Slot.unset).toArray = ls at hl ⊢
  have hl : lv_has ls 9 [(0, .ref a0), (1, .int p0), (2, .int p1), (3, .int p2)] := hl
  refine lv_aload_n hx hb dX10_duel_0 rfl (lv_at hl 0 rfl) ?_
  refine lv_iload_n hx hb dX10_duel_1 rfl (lv_at hl 1 rfl) ?_
  refine lv_iload_n hx hb dX10_duel_2 rfl (lv_at hl 2 rfl) ?_
  refine ro_calli (va_runV (As := [.int p0, .int p1]) (rest := []) ⟨hx, hb, hml, hown, hts⟩ (a_X10_canDuel l G ct a0 a1 a3 a11 a25 a68 a69 a77 a82 a84 a88 a91 a12 a19 a24 n11_3 a20 a22 a23 n19_4 n19_5 n19_6 n19_7 a21 n20_1 f21 p0 p1 hp_n20_1) (cwV 2 hts gX10_duel_X10_canDuel rfl rfl rfl (by decide +kernel) ⟨Nat.le_of_ble_eq_true rfl, Nat.le_of_ble_eq_true rfl⟩) (ro_preV 10 0 hK (hP.sub [0, 1, 5, 6, 7] rfl) rfl rfl) rfl rfl hl.1 rfl (lv_room (Nat.le_of_ble_eq_true rfl)) dX10_duel_3 ⟨Nat.zero_le _, Nat.zero_le _⟩) hS hP (fun r3 H locs wr3 hP hS => ?_)
  obtain ⟨p_1, p_2, p_3, p_4, -⟩ := wr3
  refine lv_if_eq (tgt := 18) hx hb dX10_duel_6 (by decide) (fun c6 => ?_) (fun c6 => ?_)
  · have h_5 : rg 0 0 r3 := r_eq_l_i (e := 0) (f := 0) c6 p_1 (rgn 0 (x := 0) (by decide)) (by decide)
    refine lv_bipush (v := (-2)) hx hb dX10_duel_18 (by decide) ?_
    exact W.iret (v := (-2)) hx hb hr (fun t ht hW => ⟨⟨(-2), (), rfl, ⟨(fun hq => absurd hq (rne (rgn (-2) (x := (-2)) (by decide)) (y := 0) (c := 0) (by decide) (by decide))), (fun hq => absurd hq (rne (rgn (-2) (x := (-2)) (by decide)) (y := (-1)) (c := (-1)) (by decide) (by decide))), (fun hq => absurd (req (rgn (-2) (x := (-2)) (by decide)) (y := (-2)) (by decide)) hq), (fun hq => absurd hq (rne (rgn (-2) (x := (-2)) (by decide)) (y := 0) (c := 0) (by decide) (by decide))), (fun hq => absurd hq (rne (rgn (-2) (x := (-2)) (by decide)) (y := (-1)) (c := (-1)) (by decide) (by decide))), (fun hq => absurd (req (rgn (-2) (x := (-2)) (by decide)) (y := (-2)) (by decide)) hq), (fun hq => absurd hq (rne (rgn (-2) (x := (-2)) (by decide)) (y := 0) (c := 0) (by decide) (by decide))), (fun hq => absurd hq (rne (rgn (-2) (x := (-2)) (by decide)) (y := (-1)) (c := (-1)) (by decide) (by decide))), (fun hq => absurd (req (rgn (-2) (x := (-2)) (by decide)) (y := (-2)) (by decide)) hq), (fun hq => absurd hq (rne (rgn (-2) (x := (-2)) (by decide)) (y := 0) (c := 0) (by decide) (by decide))), (fun hq => absurd hq (rne (rgn (-2) (x := (-2)) (by decide)) (y := (-1)) (c := (-1)) (by decide) (by decide))), (fun hq => absurd (req (rgn (-2) (x := (-2)) (by decide)) (y := (-2)) (by decide)) hq), trivial⟩, trivial⟩, hS.F ht⟩) hS.2.2 dX10_duel_20
  · have h_6 : rg 1 1 r3 := r_ne_lo_i c6 p_1 (by decide) (by decide)
    have h_7 : rg 0 7 p0 := (p_2 (rne h_6 (y := 0) (c := 0) (by decide) (by decide)))
    have h_8 : rg 0 7 p1 := (p_3 (rne h_6 (y := 0) (c := 0) (by decide) (by decide)))
    have h_9 : rg 1 8 n20_1 := (p_4 (rne h_6 (y := 0) (c := 0) (by decide) (by decide)))
    refine lv_iload_n hx hb dX10_duel_9 rfl (lv_at hl 3 rfl) ?_
    refine lv_if_lt (tgt := 18) hx hb dX10_duel_10 (by decide) (fun c10 => ?_) (fun c10 => ?_)
    · have h_10 : rg (-2147483648) (-1) p2 := r_lt_l_i c10 (rg_t p2) (rgn 0 (x := 0) (by decide)) (by decide)
      refine lv_bipush (v := (-2)) hx hb dX10_duel_18 (by decide) ?_
      exact W.iret (v := (-2)) hx hb hr (fun t ht hW => ⟨⟨(-2), (), rfl, ⟨(fun _ => h_7), (fun _ => h_7), (fun _ => h_7), (fun _ => h_8), (fun _ => h_8), (fun _ => h_8), (fun hq => absurd hq (rne (rgn (-2) (x := (-2)) (by decide)) (y := 0) (c := 0) (by decide) (by decide))), (fun hq => absurd hq (rne (rgn (-2) (x := (-2)) (by decide)) (y := (-1)) (c := (-1)) (by decide) (by decide))), (fun hq => absurd (req (rgn (-2) (x := (-2)) (by decide)) (y := (-2)) (by decide)) hq), (fun _ => h_9), (fun _ => h_9), (fun _ => h_9), trivial⟩, trivial⟩, hS.F ht⟩) hS.2.2 dX10_duel_20
    · have h_11 : rg 0 2147483647 p2 := r_le_r_i (nlt_i c10) (rgn 0 (x := 0) (by decide)) (rg_t p2)
      refine lv_iload_n hx hb dX10_duel_13 rfl (lv_at hl 3 rfl) ?_
      refine lv_iconst (v := 1) hx hb dX10_duel_14 (by decide) ?_
      refine lv_icmp_le (tgt := 21) hx hb dX10_duel_15 (by decide) (fun c15 => ?_) (fun c15 => ?_)
      · have h_12 : rg 0 1 p2 := r_le_l_i c15 h_11 (rgn 1 (x := 1) (by decide))
        refine lv_aload_n hx hb dX10_duel_21 rfl (lv_at hl 0 rfl) ?_
        refine ro_callr (va_runV (As := []) (rest := []) ⟨hx, hb, hml, hown, hts⟩ (a_X10_bonds l G ct a0 a1 a3 a11 a25 a68 a69 a77 a82 a84 a88 a91 a12 a19 a24 n11_3 a20 a22 a23 n19_4 n19_5 n19_6 n19_7) (cwV 0 hts gX10_duel_X10_bonds rfl rfl rfl (by decide +kernel) ⟨Nat.le_of_ble_eq_true rfl, Nat.le_of_ble_eq_true rfl⟩) (ro_preV 10 0 hK (hP.sub [0, 1, 5] rfl) rfl rfl) rfl rfl hl.1 rfl (lv_room (Nat.le_of_ble_eq_true rfl)) dX10_duel_22 ⟨Nat.zero_le _, Nat.zero_le _⟩) hS hP (fun H locs hP hS => ?_)
        refine lv_iload_n hx hb dX10_duel_25 rfl (lv_at hl 1 rfl) ?_
        refine ro_calli (va_runV (As := [.int p0]) (rest := []) ⟨hx, hb, hml, hown, hts⟩ (a_X0_handOf l G ct a20 a21 n20_1 f21 p0 (rg_w (c := 0) (d := 8) h_9 (by decide))) (cwV 1 hts gX10_duel_X0_handOf rfl rfl rfl (by decide +kernel) ⟨Nat.le_of_ble_eq_true rfl, Nat.le_of_ble_eq_true rfl⟩) (ro_preV 0 0 hK (hP.sub [6, 7] rfl) rfl rfl) rfl rfl hl.1 rfl (lv_room (Nat.le_of_ble_eq_true rfl)) dX10_duel_26 ⟨Nat.zero_le _, Nat.zero_le _⟩) hS hP (fun r26 H locs wr26 hP hS => ?_)
        obtain ⟨p_13, -⟩ := wr26
        refine lv_istore (lv' := [(4, .int r26), (0, .ref a0), (1, .int p0), (2, .int p1), (3, .int p2)]) hx hb dX10_duel_29 hl (by decide) rfl (fun ls hl => ?_)
        refine lv_aload_n hx hb dX10_duel_31 rfl (lv_at hl 1 rfl) ?_
        refine ro_callr (va_runV (As := []) (rest := []) ⟨hx, hb, hml, hown, hts⟩ (a_X10_bonds l G ct a0 a1 a3 a11 a25 a68 a69 a77 a82 a84 a88 a91 a12 a19 a24 n11_3 a20 a22 a23 n19_4 n19_5 n19_6 n19_7) (cwV 0 hts gX10_duel_X10_bonds rfl rfl rfl (by decide +kernel) ⟨Nat.le_of_ble_eq_true rfl, Nat.le_of_ble_eq_true rfl⟩) (ro_preV 10 0 hK (hP.sub [0, 1, 5] rfl) rfl rfl) rfl rfl hl.1 rfl (lv_room (Nat.le_of_ble_eq_true rfl)) dX10_duel_32 ⟨Nat.zero_le _, Nat.zero_le _⟩) hS hP (fun H locs hP hS => ?_)
        refine lv_iload_n hx hb dX10_duel_35 rfl (lv_at hl 3 rfl) ?_
        refine ro_calli (va_runV (As := [.int p1]) (rest := []) ⟨hx, hb, hml, hown, hts⟩ (a_X0_handOf l G ct a20 a21 n20_1 f21 p1 (rg_w (c := 0) (d := 8) h_9 (by decide))) (cwV 1 hts gX10_duel_X0_handOf rfl rfl rfl (by decide +kernel) ⟨Nat.le_of_ble_eq_true rfl, Nat.le_of_ble_eq_true rfl⟩) (ro_preV 0 0 hK (hP.sub [6, 7] rfl) rfl rfl) rfl rfl hl.1 rfl (lv_room (Nat.le_of_ble_eq_true rfl)) dX10_duel_36 ⟨Nat.zero_le _, Nat.zero_le _⟩) hS hP (fun r36 H locs wr36 hP hS => ?_)
        obtain ⟨p_14, -⟩ := wr36
        refine lv_istore (lv' := [(5, .int r36), (4, .int r26), (0, .ref a0), (1, .int p0), (2, .int p1), (3, .int p2)]) hx hb dX10_duel_39 hl (by decide) rfl (fun ls hl => ?_)
        refine lv_iload hx hb dX10_duel_41 (lv_at hl 1 rfl) ?_
        refine ro_calli (va_runS (As := [.int r26]) (rest := []) ⟨hx, hb, hml, hown, hts⟩ (a_J6_bitCount_0f7a4 l G ct r26) (va_cwS 1 hts gX10_duel_J6_bitCount_0f7a4 rfl rfl rfl (by decide +kernel) ⟨Nat.le_of_ble_eq_true rfl, Nat.le_of_ble_eq_true rfl⟩) (ro_pre hK (hP.sub [] rfl)) rfl rfl hl.1 rfl (lv_room (Nat.le_of_ble_eq_true rfl)) dX10_duel_43 ⟨Nat.zero_le _, Nat.zero_le _⟩) hS hP (fun r43 H locs wr43 hP hS => ?_)
        obtain ⟨p_15, -⟩ := wr43
        refine lv_iload hx hb dX10_duel_46 (lv_at hl 0 rfl) ?_
        refine ro_calli (va_runS (As := [.int r36]) (rest := [.int r43]) ⟨hx, hb, hml, hown, hts⟩ (a_J6_bitCount_0f7a4 l G ct r36) (va_cwS 1 hts gX10_duel_J6_bitCount_0f7a4 rfl rfl rfl (by decide +kernel) ⟨Nat.le_of_ble_eq_true rfl, Nat.le_of_ble_eq_true rfl⟩) (ro_pre hK (hP.sub [] rfl)) rfl rfl hl.1 rfl (lv_room (Nat.le_of_ble_eq_true rfl)) dX10_duel_48 ⟨Nat.zero_le _, Nat.zero_le _⟩) hS hP (fun r48 H locs wr48 hP hS => ?_)
        obtain ⟨p_16, -⟩ := wr48
        refine lv_imul hx hb dX10_duel_51 ?_
        refine nm_mul (e1 := 0) (f := 3969) p_15 p_16 (by decide) (fun z51 hz51 ez51 => ?_)
        refine lv_istore (lv' := [(6, .int z51), (5, .int r36), (4, .int r26), (0, .ref a0), (1, .int p0), (2, .int p1), (3, .int p2)]) hx hb dX10_duel_52 hl (by decide) rfl (fun ls hl => ?_)
        refine lv_aload_n hx hb dX10_duel_54 rfl (lv_at hl 3 rfl) ?_
        refine va_get (D := G) (ci := 10) (v := .ref a11) (C := RX10) (T := TX10) (N := 11) hx hb hts (by decide +kernel) hown hK.1 hP 0 rfl rfl 2 (by decide) (hts (.fieldLink RX10 28 "CardHolder" "play" "LCardHolder$Play;") (by decide +kernel)) (fun _ h9 => h9) rfl dX10_duel_55 ?_
        refine va_get (D := G) (ci := 4) (v := .ref a12) (C := RX4) (T := TX4) (N := 4) hx hb hts (by decide +kernel) hown hK.1 hP 1 rfl rfl 0 (by decide) (hts (.fieldLink RX10 49 "CardHolder$Play" "town" "LCardHolder$Town;") (by decide +kernel)) (fun _ h9 => h9) rfl dX10_duel_58 ?_
        refine lv_iload hx hb dX10_duel_61 (lv_at hl 2 rfl) ?_
        refine lv_iload hx hb dX10_duel_63 (lv_at hl 1 rfl) ?_
        refine ro_calli (va_runV (As := [.int r26, .int r36]) (rest := []) ⟨hx, hb, hml, hown, hts⟩ (a_X9_pairsAbove l G ct a12 a13 a15 a16 a17 a18 n12_5 n12_6 a14 n13_1 f15 r26 r36 hp_n13_1) (cwV 2 hts gX10_duel_X9_pairsAbove rfl rfl rfl (by decide +kernel) ⟨Nat.le_of_ble_eq_true rfl, Nat.le_of_ble_eq_true rfl⟩) (ro_preV 9 0 hK (hP.sub [2, 3, 4] rfl) rfl rfl) rfl rfl hl.1 rfl (lv_room (Nat.le_of_ble_eq_true rfl)) dX10_duel_65 ⟨Nat.zero_le _, Nat.zero_le _⟩) hS hP (fun r65 H locs wr65 hP hS => ?_)
        refine lv_istore (lv' := [(7, .int r65), (6, .int z51), (5, .int r36), (4, .int r26), (0, .ref a0), (1, .int p0), (2, .int p1), (3, .int p2)]) hx hb dX10_duel_68 hl (by decide) rfl (fun ls hl => ?_)
        refine lv_iload hx hb dX10_duel_70 (lv_at hl 1 rfl) ?_
        refine lv_iload hx hb dX10_duel_72 (lv_at hl 0 rfl) ?_
        refine ro_calli (va_runS (As := [.int z51, .int r65]) (rest := []) ⟨hx, hb, hml, hown, hts⟩ (a_X10_commonDivisor l G ct z51 r65) (va_cwS 2 hts gX10_duel_X10_commonDivisor rfl rfl rfl (by decide +kernel) ⟨Nat.le_of_ble_eq_true rfl, Nat.le_of_ble_eq_true rfl⟩) (ro_pre hK (hP.sub [] rfl)) rfl rfl hl.1 rfl (lv_room (Nat.le_of_ble_eq_true rfl)) dX10_duel_74 ⟨Nat.zero_le _, Nat.zero_le _⟩) hS hP (fun r74 H locs wr74 hP hS => ?_)
        refine lv_istore (lv' := [(8, .int r74), (7, .int r65), (6, .int z51), (5, .int r36), (4, .int r26), (0, .ref a0), (1, .int p0), (2, .int p1), (3, .int p2)]) hx hb dX10_duel_77 hl (by decide) rfl (fun ls hl => ?_)
        refine lv_iload hx hb dX10_duel_79 (lv_at hl 0 rfl) ?_
        refine lv_if_ne (tgt := 87) hx hb dX10_duel_81 (by decide) (fun c81 => ?_) (fun c81 => ?_)
        · refine lv_iload_n hx hb dX10_duel_87 rfl (lv_at hl 8 rfl) ?_
          refine lv_if_ne (tgt := 96) hx hb dX10_duel_88 (by decide) (fun c88 => ?_) (fun c88 => ?_)
          · have h_17 : rg 1 1 p2 := r_ne_lo_i c88 h_12 (by decide) (by decide)
            refine lv_iload hx hb dX10_duel_96 (lv_at hl 2 rfl) ?_
            refine lv_iload hx hb dX10_duel_98 (lv_at hl 0 rfl) ?_
            refine lv_idiv hx hb dX10_duel_100 c81 ?_
            refine nm_0 (fun z100 => ?_)
            exact W.iret (v := z100) hx hb hr (fun t ht hW => ⟨⟨z100, (), rfl, ⟨(fun _ => h_7), (fun _ => h_7), (fun _ => h_7), (fun _ => h_8), (fun _ => h_8), (fun _ => h_8), (fun _ => (rg_w (c := 0) (d := 1) h_17 (by decide))), (fun _ => (rg_w (c := 0) (d := 1) h_17 (by decide))), (fun _ => (rg_w (c := 0) (d := 1) h_17 (by decide))), (fun _ => h_9), (fun _ => h_9), (fun _ => h_9), trivial⟩, trivial⟩, hS.F ht⟩) hS.2.2 dX10_duel_101
          · have h_18 : rg 0 0 p2 := r_eq_l_i (e := 0) (f := 0) c88 h_12 (rgn 0 (x := 0) (by decide)) (by decide)
            refine lv_iload hx hb dX10_duel_91 (lv_at hl 1 rfl) ?_
            refine lv_goto (tgt := 98) hx hb dX10_duel_93 (by decide) ?_
            refine lv_iload hx hb dX10_duel_98 (lv_at hl 0 rfl) ?_
            refine lv_idiv hx hb dX10_duel_100 c81 ?_
            refine nm_0 (fun z100 => ?_)
            exact W.iret (v := z100) hx hb hr (fun t ht hW => ⟨⟨z100, (), rfl, ⟨(fun _ => h_7), (fun _ => h_7), (fun _ => h_7), (fun _ => h_8), (fun _ => h_8), (fun _ => h_8), (fun _ => (rg_w (c := 0) (d := 1) h_18 (by decide))), (fun _ => (rg_w (c := 0) (d := 1) h_18 (by decide))), (fun _ => (rg_w (c := 0) (d := 1) h_18 (by decide))), (fun _ => h_9), (fun _ => h_9), (fun _ => h_9), trivial⟩, trivial⟩, hS.F ht⟩) hS.2.2 dX10_duel_101
        · have h_19 : rg 0 0 r74 := r_eq_l_i (e := 0) (f := 0) c81 (rg_t r74) (rgn 0 (x := 0) (by decide)) (by decide)
          refine lv_bipush (v := (-2)) hx hb dX10_duel_84 (by decide) ?_
          exact W.iret (v := (-2)) hx hb hr (fun t ht hW => ⟨⟨(-2), (), rfl, ⟨(fun _ => h_7), (fun _ => h_7), (fun _ => h_7), (fun _ => h_8), (fun _ => h_8), (fun _ => h_8), (fun _ => h_12), (fun _ => h_12), (fun _ => h_12), (fun _ => h_9), (fun _ => h_9), (fun _ => h_9), trivial⟩, trivial⟩, hS.F ht⟩) hS.2.2 dX10_duel_86
      · have h_20 : rg 2 2147483647 p2 := r_lt_r_i (nle_i c15) (rgn 1 (x := 1) (by decide)) h_11 (by decide)
        refine lv_bipush (v := (-2)) hx hb dX10_duel_18 (by decide) ?_
        exact W.iret (v := (-2)) hx hb hr (fun t ht hW => ⟨⟨(-2), (), rfl, ⟨(fun _ => h_7), (fun _ => h_7), (fun _ => h_7), (fun _ => h_8), (fun _ => h_8), (fun _ => h_8), (fun hq => absurd hq (rne (rgn (-2) (x := (-2)) (by decide)) (y := 0) (c := 0) (by decide) (by decide))), (fun hq => absurd hq (rne (rgn (-2) (x := (-2)) (by decide)) (y := (-1)) (c := (-1)) (by decide) (by decide))), (fun hq => absurd (req (rgn (-2) (x := (-2)) (by decide)) (y := (-2)) (by decide)) hq), (fun _ => h_9), (fun _ => h_9), (fun _ => h_9), trivial⟩, trivial⟩, hS.F ht⟩) hS.2.2 dX10_duel_20

set_option maxHeartbeats 4000000 in
set_option maxRecDepth 100000 in
theorem a_X10_lays (l : Launch) (G : va_G) (ct : Nat → ClassId) (a0 : Nat) (a1 : Nat) (a3 : Nat) (a11 : Nat) (a25 : Nat) (a68 : Nat) (a69 : Nat) (a77 : Nat) (a82 : Nat) (a84 : Nat) (a88 : Nat) (a91 : Nat) (a12 : Nat) (a19 : Nat) (a24 : Nat) (n11_3 : Int32) (a13 : Nat) (a15 : Nat) (a16 : Nat) (a17 : Nat) (a18 : Nat) (n12_5 : Int32) (n12_6 : Int32) (a14 : Nat) (n13_1 : Int32) (f15 : Nat → Int32) (a20 : Nat) (a22 : Nat) (a23 : Nat) (n19_4 : Int32) (n19_5 : Int32) (n19_6 : Int32) (n19_7 : Int32) (a21 : Nat) (n20_1 : Int32) (f21 : Nat → Int32) (p0 : Int32) (p1 : Int32) (hp_n13_1 : rg 0 8 n13_1) (hp_n20_1 : rg 0 8 n20_1) : Met l yX10_lays wsX10_lays ({ frames := 5, cells := 0, slots := 0, locals := 114 }) (va_Pc [.ref a0, .int p0, .int p1] (roP G ct [(a0, .inr (10, [.ref a1, .ref a3, .ref a11, .ref a25, .ref a68, .ref a69, .ref a77, .ref a82, .ref a84, .ref a88, .ref a91])), (a11, .inr (4, [.ref a12, .ref a19, .ref a24, .int n11_3])), (a12, .inr (9, [.ref a13, .ref a15, .ref a16, .ref a17, .ref a18, .int n12_5, .int n12_6])), (a13, .inr (0, [.ref a14, .int n13_1])), (a15, .inl (ct 0, 8, .inl f15)), (a19, .inr (2, [.ref a12, .ref a20, .ref a22, .ref a23, .int n19_4, .int n19_5, .int n19_6, .int n19_7])), (a20, .inr (0, [.ref a21, .int n20_1])), (a21, .inl (ct 0, 8, .inl f21))])) (roQ (fun r => rg (-2) 7 r ∧ (r = 0 → rg 0 7 p0) ∧ (r = (-1) → rg 0 7 p0) ∧ (¬ r = (-2) → rg 0 7 p0) ∧ (r = 0 → rg 0 7 p1) ∧ (r = (-1) → rg 0 7 p1) ∧ (¬ r = (-2) → rg 0 7 p1) ∧ (r = 0 → rg 1 8 n20_1) ∧ (r = (-1) → rg 1 8 n20_1) ∧ (¬ r = (-2) → rg 1 8 n20_1) ∧ True)) 0 0 no := by
  refine Met.ofW (cc := cX10_lays) (maxL := 3) (ret := (some .int)) (by decide) rfl ?_
  intro p e s m args below meth c s₁ B hml hv
  obtain ⟨rfl, hP, hK⟩ := hv
  have hx := B.exec
  have hb := B.bytes
  have hr := B.returns
  have hts := atoms_spec (ws := wsX10_lays) B.pre
  have hown : s.vm.findClass RX10 = some m.cls := findClass_of_methodNamed B.named
  have hlocks := B.notSynchronized
  have hS : va_S no s.heap s.heap [] := va_S.rf
  have hl := lv_entry ([.ref a0, .int p0, .int p1]) (n := 3) (Nat.le_of_ble_eq_true rfl)
  rw [lg_entry_eq]
  generalize (lg_sl ([.ref a0, .int p0, .int p1]) ++ List.replicate (3 - (lg_sl ([.ref a0, .int p0, .int p1])).length) Slot.unset).toArray = ls at hl ⊢
  have hl : lv_has ls 3 [(0, .ref a0), (1, .int p0), (2, .int p1)] := hl
  refine lv_aload_n hx hb dX10_lays_0 rfl (lv_at hl 0 rfl) ?_
  refine lv_iload_n hx hb dX10_lays_1 rfl (lv_at hl 1 rfl) ?_
  refine lv_iload_n hx hb dX10_lays_2 rfl (lv_at hl 2 rfl) ?_
  refine ro_calli (va_runV (As := [.int p0, .int p1]) (rest := []) ⟨hx, hb, hml, hown, hts⟩ (a_X10_canDuel l G ct a0 a1 a3 a11 a25 a68 a69 a77 a82 a84 a88 a91 a12 a19 a24 n11_3 a20 a22 a23 n19_4 n19_5 n19_6 n19_7 a21 n20_1 f21 p0 p1 hp_n20_1) (cwV 2 hts gX10_lays_X10_canDuel rfl rfl rfl (by decide +kernel) ⟨Nat.le_of_ble_eq_true rfl, Nat.le_of_ble_eq_true rfl⟩) (ro_preV 10 0 hK (hP.sub [0, 1, 5, 6, 7] rfl) rfl rfl) rfl rfl hl.1 rfl (lv_room (Nat.le_of_ble_eq_true rfl)) dX10_lays_3 ⟨Nat.zero_le _, Nat.zero_le _⟩) hS hP (fun r3 H locs wr3 hP hS => ?_)
  obtain ⟨p_1, p_2, p_3, p_4, -⟩ := wr3
  refine lv_if_ne (tgt := 12) hx hb dX10_lays_6 (by decide) (fun c6 => ?_) (fun c6 => ?_)
  · have h_5 : rg 1 1 r3 := r_ne_lo_i c6 p_1 (by decide) (by decide)
    have h_6 : rg 0 7 p0 := (p_2 (rne h_5 (y := 0) (c := 0) (by decide) (by decide)))
    have h_7 : rg 0 7 p1 := (p_3 (rne h_5 (y := 0) (c := 0) (by decide) (by decide)))
    have h_8 : rg 1 8 n20_1 := (p_4 (rne h_5 (y := 0) (c := 0) (by decide) (by decide)))
    refine lv_aload_n hx hb dX10_lays_12 rfl (lv_at hl 0 rfl) ?_
    refine va_get (D := G) (ci := 10) (v := .ref a11) (C := RX10) (T := TX10) (N := 11) hx hb hts (by decide +kernel) hown hK.1 hP 0 rfl rfl 2 (by decide) (hts (.fieldLink RX10 28 "CardHolder" "play" "LCardHolder$Play;") (by decide +kernel)) (fun _ h9 => h9) rfl dX10_lays_13 ?_
    refine va_get (D := G) (ci := 4) (v := .ref a12) (C := RX4) (T := TX4) (N := 4) hx hb hts (by decide +kernel) hown hK.1 hP 1 rfl rfl 0 (by decide) (hts (.fieldLink RX10 49 "CardHolder$Play" "town" "LCardHolder$Town;") (by decide +kernel)) (fun _ h9 => h9) rfl dX10_lays_16 ?_
    refine lv_aload_n hx hb dX10_lays_19 rfl (lv_at hl 0 rfl) ?_
    refine ro_callr (va_runV (As := []) (rest := [.ref a12]) ⟨hx, hb, hml, hown, hts⟩ (a_X10_bonds l G ct a0 a1 a3 a11 a25 a68 a69 a77 a82 a84 a88 a91 a12 a19 a24 n11_3 a20 a22 a23 n19_4 n19_5 n19_6 n19_7) (cwV 0 hts gX10_lays_X10_bonds rfl rfl rfl (by decide +kernel) ⟨Nat.le_of_ble_eq_true rfl, Nat.le_of_ble_eq_true rfl⟩) (ro_preV 10 0 hK (hP.sub [0, 1, 5] rfl) rfl rfl) rfl rfl hl.1 rfl (lv_room (Nat.le_of_ble_eq_true rfl)) dX10_lays_20 ⟨Nat.zero_le _, Nat.zero_le _⟩) hS hP (fun H locs hP hS => ?_)
    refine lv_iload_n hx hb dX10_lays_23 rfl (lv_at hl 1 rfl) ?_
    refine ro_calli (va_runV (As := [.int p0]) (rest := [.ref a12]) ⟨hx, hb, hml, hown, hts⟩ (a_X0_handOf l G ct a20 a21 n20_1 f21 p0 (rg_w (c := 0) (d := 8) h_8 (by decide))) (cwV 1 hts gX10_lays_X0_handOf rfl rfl rfl (by decide +kernel) ⟨Nat.le_of_ble_eq_true rfl, Nat.le_of_ble_eq_true rfl⟩) (ro_preV 0 0 hK (hP.sub [6, 7] rfl) rfl rfl) rfl rfl hl.1 rfl (lv_room (Nat.le_of_ble_eq_true rfl)) dX10_lays_24 ⟨Nat.zero_le _, Nat.zero_le _⟩) hS hP (fun r24 H locs wr24 hP hS => ?_)
    obtain ⟨p_9, -⟩ := wr24
    refine lv_aload_n hx hb dX10_lays_27 rfl (lv_at hl 0 rfl) ?_
    refine ro_callr (va_runV (As := []) (rest := [.int r24, .ref a12]) ⟨hx, hb, hml, hown, hts⟩ (a_X10_bonds l G ct a0 a1 a3 a11 a25 a68 a69 a77 a82 a84 a88 a91 a12 a19 a24 n11_3 a20 a22 a23 n19_4 n19_5 n19_6 n19_7) (cwV 0 hts gX10_lays_X10_bonds rfl rfl rfl (by decide +kernel) ⟨Nat.le_of_ble_eq_true rfl, Nat.le_of_ble_eq_true rfl⟩) (ro_preV 10 0 hK (hP.sub [0, 1, 5] rfl) rfl rfl) rfl rfl hl.1 rfl (lv_room (Nat.le_of_ble_eq_true rfl)) dX10_lays_28 ⟨Nat.zero_le _, Nat.zero_le _⟩) hS hP (fun H locs hP hS => ?_)
    refine lv_iload_n hx hb dX10_lays_31 rfl (lv_at hl 2 rfl) ?_
    refine ro_calli (va_runV (As := [.int p1]) (rest := [.int r24, .ref a12]) ⟨hx, hb, hml, hown, hts⟩ (a_X0_handOf l G ct a20 a21 n20_1 f21 p1 (rg_w (c := 0) (d := 8) h_8 (by decide))) (cwV 1 hts gX10_lays_X0_handOf rfl rfl rfl (by decide +kernel) ⟨Nat.le_of_ble_eq_true rfl, Nat.le_of_ble_eq_true rfl⟩) (ro_preV 0 0 hK (hP.sub [6, 7] rfl) rfl rfl) rfl rfl hl.1 rfl (lv_room (Nat.le_of_ble_eq_true rfl)) dX10_lays_32 ⟨Nat.zero_le _, Nat.zero_le _⟩) hS hP (fun r32 H locs wr32 hP hS => ?_)
    obtain ⟨p_10, -⟩ := wr32
    refine ro_calli (va_runV (As := [.int r24, .int r32]) (rest := []) ⟨hx, hb, hml, hown, hts⟩ (a_X9_surestCard l G ct a12 a13 a15 a16 a17 a18 n12_5 n12_6 a14 n13_1 f15 r24 r32 hp_n13_1) (cwV 2 hts gX10_lays_X9_surestCard rfl rfl rfl (by decide +kernel) ⟨Nat.le_of_ble_eq_true rfl, Nat.le_of_ble_eq_true rfl⟩) (ro_preV 9 0 hK (hP.sub [2, 3, 4] rfl) rfl rfl) rfl rfl hl.1 rfl (lv_room (Nat.le_of_ble_eq_true rfl)) dX10_lays_35 ⟨Nat.zero_le _, Nat.zero_le _⟩) hS hP (fun r35 H locs wr35 hP hS => ?_)
    obtain ⟨p_11, -⟩ := wr35
    exact W.iret (v := r35) hx hb hr (fun t ht hW => ⟨⟨r35, (), rfl, ⟨(rg_w (c := (-2)) (d := 7) p_11 (by decide)), (fun _ => h_6), (fun _ => h_6), (fun _ => h_6), (fun _ => h_7), (fun _ => h_7), (fun _ => h_7), (fun _ => h_8), (fun _ => h_8), (fun _ => h_8), trivial⟩, trivial⟩, hS.F ht⟩) hS.2.2 dX10_lays_38
  · have h_12 : rg 0 0 r3 := r_eq_l_i (e := 0) (f := 0) c6 p_1 (rgn 0 (x := 0) (by decide)) (by decide)
    refine lv_bipush (v := (-2)) hx hb dX10_lays_9 (by decide) ?_
    exact W.iret (v := (-2)) hx hb hr (fun t ht hW => ⟨⟨(-2), (), rfl, ⟨(rg_w (c := (-2)) (d := 7) (rgn (-2) (x := (-2)) (by decide)) (by decide)), (fun hq => absurd hq (rne (rgn (-2) (x := (-2)) (by decide)) (y := 0) (c := 0) (by decide) (by decide))), (fun hq => absurd hq (rne (rgn (-2) (x := (-2)) (by decide)) (y := (-1)) (c := (-1)) (by decide) (by decide))), (fun hq => absurd (req (rgn (-2) (x := (-2)) (by decide)) (y := (-2)) (by decide)) hq), (fun hq => absurd hq (rne (rgn (-2) (x := (-2)) (by decide)) (y := 0) (c := 0) (by decide) (by decide))), (fun hq => absurd hq (rne (rgn (-2) (x := (-2)) (by decide)) (y := (-1)) (c := (-1)) (by decide) (by decide))), (fun hq => absurd (req (rgn (-2) (x := (-2)) (by decide)) (y := (-2)) (by decide)) hq), (fun hq => absurd hq (rne (rgn (-2) (x := (-2)) (by decide)) (y := 0) (c := 0) (by decide) (by decide))), (fun hq => absurd hq (rne (rgn (-2) (x := (-2)) (by decide)) (y := (-1)) (c := (-1)) (by decide) (by decide))), (fun hq => absurd (req (rgn (-2) (x := (-2)) (by decide)) (y := (-2)) (by decide)) hq), trivial⟩, trivial⟩, hS.F ht⟩) hS.2.2 dX10_lays_11

set_option maxHeartbeats 4000000 in
set_option maxRecDepth 100000 in
theorem a_X10_lay (l : Launch) (G : va_G) (ct : Nat → ClassId) (a0 : Nat) (a1 : Nat) (a3 : Nat) (a11 : Nat) (a25 : Nat) (a68 : Nat) (a69 : Nat) (a77 : Nat) (a82 : Nat) (a84 : Nat) (a88 : Nat) (a91 : Nat) (a12 : Nat) (a19 : Nat) (a24 : Nat) (n11_3 : Int32) (a13 : Nat) (a15 : Nat) (a16 : Nat) (a17 : Nat) (a18 : Nat) (n12_5 : Int32) (n12_6 : Int32) (a14 : Nat) (n13_1 : Int32) (f15 : Nat → Int32) (a20 : Nat) (a22 : Nat) (a23 : Nat) (n19_4 : Int32) (n19_5 : Int32) (n19_6 : Int32) (n19_7 : Int32) (a21 : Nat) (n20_1 : Int32) (f21 : Nat → Int32) (p0 : Int32) (p1 : Int32) (hp_n13_1 : rg 0 8 n13_1) (hp_n20_1 : rg 0 8 n20_1) : Met l yX10_lay wsX10_lay ({ frames := 6, cells := 0, slots := 0, locals := 136 }) (va_Pc [.ref a0, .int p0, .int p1] (roP G ct [(a0, .inr (10, [.ref a1, .ref a3, .ref a11, .ref a25, .ref a68, .ref a69, .ref a77, .ref a82, .ref a84, .ref a88, .ref a91])), (a11, .inr (4, [.ref a12, .ref a19, .ref a24, .int n11_3])), (a12, .inr (9, [.ref a13, .ref a15, .ref a16, .ref a17, .ref a18, .int n12_5, .int n12_6])), (a13, .inr (0, [.ref a14, .int n13_1])), (a15, .inl (ct 0, 8, .inl f15)), (a19, .inr (2, [.ref a12, .ref a20, .ref a22, .ref a23, .int n19_4, .int n19_5, .int n19_6, .int n19_7])), (a20, .inr (0, [.ref a21, .int n20_1])), (a21, .inl (ct 0, 8, .inl f21))])) (roQ (fun r => rg (-2147483648) 999 r ∧ (r = 0 → rg 0 7 p0) ∧ (r = (-1) → rg 0 7 p0) ∧ (r = 0 → rg 0 7 p1) ∧ (r = (-1) → rg 0 7 p1) ∧ (r = 0 → rg 1 8 n20_1) ∧ (r = (-1) → rg 1 8 n20_1) ∧ True)) 0 0 no := by
  refine Met.ofW (cc := cX10_lay) (maxL := 4) (ret := (some .int)) (by decide) rfl ?_
  intro p e s m args below meth c s₁ B hml hv
  obtain ⟨rfl, hP, hK⟩ := hv
  have hx := B.exec
  have hb := B.bytes
  have hr := B.returns
  have hts := atoms_spec (ws := wsX10_lay) B.pre
  have hown : s.vm.findClass RX10 = some m.cls := findClass_of_methodNamed B.named
  have hlocks := B.notSynchronized
  have hS : va_S no s.heap s.heap [] := va_S.rf
  have hl := lv_entry ([.ref a0, .int p0, .int p1]) (n := 4) (Nat.le_of_ble_eq_true rfl)
  rw [lg_entry_eq]
  generalize (lg_sl ([.ref a0, .int p0, .int p1]) ++ List.replicate (4 - (lg_sl ([.ref a0, .int p0, .int p1])).length) Slot.unset).toArray = ls at hl ⊢
  have hl : lv_has ls 4 [(0, .ref a0), (1, .int p0), (2, .int p1)] := hl
  refine lv_aload_n hx hb dX10_lay_0 rfl (lv_at hl 0 rfl) ?_
  refine lv_iload_n hx hb dX10_lay_1 rfl (lv_at hl 1 rfl) ?_
  refine lv_iload_n hx hb dX10_lay_2 rfl (lv_at hl 2 rfl) ?_
  refine ro_calli (va_runV (As := [.int p0, .int p1]) (rest := []) ⟨hx, hb, hml, hown, hts⟩ (a_X10_lays l G ct a0 a1 a3 a11 a25 a68 a69 a77 a82 a84 a88 a91 a12 a19 a24 n11_3 a13 a15 a16 a17 a18 n12_5 n12_6 a14 n13_1 f15 a20 a22 a23 n19_4 n19_5 n19_6 n19_7 a21 n20_1 f21 p0 p1 hp_n13_1 hp_n20_1) (cwV 2 hts gX10_lay_X10_lays rfl rfl rfl (by decide +kernel) ⟨Nat.le_of_ble_eq_true rfl, Nat.le_of_ble_eq_true rfl⟩) (ro_preV 10 0 hK (hP.sub [0, 1, 2, 3, 4, 5, 6, 7] rfl) rfl rfl) rfl rfl hl.1 rfl (lv_room (Nat.le_of_ble_eq_true rfl)) dX10_lay_3 ⟨Nat.zero_le _, Nat.zero_le _⟩) hS hP (fun r3 H locs wr3 hP hS => ?_)
  obtain ⟨p_1, p_2, p_3, p_4, p_5, p_6, p_7, p_8, p_9, p_10, -⟩ := wr3
  refine lv_istore_n (lv' := [(3, .int r3), (0, .ref a0), (1, .int p0), (2, .int p1)]) hx hb dX10_lay_6 rfl hl (by decide) rfl (fun ls hl => ?_)
  refine lv_iload_n hx hb dX10_lay_7 rfl (lv_at hl 0 rfl) ?_
  refine lv_if_ge (tgt := 17) hx hb dX10_lay_8 (by decide) (fun c8 => ?_) (fun c8 => ?_)
  · have h_11 : rg 0 7 r3 := r_le_r_i c8 (rgn 0 (x := 0) (by decide)) p_1
    have h_12 : rg 0 7 p0 := (p_4 (rne h_11 (y := (-2)) (c := (-2)) (by decide) (by decide)))
    have h_13 : rg 0 7 p1 := (p_7 (rne h_11 (y := (-2)) (c := (-2)) (by decide) (by decide)))
    have h_14 : rg 1 8 n20_1 := (p_10 (rne h_11 (y := (-2)) (c := (-2)) (by decide) (by decide)))
    refine lv_aload_n hx hb dX10_lay_17 rfl (lv_at hl 1 rfl) ?_
    refine va_get (D := G) (ci := 10) (v := .ref a11) (C := RX10) (T := TX10) (N := 11) hx hb hts (by decide +kernel) hown hK.1 hP 0 rfl rfl 2 (by decide) (hts (.fieldLink RX10 28 "CardHolder" "play" "LCardHolder$Play;") (by decide +kernel)) (fun _ h9 => h9) rfl dX10_lay_18 ?_
    refine va_get (D := G) (ci := 4) (v := .ref a12) (C := RX4) (T := TX4) (N := 4) hx hb hts (by decide +kernel) hown hK.1 hP 1 rfl rfl 0 (by decide) (hts (.fieldLink RX10 49 "CardHolder$Play" "town" "LCardHolder$Town;") (by decide +kernel)) (fun _ h9 => h9) rfl dX10_lay_21 ?_
    refine lv_iload_n hx hb dX10_lay_24 rfl (lv_at hl 0 rfl) ?_
    refine lv_aload_n hx hb dX10_lay_25 rfl (lv_at hl 1 rfl) ?_
    refine ro_callr (va_runV (As := []) (rest := [.int r3, .ref a12]) ⟨hx, hb, hml, hown, hts⟩ (a_X10_bonds l G ct a0 a1 a3 a11 a25 a68 a69 a77 a82 a84 a88 a91 a12 a19 a24 n11_3 a20 a22 a23 n19_4 n19_5 n19_6 n19_7) (cwV 0 hts gX10_lay_X10_bonds rfl rfl rfl (by decide +kernel) ⟨Nat.le_of_ble_eq_true rfl, Nat.le_of_ble_eq_true rfl⟩) (ro_preV 10 0 hK (hP.sub [0, 1, 5] rfl) rfl rfl) rfl rfl hl.1 rfl (lv_room (Nat.le_of_ble_eq_true rfl)) dX10_lay_26 ⟨Nat.zero_le _, Nat.zero_le _⟩) hS hP (fun H locs hP hS => ?_)
    refine lv_iload_n hx hb dX10_lay_29 rfl (lv_at hl 3 rfl) ?_
    refine ro_calli (va_runV (As := [.int p1]) (rest := [.int r3, .ref a12]) ⟨hx, hb, hml, hown, hts⟩ (a_X0_handOf l G ct a20 a21 n20_1 f21 p1 (rg_w (c := 0) (d := 8) h_14 (by decide))) (cwV 1 hts gX10_lay_X0_handOf rfl rfl rfl (by decide +kernel) ⟨Nat.le_of_ble_eq_true rfl, Nat.le_of_ble_eq_true rfl⟩) (ro_preV 0 0 hK (hP.sub [6, 7] rfl) rfl rfl) rfl rfl hl.1 rfl (lv_room (Nat.le_of_ble_eq_true rfl)) dX10_lay_30 ⟨Nat.zero_le _, Nat.zero_le _⟩) hS hP (fun r30 H locs wr30 hP hS => ?_)
    obtain ⟨p_15, -⟩ := wr30
    refine ro_calli (va_runV (As := [.int r3, .int r30]) (rest := []) ⟨hx, hb, hml, hown, hts⟩ (a_X9_sureOf l G ct a12 a13 a15 a16 a17 a18 n12_5 n12_6 a14 n13_1 f15 r3 r30 hp_n13_1) (cwV 2 hts gX10_lay_X9_sureOf rfl rfl rfl (by decide +kernel) ⟨Nat.le_of_ble_eq_true rfl, Nat.le_of_ble_eq_true rfl⟩) (ro_preV 9 0 hK (hP.sub [2, 3, 4] rfl) rfl rfl) rfl rfl hl.1 rfl (lv_room (Nat.le_of_ble_eq_true rfl)) dX10_lay_33 ⟨Nat.zero_le _, Nat.zero_le _⟩) hS hP (fun r33 H locs wr33 hP hS => ?_)
    obtain ⟨p_16, -⟩ := wr33
    exact W.iret (v := r33) hx hb hr (fun t ht hW => ⟨⟨r33, (), rfl, ⟨p_16, (fun _ => h_12), (fun _ => h_12), (fun _ => h_13), (fun _ => h_13), (fun _ => h_14), (fun _ => h_14), trivial⟩, trivial⟩, hS.F ht⟩) hS.2.2 dX10_lay_36
  · have h_17 : rg (-2) (-1) r3 := r_lt_l_i (nle_i c8) p_1 (rgn 0 (x := 0) (by decide)) (by decide)
    refine lv_sipush (v := (-1000)) hx hb dX10_lay_11 (by decide) ?_
    refine lv_goto (tgt := 36) hx hb dX10_lay_14 (by decide) ?_
    exact W.iret (v := (-1000)) hx hb hr (fun t ht hW => ⟨⟨(-1000), (), rfl, ⟨(rg_w (c := (-2147483648)) (d := 999) (rgn (-1000) (x := (-1000)) (by decide)) (by decide)), (fun hq => absurd hq (rne (rgn (-1000) (x := (-1000)) (by decide)) (y := 0) (c := 0) (by decide) (by decide))), (fun hq => absurd hq (rne (rgn (-1000) (x := (-1000)) (by decide)) (y := (-1)) (c := (-1)) (by decide) (by decide))), (fun hq => absurd hq (rne (rgn (-1000) (x := (-1000)) (by decide)) (y := 0) (c := 0) (by decide) (by decide))), (fun hq => absurd hq (rne (rgn (-1000) (x := (-1000)) (by decide)) (y := (-1)) (c := (-1)) (by decide) (by decide))), (fun hq => absurd hq (rne (rgn (-1000) (x := (-1000)) (by decide)) (y := 0) (c := 0) (by decide) (by decide))), (fun hq => absurd hq (rne (rgn (-1000) (x := (-1000)) (by decide)) (y := (-1)) (c := (-1)) (by decide) (by decide))), trivial⟩, trivial⟩, hS.F ht⟩) hS.2.2 dX10_lay_36

set_option maxHeartbeats 4000000 in
set_option maxRecDepth 100000 in
theorem a_X10_reply (l : Launch) (G : va_G) (ct : Nat → ClassId) (a0 : Nat) (a1 : Nat) (a3 : Nat) (a11 : Nat) (a25 : Nat) (a68 : Nat) (a69 : Nat) (a77 : Nat) (a82 : Nat) (a84 : Nat) (a88 : Nat) (a91 : Nat) (a12 : Nat) (a19 : Nat) (a24 : Nat) (n11_3 : Int32) (a13 : Nat) (a15 : Nat) (a16 : Nat) (a17 : Nat) (a18 : Nat) (n12_5 : Int32) (n12_6 : Int32) (a14 : Nat) (n13_1 : Int32) (f15 : Nat → Int32) (a20 : Nat) (a22 : Nat) (a23 : Nat) (n19_4 : Int32) (n19_5 : Int32) (n19_6 : Int32) (n19_7 : Int32) (a21 : Nat) (n20_1 : Int32) (f21 : Nat → Int32) (p0 : Int32) (p1 : Int32) (hp_n13_1 : rg 0 8 n13_1) (hp_n20_1 : rg 0 8 n20_1) : Met l yX10_reply wsX10_reply ({ frames := 6, cells := 0, slots := 0, locals := 136 }) (va_Pc [.ref a0, .int p0, .int p1] (roP G ct [(a0, .inr (10, [.ref a1, .ref a3, .ref a11, .ref a25, .ref a68, .ref a69, .ref a77, .ref a82, .ref a84, .ref a88, .ref a91])), (a11, .inr (4, [.ref a12, .ref a19, .ref a24, .int n11_3])), (a12, .inr (9, [.ref a13, .ref a15, .ref a16, .ref a17, .ref a18, .int n12_5, .int n12_6])), (a13, .inr (0, [.ref a14, .int n13_1])), (a15, .inl (ct 0, 8, .inl f15)), (a19, .inr (2, [.ref a12, .ref a20, .ref a22, .ref a23, .int n19_4, .int n19_5, .int n19_6, .int n19_7])), (a20, .inr (0, [.ref a21, .int n20_1])), (a21, .inl (ct 0, 8, .inl f21))])) (roQ (fun r => rg (-2) 7 r ∧ (r = 0 → rg 0 7 p0) ∧ (r = (-1) → rg 0 7 p0) ∧ (¬ r = (-2) → rg 0 7 p0) ∧ (r = 0 → rg 0 7 p1) ∧ (r = (-1) → rg 0 7 p1) ∧ (¬ r = (-2) → rg 0 7 p1) ∧ (r = 0 → rg 1 8 n13_1) ∧ (r = 0 → rg 1 8 n20_1) ∧ (r = (-1) → rg 1 8 n20_1) ∧ (¬ r = (-2) → rg 1 8 n20_1) ∧ True)) 0 0 no := by
  refine Met.ofW (cc := cX10_reply) (maxL := 4) (ret := (some .int)) (by decide) rfl ?_
  intro p e s m args below meth c s₁ B hml hv
  obtain ⟨rfl, hP, hK⟩ := hv
  have hx := B.exec
  have hb := B.bytes
  have hr := B.returns
  have hts := atoms_spec (ws := wsX10_reply) B.pre
  have hown : s.vm.findClass RX10 = some m.cls := findClass_of_methodNamed B.named
  have hlocks := B.notSynchronized
  have hS : va_S no s.heap s.heap [] := va_S.rf
  have hl := lv_entry ([.ref a0, .int p0, .int p1]) (n := 4) (Nat.le_of_ble_eq_true rfl)
  rw [lg_entry_eq]
  generalize (lg_sl ([.ref a0, .int p0, .int p1]) ++ List.replicate (4 - (lg_sl ([.ref a0, .int p0, .int p1])).length) Slot.unset).toArray = ls at hl ⊢
  have hl : lv_has ls 4 [(0, .ref a0), (1, .int p0), (2, .int p1)] := hl
  refine lv_aload_n hx hb dX10_reply_0 rfl (lv_at hl 0 rfl) ?_
  refine lv_iload_n hx hb dX10_reply_1 rfl (lv_at hl 1 rfl) ?_
  refine lv_iload_n hx hb dX10_reply_2 rfl (lv_at hl 2 rfl) ?_
  refine ro_calli (va_runV (As := [.int p0, .int p1]) (rest := []) ⟨hx, hb, hml, hown, hts⟩ (a_X10_lays l G ct a0 a1 a3 a11 a25 a68 a69 a77 a82 a84 a88 a91 a12 a19 a24 n11_3 a13 a15 a16 a17 a18 n12_5 n12_6 a14 n13_1 f15 a20 a22 a23 n19_4 n19_5 n19_6 n19_7 a21 n20_1 f21 p0 p1 hp_n13_1 hp_n20_1) (cwV 2 hts gX10_reply_X10_lays rfl rfl rfl (by decide +kernel) ⟨Nat.le_of_ble_eq_true rfl, Nat.le_of_ble_eq_true rfl⟩) (ro_preV 10 0 hK (hP.sub [0, 1, 2, 3, 4, 5, 6, 7] rfl) rfl rfl) rfl rfl hl.1 rfl (lv_room (Nat.le_of_ble_eq_true rfl)) dX10_reply_3 ⟨Nat.zero_le _, Nat.zero_le _⟩) hS hP (fun r3 H locs wr3 hP hS => ?_)
  obtain ⟨p_1, p_2, p_3, p_4, p_5, p_6, p_7, p_8, p_9, p_10, -⟩ := wr3
  refine lv_istore_n (lv' := [(3, .int r3), (0, .ref a0), (1, .int p0), (2, .int p1)]) hx hb dX10_reply_6 rfl hl (by decide) rfl (fun ls hl => ?_)
  refine lv_iload_n hx hb dX10_reply_7 rfl (lv_at hl 0 rfl) ?_
  refine lv_if_ge (tgt := 14) hx hb dX10_reply_8 (by decide) (fun c8 => ?_) (fun c8 => ?_)
  · have h_11 : rg 0 7 r3 := r_le_r_i c8 (rgn 0 (x := 0) (by decide)) p_1
    have h_12 : rg 0 7 p0 := (p_4 (rne h_11 (y := (-2)) (c := (-2)) (by decide) (by decide)))
    have h_13 : rg 0 7 p1 := (p_7 (rne h_11 (y := (-2)) (c := (-2)) (by decide) (by decide)))
    have h_14 : rg 1 8 n20_1 := (p_10 (rne h_11 (y := (-2)) (c := (-2)) (by decide) (by decide)))
    refine lv_aload_n hx hb dX10_reply_14 rfl (lv_at hl 1 rfl) ?_
    refine va_get (D := G) (ci := 10) (v := .ref a11) (C := RX10) (T := TX10) (N := 11) hx hb hts (by decide +kernel) hown hK.1 hP 0 rfl rfl 2 (by decide) (hts (.fieldLink RX10 28 "CardHolder" "play" "LCardHolder$Play;") (by decide +kernel)) (fun _ h9 => h9) rfl dX10_reply_15 ?_
    refine va_get (D := G) (ci := 4) (v := .ref a12) (C := RX4) (T := TX4) (N := 4) hx hb hts (by decide +kernel) hown hK.1 hP 1 rfl rfl 0 (by decide) (hts (.fieldLink RX10 49 "CardHolder$Play" "town" "LCardHolder$Town;") (by decide +kernel)) (fun _ h9 => h9) rfl dX10_reply_18 ?_
    refine lv_iload_n hx hb dX10_reply_21 rfl (lv_at hl 0 rfl) ?_
    refine lv_aload_n hx hb dX10_reply_22 rfl (lv_at hl 1 rfl) ?_
    refine ro_callr (va_runV (As := []) (rest := [.int r3, .ref a12]) ⟨hx, hb, hml, hown, hts⟩ (a_X10_bonds l G ct a0 a1 a3 a11 a25 a68 a69 a77 a82 a84 a88 a91 a12 a19 a24 n11_3 a20 a22 a23 n19_4 n19_5 n19_6 n19_7) (cwV 0 hts gX10_reply_X10_bonds rfl rfl rfl (by decide +kernel) ⟨Nat.le_of_ble_eq_true rfl, Nat.le_of_ble_eq_true rfl⟩) (ro_preV 10 0 hK (hP.sub [0, 1, 5] rfl) rfl rfl) rfl rfl hl.1 rfl (lv_room (Nat.le_of_ble_eq_true rfl)) dX10_reply_23 ⟨Nat.zero_le _, Nat.zero_le _⟩) hS hP (fun H locs hP hS => ?_)
    refine lv_iload_n hx hb dX10_reply_26 rfl (lv_at hl 3 rfl) ?_
    refine ro_calli (va_runV (As := [.int p1]) (rest := [.int r3, .ref a12]) ⟨hx, hb, hml, hown, hts⟩ (a_X0_handOf l G ct a20 a21 n20_1 f21 p1 (rg_w (c := 0) (d := 8) h_14 (by decide))) (cwV 1 hts gX10_reply_X0_handOf rfl rfl rfl (by decide +kernel) ⟨Nat.le_of_ble_eq_true rfl, Nat.le_of_ble_eq_true rfl⟩) (ro_preV 0 0 hK (hP.sub [6, 7] rfl) rfl rfl) rfl rfl hl.1 rfl (lv_room (Nat.le_of_ble_eq_true rfl)) dX10_reply_27 ⟨Nat.zero_le _, Nat.zero_le _⟩) hS hP (fun r27 H locs wr27 hP hS => ?_)
    obtain ⟨p_15, -⟩ := wr27
    refine ro_calli (va_runV (As := [.int r3, .int r27]) (rest := []) ⟨hx, hb, hml, hown, hts⟩ (a_X9_hardestAgainst l G ct a12 a13 a15 a16 a17 a18 n12_5 n12_6 a14 n13_1 f15 r3 r27 hp_n13_1) (cwV 2 hts gX10_reply_X9_hardestAgainst rfl rfl rfl (by decide +kernel) ⟨Nat.le_of_ble_eq_true rfl, Nat.le_of_ble_eq_true rfl⟩) (ro_preV 9 0 hK (hP.sub [2, 3, 4] rfl) rfl rfl) rfl rfl hl.1 rfl (lv_room (Nat.le_of_ble_eq_true rfl)) dX10_reply_30 ⟨Nat.zero_le _, Nat.zero_le _⟩) hS hP (fun r30 H locs wr30 hP hS => ?_)
    obtain ⟨p_16, p_17, p_18, -⟩ := wr30
    exact W.iret (v := r30) hx hb hr (fun t ht hW => ⟨⟨r30, (), rfl, ⟨(rg_w (c := (-2)) (d := 7) p_16 (by decide)), (fun _ => h_12), (fun _ => h_12), (fun _ => h_12), (fun _ => h_13), (fun _ => h_13), (fun _ => h_13), (fun hq => rg_w (p_17 hq) (by decide)), (fun _ => h_14), (fun _ => h_14), (fun _ => h_14), trivial⟩, trivial⟩, hS.F ht⟩) hS.2.2 dX10_reply_33
  · have h_19 : rg (-2) (-1) r3 := r_lt_l_i (nle_i c8) p_1 (rgn 0 (x := 0) (by decide)) (by decide)
    refine lv_bipush (v := (-2)) hx hb dX10_reply_11 (by decide) ?_
    exact W.iret (v := (-2)) hx hb hr (fun t ht hW => ⟨⟨(-2), (), rfl, ⟨(rg_w (c := (-2)) (d := 7) (rgn (-2) (x := (-2)) (by decide)) (by decide)), (fun hq => absurd hq (rne (rgn (-2) (x := (-2)) (by decide)) (y := 0) (c := 0) (by decide) (by decide))), (fun hq => absurd hq (rne (rgn (-2) (x := (-2)) (by decide)) (y := (-1)) (c := (-1)) (by decide) (by decide))), (fun hq => absurd (req (rgn (-2) (x := (-2)) (by decide)) (y := (-2)) (by decide)) hq), (fun hq => absurd hq (rne (rgn (-2) (x := (-2)) (by decide)) (y := 0) (c := 0) (by decide) (by decide))), (fun hq => absurd hq (rne (rgn (-2) (x := (-2)) (by decide)) (y := (-1)) (c := (-1)) (by decide) (by decide))), (fun hq => absurd (req (rgn (-2) (x := (-2)) (by decide)) (y := (-2)) (by decide)) hq), (fun hq => absurd hq (rne (rgn (-2) (x := (-2)) (by decide)) (y := 0) (c := 0) (by decide) (by decide))), (fun hq => absurd hq (rne (rgn (-2) (x := (-2)) (by decide)) (y := 0) (c := 0) (by decide) (by decide))), (fun hq => absurd hq (rne (rgn (-2) (x := (-2)) (by decide)) (y := (-1)) (c := (-1)) (by decide) (by decide))), (fun hq => absurd (req (rgn (-2) (x := (-2)) (by decide)) (y := (-2)) (by decide)) hq), trivial⟩, trivial⟩, hS.F ht⟩) hS.2.2 dX10_reply_13

set_option maxHeartbeats 4000000 in
set_option maxRecDepth 100000 in
theorem a_X10_leave (l : Launch) (G : va_G) (ct : Nat → ClassId) (a0 : Nat) (a1 : Nat) (a3 : Nat) (a11 : Nat) (a25 : Nat) (a68 : Nat) (a69 : Nat) (a77 : Nat) (a82 : Nat) (a84 : Nat) (a88 : Nat) (a91 : Nat) (a12 : Nat) (a19 : Nat) (a24 : Nat) (n11_3 : Int32) (a13 : Nat) (a15 : Nat) (a16 : Nat) (a17 : Nat) (a18 : Nat) (n12_5 : Int32) (n12_6 : Int32) (a14 : Nat) (n13_1 : Int32) (f15 : Nat → Int32) (a20 : Nat) (a22 : Nat) (a23 : Nat) (n19_4 : Int32) (n19_5 : Int32) (n19_6 : Int32) (n19_7 : Int32) (a21 : Nat) (n20_1 : Int32) (f21 : Nat → Int32) (a92 : Nat) (a93 : Nat) (a94 : Nat) (n91_3 : Int32) (f92 : Nat → Int32) (f93 : Nat → Int32) (f94 : Nat → Int32) (p0 : Int32) (hp_n13_1 : rg 0 8 n13_1) (hp_n20_1 : rg 0 8 n20_1) (hp_n91_3 : rg (-2147483648) 8 n91_3) : Met l yX10_leave wsX10_leave ({ frames := 4, cells := 0, slots := 0, locals := 89 }) (va_Pc [.ref a0, .int p0] (wrP G ct [(a0, .inr (10, [.ref a1, .ref a3, .ref a11, .ref a25, .ref a68, .ref a69, .ref a77, .ref a82, .ref a84, .ref a88, .ref a91])), (a11, .inr (4, [.ref a12, .ref a19, .ref a24, .int n11_3])), (a12, .inr (9, [.ref a13, .ref a15, .ref a16, .ref a17, .ref a18, .int n12_5, .int n12_6])), (a13, .inr (0, [.ref a14, .int n13_1])), (a15, .inl (ct 0, 8, .inl f15)), (a19, .inr (2, [.ref a12, .ref a20, .ref a22, .ref a23, .int n19_4, .int n19_5, .int n19_6, .int n19_7])), (a20, .inr (0, [.ref a21, .int n20_1])), (a21, .inl (ct 0, 8, .inl f21)), (a91, .inr (3, [.ref a92, .ref a93, .ref a94, .int n91_3])), (a92, .inl (ct 0, 8, .inl f92)), (a93, .inl (ct 0, 8, .inl f93)), (a94, .inl (ct 0, 8, .inl f94))])) (va_Qi (fun (r : Int32) (u : SU) => rg (-2) 255 r ∧ (r = 0 → rg 0 255 p0) ∧ (¬ r = (-2) → rg 0 255 p0) ∧ (r = 0 → rg 1 2147483647 n12_5) ∧ (¬ r = (-2) → rg 1 2147483647 n12_5) ∧ rg (-2147483648) 8 (u.1 0) ∧ True) (fun u t => va_P G vwCl ((fun u : SU => [(a0, .inr (10, [.ref a1, .ref a3, .ref a11, .ref a25, .ref a68, .ref a69, .ref a77, .ref a82, .ref a84, .ref a88, .ref a91])), (a11, .inr (4, [.ref a12, .ref a19, .ref a24, .int n11_3])), (a12, .inr (9, [.ref a13, .ref a15, .ref a16, .ref a17, .ref a18, .int n12_5, .int n12_6])), (a13, .inr (0, [.ref a14, .int n13_1])), (a15, .inl (ct 0, 8, .inl f15)), (a19, .inr (2, [.ref a12, .ref a20, .ref a22, .ref a23, .int n19_4, .int n19_5, .int n19_6, .int n19_7])), (a20, .inr (0, [.ref a21, .int n20_1])), (a21, .inl (ct 0, 8, .inl f21)), (a91, .inr (3, [.ref a92, .ref a93, .ref a94, .int (u.1 0)])), (a92, .inl (ct 0, 8, .inl (u.2.1 0))), (a93, .inl (ct 0, 8, .inl (u.2.1 1))), (a94, .inl (ct 0, 8, .inl (u.2.1 2)))]) u) t.heap) (aset [(a0, .inr (10, [.ref a1, .ref a3, .ref a11, .ref a25, .ref a68, .ref a69, .ref a77, .ref a82, .ref a84, .ref a88, .ref a91])), (a11, .inr (4, [.ref a12, .ref a19, .ref a24, .int n11_3])), (a12, .inr (9, [.ref a13, .ref a15, .ref a16, .ref a17, .ref a18, .int n12_5, .int n12_6])), (a13, .inr (0, [.ref a14, .int n13_1])), (a15, .inl (ct 0, 8, .inl f15)), (a19, .inr (2, [.ref a12, .ref a20, .ref a22, .ref a23, .int n19_4, .int n19_5, .int n19_6, .int n19_7])), (a20, .inr (0, [.ref a21, .int n20_1])), (a21, .inl (ct 0, 8, .inl f21)), (a91, .inr (3, [.ref a92, .ref a93, .ref a94, .int n91_3])), (a92, .inl (ct 0, 8, .inl f92)), (a93, .inl (ct 0, 8, .inl f93)), (a94, .inl (ct 0, 8, .inl f94))])) 0 0 (aset [(a0, .inr (10, [.ref a1, .ref a3, .ref a11, .ref a25, .ref a68, .ref a69, .ref a77, .ref a82, .ref a84, .ref a88, .ref a91])), (a11, .inr (4, [.ref a12, .ref a19, .ref a24, .int n11_3])), (a12, .inr (9, [.ref a13, .ref a15, .ref a16, .ref a17, .ref a18, .int n12_5, .int n12_6])), (a13, .inr (0, [.ref a14, .int n13_1])), (a15, .inl (ct 0, 8, .inl f15)), (a19, .inr (2, [.ref a12, .ref a20, .ref a22, .ref a23, .int n19_4, .int n19_5, .int n19_6, .int n19_7])), (a20, .inr (0, [.ref a21, .int n20_1])), (a21, .inl (ct 0, 8, .inl f21)), (a91, .inr (3, [.ref a92, .ref a93, .ref a94, .int n91_3])), (a92, .inl (ct 0, 8, .inl f92)), (a93, .inl (ct 0, 8, .inl f93)), (a94, .inl (ct 0, 8, .inl f94))]) := by
  refine Met.ofW (cc := cX10_leave) (maxL := 2) (ret := (some .int)) (by decide) rfl ?_
  intro p e s m args below meth c s₁ B hml hv
  obtain ⟨rfl, hP, hK, hD0⟩ := hv
  have hx := B.exec
  have hb := B.bytes
  have hr := B.returns
  have hts := atoms_spec (ws := wsX10_leave) B.pre
  have hown : s.vm.findClass RX10 = some m.cls := findClass_of_methodNamed B.named
  have hlocks := B.notSynchronized
  have hD := hD0.aself
  generalize hAe : aset [(a0, .inr (10, [.ref a1, .ref a3, .ref a11, .ref a25, .ref a68, .ref a69, .ref a77, .ref a82, .ref a84, .ref a88, .ref a91])), (a11, .inr (4, [.ref a12, .ref a19, .ref a24, .int n11_3])), (a12, .inr (9, [.ref a13, .ref a15, .ref a16, .ref a17, .ref a18, .int n12_5, .int n12_6])), (a13, .inr (0, [.ref a14, .int n13_1])), (a15, .inl (ct 0, 8, .inl f15)), (a19, .inr (2, [.ref a12, .ref a20, .ref a22, .ref a23, .int n19_4, .int n19_5, .int n19_6, .int n19_7])), (a20, .inr (0, [.ref a21, .int n20_1])), (a21, .inl (ct 0, 8, .inl f21)), (a91, .inr (3, [.ref a92, .ref a93, .ref a94, .int n91_3])), (a92, .inl (ct 0, 8, .inl f92)), (a93, .inl (ct 0, 8, .inl f93)), (a94, .inl (ct 0, 8, .inl f94))] = A at hD ⊢
  have hS : va_S A s.heap s.heap [] := va_S.rf
  have hl := lv_entry ([.ref a0, .int p0]) (n := 2) (Nat.le_of_ble_eq_true rfl)
  rw [lg_entry_eq]
  generalize (lg_sl ([.ref a0, .int p0]) ++ List.replicate (2 - (lg_sl ([.ref a0, .int p0])).length) Slot.unset).toArray = ls at hl ⊢
  have hl : lv_has ls 2 [(0, .ref a0), (1, .int p0)] := hl
  refine lv_aload_n hx hb dX10_leave_0 rfl (lv_at hl 0 rfl) ?_
  refine ro_calli (va_runV (As := []) (rest := []) ⟨hx, hb, hml, hown, hts⟩ (a_X10_hasCity l G ct a0 a1 a3 a11 a25 a68 a69 a77 a82 a84 a88 a91 a12 a19 a24 n11_3 a13 a15 a16 a17 a18 n12_5 n12_6) (cwV 0 hts gX10_leave_X10_hasCity rfl rfl rfl (by decide +kernel) ⟨Nat.le_of_ble_eq_true rfl, Nat.le_of_ble_eq_true rfl⟩) (ro_preV 10 0 hK (hP.sub [0, 1, 2] rfl) rfl rfl) rfl rfl hl.1 rfl (lv_room (Nat.le_of_ble_eq_true rfl)) dX10_leave_1 ⟨Nat.zero_le _, Nat.zero_le _⟩) hS hP (fun r1 H locs wr1 hP hS => ?_)
  obtain ⟨p_1, p_2, p_3, -⟩ := wr1
  refine lv_if_eq (tgt := 15) hx hb dX10_leave_4 (by decide) (fun c4 => ?_) (fun c4 => ?_)
  · have h_4 : rg 0 0 r1 := r_eq_l_i (e := 0) (f := 0) c4 p_1 (rgn 0 (x := 0) (by decide)) (by decide)
    have h_5 : rg (-2147483648) 0 n12_5 := (p_3 (req h_4 (y := 0) (by decide)))
    refine lv_bipush (v := (-2)) hx hb dX10_leave_15 (by decide) ?_
    exact W.iret (v := (-2)) hx hb hr (fun t ht hW => ⟨⟨(-2), (fun k => ([n91_3] : List Int32).getD k 0, fun k => ([f92, f93, f94] : List (Nat → Int32)).getD k (fun _ => 0), fun k => ([] : List (Nat → Int64)).getD k (fun _ => 0)), rfl, ⟨(rg_w (c := (-2)) (d := 255) (rgn (-2) (x := (-2)) (by decide)) (by decide)), (fun hq => absurd hq (rne (rgn (-2) (x := (-2)) (by decide)) (y := 0) (c := 0) (by decide) (by decide))), (fun hq => absurd (req (rgn (-2) (x := (-2)) (by decide)) (y := (-2)) (by decide)) hq), (fun hq => absurd hq (rne (rgn (-2) (x := (-2)) (by decide)) (y := 0) (c := 0) (by decide) (by decide))), (fun hq => absurd (req (rgn (-2) (x := (-2)) (by decide)) (y := (-2)) (by decide)) hq), hp_n91_3, trivial⟩, hp_at ht hP⟩, hS.F ht⟩) hS.2.2 dX10_leave_17
  · have h_6 : rg 1 1 r1 := r_ne_lo_i c4 p_1 (by decide) (by decide)
    have h_7 : rg 1 2147483647 n12_5 := (p_2 (rne h_6 (y := 0) (c := 0) (by decide) (by decide)))
    refine lv_aload_n hx hb dX10_leave_7 rfl (lv_at hl 0 rfl) ?_
    refine lv_iload_n hx hb dX10_leave_8 rfl (lv_at hl 1 rfl) ?_
    refine ro_calli (va_runV (As := [.int p0]) (rest := []) ⟨hx, hb, hml, hown, hts⟩ (a_X10_isPersonSet l G ct a0 a1 a3 a11 a25 a68 a69 a77 a82 a84 a88 a91 a12 a19 a24 n11_3 a20 a22 a23 n19_4 n19_5 n19_6 n19_7 a21 n20_1 p0 hp_n20_1) (cwV 1 hts gX10_leave_X10_isPersonSet rfl rfl rfl (by decide +kernel) ⟨Nat.le_of_ble_eq_true rfl, Nat.le_of_ble_eq_true rfl⟩) (ro_preV 10 0 hK (hP.sub [0, 1, 5, 6] rfl) rfl rfl) rfl rfl hl.1 rfl (lv_room (Nat.le_of_ble_eq_true rfl)) dX10_leave_9 ⟨Nat.zero_le _, Nat.zero_le _⟩) hS hP (fun r9 H locs wr9 hP hS => ?_)
    obtain ⟨p_8, p_9, -⟩ := wr9
    refine lv_if_ne (tgt := 18) hx hb dX10_leave_12 (by decide) (fun c12 => ?_) (fun c12 => ?_)
    · have h_10 : rg 1 1 r9 := r_ne_lo_i c12 p_8 (by decide) (by decide)
      have h_11 : rg 0 255 p0 := (p_9 (rne h_10 (y := 0) (c := 0) (by decide) (by decide)))
      refine lv_aload_n hx hb dX10_leave_18 rfl (lv_at hl 0 rfl) ?_
      refine va_get (D := G) (ci := 10) (v := .ref a91) (C := RX10) (T := TX10) (N := 11) hx hb hts (by decide +kernel) hown hK.1 hP 0 rfl rfl 10 (by decide) (hts (.fieldLink RX10 84 "CardHolder" "peace" "LCardHolder$Peace;") (by decide +kernel)) (fun _ h9 => h9) rfl dX10_leave_19 ?_
      refine lv_aload_n hx hb dX10_leave_22 rfl (lv_at hl 0 rfl) ?_
      refine va_get (D := G) (ci := 10) (v := .ref a11) (C := RX10) (T := TX10) (N := 11) hx hb hts (by decide +kernel) hown hK.1 hP 0 rfl rfl 2 (by decide) (hts (.fieldLink RX10 28 "CardHolder" "play" "LCardHolder$Play;") (by decide +kernel)) (fun _ h9 => h9) rfl dX10_leave_23 ?_
      refine wj_callv (wr := [(a0, .inr (10, [.ref a1, .ref a3, .ref a11, .ref a25, .ref a68, .ref a69, .ref a77, .ref a82, .ref a84, .ref a88, .ref a91]))]) (w1 := (fun u : SU => [(a91, .inr (3, [.ref a92, .ref a93, .ref a94, .int (u.1 0)])), (a92, .inl (ct 0, 8, .inl (u.2.1 0))), (a93, .inl (ct 0, 8, .inl (u.2.1 1))), (a94, .inl (ct 0, 8, .inl (u.2.1 2))), (a11, .inr (4, [.ref a12, .ref a19, .ref a24, .int n11_3])), (a12, .inr (9, [.ref a13, .ref a15, .ref a16, .ref a17, .ref a18, .int n12_5, .int n12_6])), (a13, .inr (0, [.ref a14, .int n13_1])), (a15, .inl (ct 0, 8, .inl f15)), (a19, .inr (2, [.ref a12, .ref a20, .ref a22, .ref a23, .int n19_4, .int n19_5, .int n19_6, .int n19_7])), (a20, .inr (0, [.ref a21, .int n20_1])), (a21, .inl (ct 0, 8, .inl f21))])) (va_runV (As := [.ref a11]) (rest := []) ⟨hx, hb, hml, hown, hts⟩ (a_X3_take l G ct a91 a92 a93 a94 n91_3 f92 f93 f94 a11 a12 a19 a24 n11_3 a13 a15 a16 a17 a18 n12_5 n12_6 a14 n13_1 f15 a20 a22 a23 n19_4 n19_5 n19_6 n19_7 a21 n20_1 f21 hp_n91_3 hp_n13_1 hp_n20_1) (cwV 1 hts gX10_leave_X3_take rfl rfl rfl (by decide +kernel) ⟨Nat.le_of_ble_eq_true rfl, Nat.le_of_ble_eq_true rfl⟩) (wr_preV 3 0 hK (hP.sub [8, 9, 10, 11, 1, 2, 3, 4, 5, 6, 7] rfl) (hD.sub [8, 9, 10, 11, 1, 2, 3, 4, 5, 6, 7] (by decide) rfl) rfl rfl) rfl rfl hl.1 rfl (lv_room (Nat.le_of_ble_eq_true rfl)) dX10_leave_26 ⟨Nat.zero_le _, Nat.zero_le _⟩) hS hP hD [8, 9, 10, 11, 1, 2, 3, 4, 5, 6, 7] [0] rfl rfl (by decide) (fun _ => rfl) (fun ur26 H locs wr26 hP hD hS => ?_)
      have hP : va_P G vwCl [(a0, .inr (10, [.ref a1, .ref a3, .ref a11, .ref a25, .ref a68, .ref a69, .ref a77, .ref a82, .ref a84, .ref a88, .ref a91])), (a11, .inr (4, [.ref a12, .ref a19, .ref a24, .int n11_3])), (a12, .inr (9, [.ref a13, .ref a15, .ref a16, .ref a17, .ref a18, .int n12_5, .int n12_6])), (a13, .inr (0, [.ref a14, .int n13_1])), (a15, .inl (ct 0, 8, .inl f15)), (a19, .inr (2, [.ref a12, .ref a20, .ref a22, .ref a23, .int n19_4, .int n19_5, .int n19_6, .int n19_7])), (a20, .inr (0, [.ref a21, .int n20_1])), (a21, .inl (ct 0, 8, .inl f21)), (a91, .inr (3, [.ref a92, .ref a93, .ref a94, .int (ur26.1 0)])), (a92, .inl (ct 0, 8, .inl (ur26.2.1 0))), (a93, .inl (ct 0, 8, .inl (ur26.2.1 1))), (a94, .inl (ct 0, 8, .inl (ur26.2.1 2)))] H := hP.sub [0, 5, 6, 7, 8, 9, 10, 11, 1, 2, 3, 4] rfl
      have hD : va_D A [(a0, .inr (10, [.ref a1, .ref a3, .ref a11, .ref a25, .ref a68, .ref a69, .ref a77, .ref a82, .ref a84, .ref a88, .ref a91])), (a11, .inr (4, [.ref a12, .ref a19, .ref a24, .int n11_3])), (a12, .inr (9, [.ref a13, .ref a15, .ref a16, .ref a17, .ref a18, .int n12_5, .int n12_6])), (a13, .inr (0, [.ref a14, .int n13_1])), (a15, .inl (ct 0, 8, .inl f15)), (a19, .inr (2, [.ref a12, .ref a20, .ref a22, .ref a23, .int n19_4, .int n19_5, .int n19_6, .int n19_7])), (a20, .inr (0, [.ref a21, .int n20_1])), (a21, .inl (ct 0, 8, .inl f21)), (a91, .inr (3, [.ref a92, .ref a93, .ref a94, .int (ur26.1 0)])), (a92, .inl (ct 0, 8, .inl (ur26.2.1 0))), (a93, .inl (ct 0, 8, .inl (ur26.2.1 1))), (a94, .inl (ct 0, 8, .inl (ur26.2.1 2)))] := hD.sub [0, 5, 6, 7, 8, 9, 10, 11, 1, 2, 3, 4] (by decide) rfl
      obtain ⟨p_12, -⟩ := wr26
      refine lv_aload_n hx hb dX10_leave_29 rfl (lv_at hl 0 rfl) ?_
      refine va_get (D := G) (ci := 10) (v := .ref a91) (C := RX10) (T := TX10) (N := 11) hx hb hts (by decide +kernel) hown hK.1 hP 0 rfl rfl 10 (by decide) (hts (.fieldLink RX10 84 "CardHolder" "peace" "LCardHolder$Peace;") (by decide +kernel)) (fun _ h9 => h9) rfl dX10_leave_30 ?_
      refine lv_iload_n hx hb dX10_leave_33 rfl (lv_at hl 1 rfl) ?_
      refine ro_calli (va_runV (As := [.int p0]) (rest := []) ⟨hx, hb, hml, hown, hts⟩ (a_X3_losersOf l G ct a91 a92 a93 a94 (ur26.1 0) (ur26.2.1 0) (ur26.2.1 1) (ur26.2.1 2) p0 (rg_w (c := (-2147483648)) (d := 8) p_12 (by decide))) (cwV 1 hts gX10_leave_X3_losersOf rfl rfl rfl (by decide +kernel) ⟨Nat.le_of_ble_eq_true rfl, Nat.le_of_ble_eq_true rfl⟩) (ro_preV 3 0 hK (hP.sub [8, 9, 10, 11] rfl) rfl rfl) rfl rfl hl.1 rfl (lv_room (Nat.le_of_ble_eq_true rfl)) dX10_leave_34 ⟨Nat.zero_le _, Nat.zero_le _⟩) hS hP (fun r34 H locs wr34 hP hS => ?_)
      obtain ⟨p_13, -⟩ := wr34
      exact W.iret (v := r34) hx hb hr (fun t ht hW => ⟨⟨r34, (fun k => ([ur26.1 0] : List Int32).getD k 0, fun k => ([ur26.2.1 0, ur26.2.1 1, ur26.2.1 2] : List (Nat → Int32)).getD k (fun _ => 0), fun k => ([] : List (Nat → Int64)).getD k (fun _ => 0)), rfl, ⟨(rg_w (c := (-2)) (d := 255) p_13 (by decide)), (fun _ => h_11), (fun _ => h_11), (fun _ => h_7), (fun _ => h_7), (rg_w (c := (-2147483648)) (d := 8) p_12 (by decide)), trivial⟩, hp_at ht hP⟩, hS.F ht⟩) hS.2.2 dX10_leave_37
    · have h_14 : rg 0 0 r9 := r_eq_l_i (e := 0) (f := 0) c12 p_8 (rgn 0 (x := 0) (by decide)) (by decide)
      refine lv_bipush (v := (-2)) hx hb dX10_leave_15 (by decide) ?_
      exact W.iret (v := (-2)) hx hb hr (fun t ht hW => ⟨⟨(-2), (fun k => ([n91_3] : List Int32).getD k 0, fun k => ([f92, f93, f94] : List (Nat → Int32)).getD k (fun _ => 0), fun k => ([] : List (Nat → Int64)).getD k (fun _ => 0)), rfl, ⟨(rg_w (c := (-2)) (d := 255) (rgn (-2) (x := (-2)) (by decide)) (by decide)), (fun hq => absurd hq (rne (rgn (-2) (x := (-2)) (by decide)) (y := 0) (c := 0) (by decide) (by decide))), (fun hq => absurd (req (rgn (-2) (x := (-2)) (by decide)) (y := (-2)) (by decide)) hq), (fun _ => h_7), (fun _ => h_7), hp_n91_3, trivial⟩, hp_at ht hP⟩, hS.F ht⟩) hS.2.2 dX10_leave_17

set_option maxHeartbeats 4000000 in
set_option maxRecDepth 100000 in
theorem a_X10_firm (l : Launch) (G : va_G) (ct : Nat → ClassId) (a0 : Nat) (a1 : Nat) (a3 : Nat) (a11 : Nat) (a25 : Nat) (a68 : Nat) (a69 : Nat) (a77 : Nat) (a82 : Nat) (a84 : Nat) (a88 : Nat) (a91 : Nat) (a12 : Nat) (a19 : Nat) (a24 : Nat) (n11_3 : Int32) (a13 : Nat) (a15 : Nat) (a16 : Nat) (a17 : Nat) (a18 : Nat) (n12_5 : Int32) (n12_6 : Int32) (a14 : Nat) (n13_1 : Int32) (f15 : Nat → Int32) (a20 : Nat) (a22 : Nat) (a23 : Nat) (n19_4 : Int32) (n19_5 : Int32) (n19_6 : Int32) (n19_7 : Int32) (a21 : Nat) (n20_1 : Int32) (f21 : Nat → Int32) (a92 : Nat) (a93 : Nat) (a94 : Nat) (n91_3 : Int32) (f92 : Nat → Int32) (f93 : Nat → Int32) (f94 : Nat → Int32) (p0 : Int32) (hp_n13_1 : rg 0 8 n13_1) (hp_n20_1 : rg 0 8 n20_1) (hp_n91_3 : rg (-2147483648) 8 n91_3) : Met l yX10_firm wsX10_firm ({ frames := 5, cells := 0, slots := 0, locals := 110 }) (va_Pc [.ref a0, .int p0] (wrP G ct [(a0, .inr (10, [.ref a1, .ref a3, .ref a11, .ref a25, .ref a68, .ref a69, .ref a77, .ref a82, .ref a84, .ref a88, .ref a91])), (a11, .inr (4, [.ref a12, .ref a19, .ref a24, .int n11_3])), (a12, .inr (9, [.ref a13, .ref a15, .ref a16, .ref a17, .ref a18, .int n12_5, .int n12_6])), (a13, .inr (0, [.ref a14, .int n13_1])), (a15, .inl (ct 0, 8, .inl f15)), (a19, .inr (2, [.ref a12, .ref a20, .ref a22, .ref a23, .int n19_4, .int n19_5, .int n19_6, .int n19_7])), (a20, .inr (0, [.ref a21, .int n20_1])), (a21, .inl (ct 0, 8, .inl f21)), (a91, .inr (3, [.ref a92, .ref a93, .ref a94, .int n91_3])), (a92, .inl (ct 0, 8, .inl f92)), (a93, .inl (ct 0, 8, .inl f93)), (a94, .inl (ct 0, 8, .inl f94))])) (va_Qi (fun (r : Int32) (u : SU) => rg (-2) 1 r ∧ (r = 0 → rg 0 255 p0) ∧ (¬ r = (-2) → rg 0 255 p0) ∧ (r = 0 → rg 1 2147483647 n12_5) ∧ (¬ r = (-2) → rg 1 2147483647 n12_5) ∧ rg (-2147483648) 8 (u.1 0) ∧ True) (fun u t => va_P G vwCl ((fun u : SU => [(a0, .inr (10, [.ref a1, .ref a3, .ref a11, .ref a25, .ref a68, .ref a69, .ref a77, .ref a82, .ref a84, .ref a88, .ref a91])), (a11, .inr (4, [.ref a12, .ref a19, .ref a24, .int n11_3])), (a12, .inr (9, [.ref a13, .ref a15, .ref a16, .ref a17, .ref a18, .int n12_5, .int n12_6])), (a13, .inr (0, [.ref a14, .int n13_1])), (a15, .inl (ct 0, 8, .inl f15)), (a19, .inr (2, [.ref a12, .ref a20, .ref a22, .ref a23, .int n19_4, .int n19_5, .int n19_6, .int n19_7])), (a20, .inr (0, [.ref a21, .int n20_1])), (a21, .inl (ct 0, 8, .inl f21)), (a91, .inr (3, [.ref a92, .ref a93, .ref a94, .int (u.1 0)])), (a92, .inl (ct 0, 8, .inl (u.2.1 0))), (a93, .inl (ct 0, 8, .inl (u.2.1 1))), (a94, .inl (ct 0, 8, .inl (u.2.1 2)))]) u) t.heap) (aset [(a0, .inr (10, [.ref a1, .ref a3, .ref a11, .ref a25, .ref a68, .ref a69, .ref a77, .ref a82, .ref a84, .ref a88, .ref a91])), (a11, .inr (4, [.ref a12, .ref a19, .ref a24, .int n11_3])), (a12, .inr (9, [.ref a13, .ref a15, .ref a16, .ref a17, .ref a18, .int n12_5, .int n12_6])), (a13, .inr (0, [.ref a14, .int n13_1])), (a15, .inl (ct 0, 8, .inl f15)), (a19, .inr (2, [.ref a12, .ref a20, .ref a22, .ref a23, .int n19_4, .int n19_5, .int n19_6, .int n19_7])), (a20, .inr (0, [.ref a21, .int n20_1])), (a21, .inl (ct 0, 8, .inl f21)), (a91, .inr (3, [.ref a92, .ref a93, .ref a94, .int n91_3])), (a92, .inl (ct 0, 8, .inl f92)), (a93, .inl (ct 0, 8, .inl f93)), (a94, .inl (ct 0, 8, .inl f94))])) 0 0 (aset [(a0, .inr (10, [.ref a1, .ref a3, .ref a11, .ref a25, .ref a68, .ref a69, .ref a77, .ref a82, .ref a84, .ref a88, .ref a91])), (a11, .inr (4, [.ref a12, .ref a19, .ref a24, .int n11_3])), (a12, .inr (9, [.ref a13, .ref a15, .ref a16, .ref a17, .ref a18, .int n12_5, .int n12_6])), (a13, .inr (0, [.ref a14, .int n13_1])), (a15, .inl (ct 0, 8, .inl f15)), (a19, .inr (2, [.ref a12, .ref a20, .ref a22, .ref a23, .int n19_4, .int n19_5, .int n19_6, .int n19_7])), (a20, .inr (0, [.ref a21, .int n20_1])), (a21, .inl (ct 0, 8, .inl f21)), (a91, .inr (3, [.ref a92, .ref a93, .ref a94, .int n91_3])), (a92, .inl (ct 0, 8, .inl f92)), (a93, .inl (ct 0, 8, .inl f93)), (a94, .inl (ct 0, 8, .inl f94))]) := by
  refine Met.ofW (cc := cX10_firm) (maxL := 3) (ret := (some .int)) (by decide) rfl ?_
  intro p e s m args below meth c s₁ B hml hv
  obtain ⟨rfl, hP, hK, hD0⟩ := hv
  have hx := B.exec
  have hb := B.bytes
  have hr := B.returns
  have hts := atoms_spec (ws := wsX10_firm) B.pre
  have hown : s.vm.findClass RX10 = some m.cls := findClass_of_methodNamed B.named
  have hlocks := B.notSynchronized
  have hD := hD0.aself
  generalize hAe : aset [(a0, .inr (10, [.ref a1, .ref a3, .ref a11, .ref a25, .ref a68, .ref a69, .ref a77, .ref a82, .ref a84, .ref a88, .ref a91])), (a11, .inr (4, [.ref a12, .ref a19, .ref a24, .int n11_3])), (a12, .inr (9, [.ref a13, .ref a15, .ref a16, .ref a17, .ref a18, .int n12_5, .int n12_6])), (a13, .inr (0, [.ref a14, .int n13_1])), (a15, .inl (ct 0, 8, .inl f15)), (a19, .inr (2, [.ref a12, .ref a20, .ref a22, .ref a23, .int n19_4, .int n19_5, .int n19_6, .int n19_7])), (a20, .inr (0, [.ref a21, .int n20_1])), (a21, .inl (ct 0, 8, .inl f21)), (a91, .inr (3, [.ref a92, .ref a93, .ref a94, .int n91_3])), (a92, .inl (ct 0, 8, .inl f92)), (a93, .inl (ct 0, 8, .inl f93)), (a94, .inl (ct 0, 8, .inl f94))] = A at hD ⊢
  have hS : va_S A s.heap s.heap [] := va_S.rf
  have hl := lv_entry ([.ref a0, .int p0]) (n := 3) (Nat.le_of_ble_eq_true rfl)
  rw [lg_entry_eq]
  generalize (lg_sl ([.ref a0, .int p0]) ++ List.replicate (3 - (lg_sl ([.ref a0, .int p0])).length) Slot.unset).toArray = ls at hl ⊢
  have hl : lv_has ls 3 [(0, .ref a0), (1, .int p0)] := hl
  refine lv_aload_n hx hb dX10_firm_0 rfl (lv_at hl 0 rfl) ?_
  refine lv_iload_n hx hb dX10_firm_1 rfl (lv_at hl 1 rfl) ?_
  refine wj_calli (wr := []) (w1 := (fun u : SU => [(a0, .inr (10, [.ref a1, .ref a3, .ref a11, .ref a25, .ref a68, .ref a69, .ref a77, .ref a82, .ref a84, .ref a88, .ref a91])), (a11, .inr (4, [.ref a12, .ref a19, .ref a24, .int n11_3])), (a12, .inr (9, [.ref a13, .ref a15, .ref a16, .ref a17, .ref a18, .int n12_5, .int n12_6])), (a13, .inr (0, [.ref a14, .int n13_1])), (a15, .inl (ct 0, 8, .inl f15)), (a19, .inr (2, [.ref a12, .ref a20, .ref a22, .ref a23, .int n19_4, .int n19_5, .int n19_6, .int n19_7])), (a20, .inr (0, [.ref a21, .int n20_1])), (a21, .inl (ct 0, 8, .inl f21)), (a91, .inr (3, [.ref a92, .ref a93, .ref a94, .int (u.1 0)])), (a92, .inl (ct 0, 8, .inl (u.2.1 0))), (a93, .inl (ct 0, 8, .inl (u.2.1 1))), (a94, .inl (ct 0, 8, .inl (u.2.1 2)))])) (va_runV (As := [.int p0]) (rest := []) ⟨hx, hb, hml, hown, hts⟩ (a_X10_leave l G ct a0 a1 a3 a11 a25 a68 a69 a77 a82 a84 a88 a91 a12 a19 a24 n11_3 a13 a15 a16 a17 a18 n12_5 n12_6 a14 n13_1 f15 a20 a22 a23 n19_4 n19_5 n19_6 n19_7 a21 n20_1 f21 a92 a93 a94 n91_3 f92 f93 f94 p0 hp_n13_1 hp_n20_1 hp_n91_3) (cwV 1 hts gX10_firm_X10_leave rfl rfl rfl (by decide +kernel) ⟨Nat.le_of_ble_eq_true rfl, Nat.le_of_ble_eq_true rfl⟩) (wr_preV 10 0 hK (hP.sub [0, 1, 2, 3, 4, 5, 6, 7, 8, 9, 10, 11] rfl) (hD.sub [0, 1, 2, 3, 4, 5, 6, 7, 8, 9, 10, 11] (by decide) rfl) rfl rfl) rfl rfl hl.1 rfl (lv_room (Nat.le_of_ble_eq_true rfl)) dX10_firm_2 ⟨Nat.zero_le _, Nat.zero_le _⟩) hS hP hD [0, 1, 2, 3, 4, 5, 6, 7, 8, 9, 10, 11] [] rfl rfl (by decide) (fun _ => rfl) (fun r2 ur2 H locs wr2 hP hD hS => ?_)
  have hP : va_P G vwCl [(a0, .inr (10, [.ref a1, .ref a3, .ref a11, .ref a25, .ref a68, .ref a69, .ref a77, .ref a82, .ref a84, .ref a88, .ref a91])), (a11, .inr (4, [.ref a12, .ref a19, .ref a24, .int n11_3])), (a12, .inr (9, [.ref a13, .ref a15, .ref a16, .ref a17, .ref a18, .int n12_5, .int n12_6])), (a13, .inr (0, [.ref a14, .int n13_1])), (a15, .inl (ct 0, 8, .inl f15)), (a19, .inr (2, [.ref a12, .ref a20, .ref a22, .ref a23, .int n19_4, .int n19_5, .int n19_6, .int n19_7])), (a20, .inr (0, [.ref a21, .int n20_1])), (a21, .inl (ct 0, 8, .inl f21)), (a91, .inr (3, [.ref a92, .ref a93, .ref a94, .int (ur2.1 0)])), (a92, .inl (ct 0, 8, .inl (ur2.2.1 0))), (a93, .inl (ct 0, 8, .inl (ur2.2.1 1))), (a94, .inl (ct 0, 8, .inl (ur2.2.1 2)))] H := hP.sub [0, 1, 2, 3, 4, 5, 6, 7, 8, 9, 10, 11] rfl
  have hD : va_D A [(a0, .inr (10, [.ref a1, .ref a3, .ref a11, .ref a25, .ref a68, .ref a69, .ref a77, .ref a82, .ref a84, .ref a88, .ref a91])), (a11, .inr (4, [.ref a12, .ref a19, .ref a24, .int n11_3])), (a12, .inr (9, [.ref a13, .ref a15, .ref a16, .ref a17, .ref a18, .int n12_5, .int n12_6])), (a13, .inr (0, [.ref a14, .int n13_1])), (a15, .inl (ct 0, 8, .inl f15)), (a19, .inr (2, [.ref a12, .ref a20, .ref a22, .ref a23, .int n19_4, .int n19_5, .int n19_6, .int n19_7])), (a20, .inr (0, [.ref a21, .int n20_1])), (a21, .inl (ct 0, 8, .inl f21)), (a91, .inr (3, [.ref a92, .ref a93, .ref a94, .int (ur2.1 0)])), (a92, .inl (ct 0, 8, .inl (ur2.2.1 0))), (a93, .inl (ct 0, 8, .inl (ur2.2.1 1))), (a94, .inl (ct 0, 8, .inl (ur2.2.1 2)))] := hD.sub [0, 1, 2, 3, 4, 5, 6, 7, 8, 9, 10, 11] (by decide) rfl
  obtain ⟨p_1, p_2, p_3, p_4, p_5, p_6, -⟩ := wr2
  refine lv_istore_n (lv' := [(2, .int r2), (0, .ref a0), (1, .int p0)]) hx hb dX10_firm_5 rfl hl (by decide) rfl (fun ls hl => ?_)
  refine lv_iload_n hx hb dX10_firm_6 rfl (lv_at hl 0 rfl) ?_
  refine lv_bipush (v := (-2)) hx hb dX10_firm_7 (by decide) ?_
  refine lv_icmp_ne (tgt := 15) hx hb dX10_firm_9 (by decide) (fun c9 => ?_) (fun c9 => ?_)
  · have h_7 : rg (-1) 255 r2 := r_ne_lo_i c9 p_1 (by decide) (by decide)
    have h_8 : rg 0 255 p0 := (p_3 (rne h_7 (y := (-2)) (c := (-2)) (by decide) (by decide)))
    have h_9 : rg 1 2147483647 n12_5 := (p_5 (rne h_7 (y := (-2)) (c := (-2)) (by decide) (by decide)))
    refine lv_iload_n hx hb dX10_firm_15 rfl (lv_at hl 0 rfl) ?_
    refine lv_if_ne (tgt := 23) hx hb dX10_firm_16 (by decide) (fun c16 => ?_) (fun c16 => ?_)
    · refine lv_iconst (v := 0) hx hb dX10_firm_23 (by decide) ?_
      exact W.iret (v := 0) hx hb hr (fun t ht hW => ⟨⟨0, (fun k => ([ur2.1 0] : List Int32).getD k 0, fun k => ([ur2.2.1 0, ur2.2.1 1, ur2.2.1 2] : List (Nat → Int32)).getD k (fun _ => 0), fun k => ([] : List (Nat → Int64)).getD k (fun _ => 0)), rfl, ⟨(rg_w (c := (-2)) (d := 1) (rgn 0 (x := 0) (by decide)) (by decide)), (fun _ => h_8), (fun _ => h_8), (fun _ => h_9), (fun _ => h_9), p_6, trivial⟩, hp_at ht hP⟩, hS.F ht⟩) hS.2.2 dX10_firm_24
    · have h_10 : rg 0 0 r2 := r_eq_l_i (e := 0) (f := 0) c16 h_7 (rgn 0 (x := 0) (by decide)) (by decide)
      refine lv_iconst (v := 1) hx hb dX10_firm_19 (by decide) ?_
      refine lv_goto (tgt := 24) hx hb dX10_firm_20 (by decide) ?_
      exact W.iret (v := 1) hx hb hr (fun t ht hW => ⟨⟨1, (fun k => ([ur2.1 0] : List Int32).getD k 0, fun k => ([ur2.2.1 0, ur2.2.1 1, ur2.2.1 2] : List (Nat → Int32)).getD k (fun _ => 0), fun k => ([] : List (Nat → Int64)).getD k (fun _ => 0)), rfl, ⟨(rg_w (c := (-2)) (d := 1) (rgn 1 (x := 1) (by decide)) (by decide)), (fun _ => h_8), (fun _ => h_8), (fun _ => h_9), (fun _ => h_9), p_6, trivial⟩, hp_at ht hP⟩, hS.F ht⟩) hS.2.2 dX10_firm_24
  · have h_11 : rg (-2) (-2) r2 := r_eq_l_i (e := (-2)) (f := (-2)) c9 p_1 (rgn (-2) (x := (-2)) (by decide)) (by decide)
    refine lv_bipush (v := (-2)) hx hb dX10_firm_12 (by decide) ?_
    exact W.iret (v := (-2)) hx hb hr (fun t ht hW => ⟨⟨(-2), (fun k => ([ur2.1 0] : List Int32).getD k 0, fun k => ([ur2.2.1 0, ur2.2.1 1, ur2.2.1 2] : List (Nat → Int32)).getD k (fun _ => 0), fun k => ([] : List (Nat → Int64)).getD k (fun _ => 0)), rfl, ⟨(rg_w (c := (-2)) (d := 1) (rgn (-2) (x := (-2)) (by decide)) (by decide)), (fun hq => absurd hq (rne (rgn (-2) (x := (-2)) (by decide)) (y := 0) (c := 0) (by decide) (by decide))), (fun hq => absurd (req (rgn (-2) (x := (-2)) (by decide)) (y := (-2)) (by decide)) hq), (fun hq => absurd hq (rne (rgn (-2) (x := (-2)) (by decide)) (y := 0) (c := 0) (by decide) (by decide))), (fun hq => absurd (req (rgn (-2) (x := (-2)) (by decide)) (y := (-2)) (by decide)) hq), p_6, trivial⟩, hp_at ht hP⟩, hS.F ht⟩) hS.2.2 dX10_firm_14

set_option maxHeartbeats 4000000 in
set_option maxRecDepth 100000 in
theorem a_X10_firms (l : Launch) (G : va_G) (ct : Nat → ClassId) (a0 : Nat) (a1 : Nat) (a3 : Nat) (a11 : Nat) (a25 : Nat) (a68 : Nat) (a69 : Nat) (a77 : Nat) (a82 : Nat) (a84 : Nat) (a88 : Nat) (a91 : Nat) (a12 : Nat) (a19 : Nat) (a24 : Nat) (n11_3 : Int32) (a13 : Nat) (a15 : Nat) (a16 : Nat) (a17 : Nat) (a18 : Nat) (n12_5 : Int32) (n12_6 : Int32) (a14 : Nat) (n13_1 : Int32) (f15 : Nat → Int32) (a20 : Nat) (a22 : Nat) (a23 : Nat) (n19_4 : Int32) (n19_5 : Int32) (n19_6 : Int32) (n19_7 : Int32) (a21 : Nat) (n20_1 : Int32) (f21 : Nat → Int32) (a92 : Nat) (a93 : Nat) (a94 : Nat) (n91_3 : Int32) (f92 : Nat → Int32) (f93 : Nat → Int32) (f94 : Nat → Int32) (hp_n13_1 : rg 0 8 n13_1) (hp_n20_1 : rg 0 8 n20_1) (hp_n91_3 : rg (-2147483648) 8 n91_3) : Met l yX10_firms wsX10_firms ({ frames := 4, cells := 0, slots := 0, locals := 89 }) (va_Pc [.ref a0] (wrP G ct [(a0, .inr (10, [.ref a1, .ref a3, .ref a11, .ref a25, .ref a68, .ref a69, .ref a77, .ref a82, .ref a84, .ref a88, .ref a91])), (a11, .inr (4, [.ref a12, .ref a19, .ref a24, .int n11_3])), (a12, .inr (9, [.ref a13, .ref a15, .ref a16, .ref a17, .ref a18, .int n12_5, .int n12_6])), (a13, .inr (0, [.ref a14, .int n13_1])), (a15, .inl (ct 0, 8, .inl f15)), (a19, .inr (2, [.ref a12, .ref a20, .ref a22, .ref a23, .int n19_4, .int n19_5, .int n19_6, .int n19_7])), (a20, .inr (0, [.ref a21, .int n20_1])), (a21, .inl (ct 0, 8, .inl f21)), (a91, .inr (3, [.ref a92, .ref a93, .ref a94, .int n91_3])), (a92, .inl (ct 0, 8, .inl f92)), (a93, .inl (ct 0, 8, .inl f93)), (a94, .inl (ct 0, 8, .inl f94))])) (va_Qi (fun (r : Int32) (u : SU) => (r = 0 → rg 1 2147483647 n12_5) ∧ (r = (-1) → rg 1 2147483647 n12_5) ∧ (¬ r = (-2) → rg 1 2147483647 n12_5) ∧ rg (-2147483648) 8 (u.1 0) ∧ True) (fun u t => va_P G vwCl ((fun u : SU => [(a0, .inr (10, [.ref a1, .ref a3, .ref a11, .ref a25, .ref a68, .ref a69, .ref a77, .ref a82, .ref a84, .ref a88, .ref a91])), (a11, .inr (4, [.ref a12, .ref a19, .ref a24, .int n11_3])), (a12, .inr (9, [.ref a13, .ref a15, .ref a16, .ref a17, .ref a18, .int n12_5, .int n12_6])), (a13, .inr (0, [.ref a14, .int n13_1])), (a15, .inl (ct 0, 8, .inl f15)), (a19, .inr (2, [.ref a12, .ref a20, .ref a22, .ref a23, .int n19_4, .int n19_5, .int n19_6, .int n19_7])), (a20, .inr (0, [.ref a21, .int n20_1])), (a21, .inl (ct 0, 8, .inl f21)), (a91, .inr (3, [.ref a92, .ref a93, .ref a94, .int (u.1 0)])), (a92, .inl (ct 0, 8, .inl (u.2.1 0))), (a93, .inl (ct 0, 8, .inl (u.2.1 1))), (a94, .inl (ct 0, 8, .inl (u.2.1 2)))]) u) t.heap) (aset [(a0, .inr (10, [.ref a1, .ref a3, .ref a11, .ref a25, .ref a68, .ref a69, .ref a77, .ref a82, .ref a84, .ref a88, .ref a91])), (a11, .inr (4, [.ref a12, .ref a19, .ref a24, .int n11_3])), (a12, .inr (9, [.ref a13, .ref a15, .ref a16, .ref a17, .ref a18, .int n12_5, .int n12_6])), (a13, .inr (0, [.ref a14, .int n13_1])), (a15, .inl (ct 0, 8, .inl f15)), (a19, .inr (2, [.ref a12, .ref a20, .ref a22, .ref a23, .int n19_4, .int n19_5, .int n19_6, .int n19_7])), (a20, .inr (0, [.ref a21, .int n20_1])), (a21, .inl (ct 0, 8, .inl f21)), (a91, .inr (3, [.ref a92, .ref a93, .ref a94, .int n91_3])), (a92, .inl (ct 0, 8, .inl f92)), (a93, .inl (ct 0, 8, .inl f93)), (a94, .inl (ct 0, 8, .inl f94))])) 0 0 (aset [(a0, .inr (10, [.ref a1, .ref a3, .ref a11, .ref a25, .ref a68, .ref a69, .ref a77, .ref a82, .ref a84, .ref a88, .ref a91])), (a11, .inr (4, [.ref a12, .ref a19, .ref a24, .int n11_3])), (a12, .inr (9, [.ref a13, .ref a15, .ref a16, .ref a17, .ref a18, .int n12_5, .int n12_6])), (a13, .inr (0, [.ref a14, .int n13_1])), (a15, .inl (ct 0, 8, .inl f15)), (a19, .inr (2, [.ref a12, .ref a20, .ref a22, .ref a23, .int n19_4, .int n19_5, .int n19_6, .int n19_7])), (a20, .inr (0, [.ref a21, .int n20_1])), (a21, .inl (ct 0, 8, .inl f21)), (a91, .inr (3, [.ref a92, .ref a93, .ref a94, .int n91_3])), (a92, .inl (ct 0, 8, .inl f92)), (a93, .inl (ct 0, 8, .inl f93)), (a94, .inl (ct 0, 8, .inl f94))]) := by
  refine Met.ofW (cc := cX10_firms) (maxL := 3) (ret := (some .int)) (by decide) rfl ?_
  intro p e s m args below meth c s₁ B hml hv
  obtain ⟨rfl, hP, hK, hD0⟩ := hv
  have hx := B.exec
  have hb := B.bytes
  have hr := B.returns
  have hts := atoms_spec (ws := wsX10_firms) B.pre
  have hown : s.vm.findClass RX10 = some m.cls := findClass_of_methodNamed B.named
  have hlocks := B.notSynchronized
  have hD := hD0.aself
  generalize hAe : aset [(a0, .inr (10, [.ref a1, .ref a3, .ref a11, .ref a25, .ref a68, .ref a69, .ref a77, .ref a82, .ref a84, .ref a88, .ref a91])), (a11, .inr (4, [.ref a12, .ref a19, .ref a24, .int n11_3])), (a12, .inr (9, [.ref a13, .ref a15, .ref a16, .ref a17, .ref a18, .int n12_5, .int n12_6])), (a13, .inr (0, [.ref a14, .int n13_1])), (a15, .inl (ct 0, 8, .inl f15)), (a19, .inr (2, [.ref a12, .ref a20, .ref a22, .ref a23, .int n19_4, .int n19_5, .int n19_6, .int n19_7])), (a20, .inr (0, [.ref a21, .int n20_1])), (a21, .inl (ct 0, 8, .inl f21)), (a91, .inr (3, [.ref a92, .ref a93, .ref a94, .int n91_3])), (a92, .inl (ct 0, 8, .inl f92)), (a93, .inl (ct 0, 8, .inl f93)), (a94, .inl (ct 0, 8, .inl f94))] = A at hD ⊢
  have hS : va_S A s.heap s.heap [] := va_S.rf
  have hl := lv_entry ([.ref a0]) (n := 3) (Nat.le_of_ble_eq_true rfl)
  rw [lg_entry_eq]
  generalize (lg_sl ([.ref a0]) ++ List.replicate (3 - (lg_sl ([.ref a0])).length) Slot.unset).toArray = ls at hl ⊢
  have hl : lv_has ls 3 [(0, .ref a0)] := hl
  refine lv_aload_n hx hb dX10_firms_0 rfl (lv_at hl 0 rfl) ?_
  refine ro_calli (va_runV (As := []) (rest := []) ⟨hx, hb, hml, hown, hts⟩ (a_X10_hasCity l G ct a0 a1 a3 a11 a25 a68 a69 a77 a82 a84 a88 a91 a12 a19 a24 n11_3 a13 a15 a16 a17 a18 n12_5 n12_6) (cwV 0 hts gX10_firms_X10_hasCity rfl rfl rfl (by decide +kernel) ⟨Nat.le_of_ble_eq_true rfl, Nat.le_of_ble_eq_true rfl⟩) (ro_preV 10 0 hK (hP.sub [0, 1, 2] rfl) rfl rfl) rfl rfl hl.1 rfl (lv_room (Nat.le_of_ble_eq_true rfl)) dX10_firms_1 ⟨Nat.zero_le _, Nat.zero_le _⟩) hS hP (fun r1 H locs wr1 hP hS => ?_)
  obtain ⟨p_1, p_2, p_3, -⟩ := wr1
  refine lv_if_ne (tgt := 10) hx hb dX10_firms_4 (by decide) (fun c4 => ?_) (fun c4 => ?_)
  · have h_4 : rg 1 1 r1 := r_ne_lo_i c4 p_1 (by decide) (by decide)
    have h_5 : rg 1 2147483647 n12_5 := (p_2 (rne h_4 (y := 0) (c := 0) (by decide) (by decide)))
    refine lv_aload_n hx hb dX10_firms_10 rfl (lv_at hl 0 rfl) ?_
    refine va_get (D := G) (ci := 10) (v := .ref a91) (C := RX10) (T := TX10) (N := 11) hx hb hts (by decide +kernel) hown hK.1 hP 0 rfl rfl 10 (by decide) (hts (.fieldLink RX10 84 "CardHolder" "peace" "LCardHolder$Peace;") (by decide +kernel)) (fun _ h9 => h9) rfl dX10_firms_11 ?_
    refine lv_aload_n hx hb dX10_firms_14 rfl (lv_at hl 0 rfl) ?_
    refine va_get (D := G) (ci := 10) (v := .ref a11) (C := RX10) (T := TX10) (N := 11) hx hb hts (by decide +kernel) hown hK.1 hP 0 rfl rfl 2 (by decide) (hts (.fieldLink RX10 28 "CardHolder" "play" "LCardHolder$Play;") (by decide +kernel)) (fun _ h9 => h9) rfl dX10_firms_15 ?_
    refine wj_callv (wr := [(a0, .inr (10, [.ref a1, .ref a3, .ref a11, .ref a25, .ref a68, .ref a69, .ref a77, .ref a82, .ref a84, .ref a88, .ref a91]))]) (w1 := (fun u : SU => [(a91, .inr (3, [.ref a92, .ref a93, .ref a94, .int (u.1 0)])), (a92, .inl (ct 0, 8, .inl (u.2.1 0))), (a93, .inl (ct 0, 8, .inl (u.2.1 1))), (a94, .inl (ct 0, 8, .inl (u.2.1 2))), (a11, .inr (4, [.ref a12, .ref a19, .ref a24, .int n11_3])), (a12, .inr (9, [.ref a13, .ref a15, .ref a16, .ref a17, .ref a18, .int n12_5, .int n12_6])), (a13, .inr (0, [.ref a14, .int n13_1])), (a15, .inl (ct 0, 8, .inl f15)), (a19, .inr (2, [.ref a12, .ref a20, .ref a22, .ref a23, .int n19_4, .int n19_5, .int n19_6, .int n19_7])), (a20, .inr (0, [.ref a21, .int n20_1])), (a21, .inl (ct 0, 8, .inl f21))])) (va_runV (As := [.ref a11]) (rest := []) ⟨hx, hb, hml, hown, hts⟩ (a_X3_take l G ct a91 a92 a93 a94 n91_3 f92 f93 f94 a11 a12 a19 a24 n11_3 a13 a15 a16 a17 a18 n12_5 n12_6 a14 n13_1 f15 a20 a22 a23 n19_4 n19_5 n19_6 n19_7 a21 n20_1 f21 hp_n91_3 hp_n13_1 hp_n20_1) (cwV 1 hts gX10_firms_X3_take rfl rfl rfl (by decide +kernel) ⟨Nat.le_of_ble_eq_true rfl, Nat.le_of_ble_eq_true rfl⟩) (wr_preV 3 0 hK (hP.sub [8, 9, 10, 11, 1, 2, 3, 4, 5, 6, 7] rfl) (hD.sub [8, 9, 10, 11, 1, 2, 3, 4, 5, 6, 7] (by decide) rfl) rfl rfl) rfl rfl hl.1 rfl (lv_room (Nat.le_of_ble_eq_true rfl)) dX10_firms_18 ⟨Nat.zero_le _, Nat.zero_le _⟩) hS hP hD [8, 9, 10, 11, 1, 2, 3, 4, 5, 6, 7] [0] rfl rfl (by decide) (fun _ => rfl) (fun ur18 H locs wr18 hP hD hS => ?_)
    have hP : va_P G vwCl [(a0, .inr (10, [.ref a1, .ref a3, .ref a11, .ref a25, .ref a68, .ref a69, .ref a77, .ref a82, .ref a84, .ref a88, .ref a91])), (a11, .inr (4, [.ref a12, .ref a19, .ref a24, .int n11_3])), (a12, .inr (9, [.ref a13, .ref a15, .ref a16, .ref a17, .ref a18, .int n12_5, .int n12_6])), (a13, .inr (0, [.ref a14, .int n13_1])), (a15, .inl (ct 0, 8, .inl f15)), (a19, .inr (2, [.ref a12, .ref a20, .ref a22, .ref a23, .int n19_4, .int n19_5, .int n19_6, .int n19_7])), (a20, .inr (0, [.ref a21, .int n20_1])), (a21, .inl (ct 0, 8, .inl f21)), (a91, .inr (3, [.ref a92, .ref a93, .ref a94, .int (ur18.1 0)])), (a92, .inl (ct 0, 8, .inl (ur18.2.1 0))), (a93, .inl (ct 0, 8, .inl (ur18.2.1 1))), (a94, .inl (ct 0, 8, .inl (ur18.2.1 2)))] H := hP.sub [0, 5, 6, 7, 8, 9, 10, 11, 1, 2, 3, 4] rfl
    have hD : va_D A [(a0, .inr (10, [.ref a1, .ref a3, .ref a11, .ref a25, .ref a68, .ref a69, .ref a77, .ref a82, .ref a84, .ref a88, .ref a91])), (a11, .inr (4, [.ref a12, .ref a19, .ref a24, .int n11_3])), (a12, .inr (9, [.ref a13, .ref a15, .ref a16, .ref a17, .ref a18, .int n12_5, .int n12_6])), (a13, .inr (0, [.ref a14, .int n13_1])), (a15, .inl (ct 0, 8, .inl f15)), (a19, .inr (2, [.ref a12, .ref a20, .ref a22, .ref a23, .int n19_4, .int n19_5, .int n19_6, .int n19_7])), (a20, .inr (0, [.ref a21, .int n20_1])), (a21, .inl (ct 0, 8, .inl f21)), (a91, .inr (3, [.ref a92, .ref a93, .ref a94, .int (ur18.1 0)])), (a92, .inl (ct 0, 8, .inl (ur18.2.1 0))), (a93, .inl (ct 0, 8, .inl (ur18.2.1 1))), (a94, .inl (ct 0, 8, .inl (ur18.2.1 2)))] := hD.sub [0, 5, 6, 7, 8, 9, 10, 11, 1, 2, 3, 4] (by decide) rfl
    obtain ⟨p_6, -⟩ := wr18
    refine lv_iconst (v := 0) hx hb dX10_firms_21 (by decide) ?_
    refine lv_istore_n (lv' := [(1, .int 0), (0, .ref a0)]) hx hb dX10_firms_22 rfl hl (by decide) rfl (fun ls hl => ?_)
    refine lv_iconst (v := 0) hx hb dX10_firms_23 (by decide) ?_
    refine lv_istore_n (lv' := [(2, .int 0), (1, .int 0), (0, .ref a0)]) hx hb dX10_firms_24 rfl hl (by decide) rfl (fun ls hl => ?_)
    have j25 : ∀ (n : Nat) (x25_1 : Int32) (x25_2 : Int32) (H : Heap) (locs : List Loc) (ls : Array Slot), 2147483648 ≤ x25_2.toInt + (n : Int) → rg 0 256 x25_2 → va_P G vwCl [(a0, .inr (10, [.ref a1, .ref a3, .ref a11, .ref a25, .ref a68, .ref a69, .ref a77, .ref a82, .ref a84, .ref a88, .ref a91])), (a11, .inr (4, [.ref a12, .ref a19, .ref a24, .int n11_3])), (a12, .inr (9, [.ref a13, .ref a15, .ref a16, .ref a17, .ref a18, .int n12_5, .int n12_6])), (a13, .inr (0, [.ref a14, .int n13_1])), (a15, .inl (ct 0, 8, .inl f15)), (a19, .inr (2, [.ref a12, .ref a20, .ref a22, .ref a23, .int n19_4, .int n19_5, .int n19_6, .int n19_7])), (a20, .inr (0, [.ref a21, .int n20_1])), (a21, .inl (ct 0, 8, .inl f21)), (a91, .inr (3, [.ref a92, .ref a93, .ref a94, .int (ur18.1 0)])), (a92, .inl (ct 0, 8, .inl (ur18.2.1 0))), (a93, .inl (ct 0, 8, .inl (ur18.2.1 1))), (a94, .inl (ct 0, 8, .inl (ur18.2.1 2)))] H → va_D A [(a0, .inr (10, [.ref a1, .ref a3, .ref a11, .ref a25, .ref a68, .ref a69, .ref a77, .ref a82, .ref a84, .ref a88, .ref a91])), (a11, .inr (4, [.ref a12, .ref a19, .ref a24, .int n11_3])), (a12, .inr (9, [.ref a13, .ref a15, .ref a16, .ref a17, .ref a18, .int n12_5, .int n12_6])), (a13, .inr (0, [.ref a14, .int n13_1])), (a15, .inl (ct 0, 8, .inl f15)), (a19, .inr (2, [.ref a12, .ref a20, .ref a22, .ref a23, .int n19_4, .int n19_5, .int n19_6, .int n19_7])), (a20, .inr (0, [.ref a21, .int n20_1])), (a21, .inl (ct 0, 8, .inl f21)), (a91, .inr (3, [.ref a92, .ref a93, .ref a94, .int (ur18.1 0)])), (a92, .inl (ct 0, 8, .inl (ur18.2.1 0))), (a93, .inl (ct 0, 8, .inl (ur18.2.1 1))), (a94, .inl (ct 0, 8, .inl (ur18.2.1 2)))] → va_S A s.heap H locs → lv_has ls 3 [(0, .ref a0), (1, .int x25_1), (2, .int x25_2)] → W p l e (headSpec wsX10_firms ({ frames := 4, cells := 0, slots := 0, locals := 89 })).room s m ([.ref a0] : List Value).toArray below meth c H locs 0 0 (MQ below (va_Qi (fun (r : Int32) (u : SU) => (r = 0 → rg 1 2147483647 n12_5) ∧ (r = (-1) → rg 1 2147483647 n12_5) ∧ (¬ r = (-2) → rg 1 2147483647 n12_5) ∧ rg (-2147483648) 8 (u.1 0) ∧ True) (fun u t => va_P G vwCl ((fun u : SU => [(a0, .inr (10, [.ref a1, .ref a3, .ref a11, .ref a25, .ref a68, .ref a69, .ref a77, .ref a82, .ref a84, .ref a88, .ref a91])), (a11, .inr (4, [.ref a12, .ref a19, .ref a24, .int n11_3])), (a12, .inr (9, [.ref a13, .ref a15, .ref a16, .ref a17, .ref a18, .int n12_5, .int n12_6])), (a13, .inr (0, [.ref a14, .int n13_1])), (a15, .inl (ct 0, 8, .inl f15)), (a19, .inr (2, [.ref a12, .ref a20, .ref a22, .ref a23, .int n19_4, .int n19_5, .int n19_6, .int n19_7])), (a20, .inr (0, [.ref a21, .int n20_1])), (a21, .inl (ct 0, 8, .inl f21)), (a91, .inr (3, [.ref a92, .ref a93, .ref a94, .int (u.1 0)])), (a92, .inl (ct 0, 8, .inl (u.2.1 0))), (a93, .inl (ct 0, 8, .inl (u.2.1 1))), (a94, .inl (ct 0, 8, .inl (u.2.1 2)))]) u) t.heap) A) ([.ref a0] : List Value).toArray s 0 0 A) (F0 m 25 ls []) := by
      intro n
      induction n with
      | zero => intro x25_1 x25_2 H locs ls hn25 hx25_2 hP hD hS hl; exact absurd hn25 (by have := Int32.toInt_lt x25_2; have := Int32.le_toInt x25_2; omega)
      | succ n ih25 =>
        intro x25_1 x25_2 H locs ls hn25 hx25_2 hP hD hS hl
        refine lv_iload_n hx hb dX10_firms_25 rfl (lv_at hl 2 rfl) ?_
        refine lv_aload_n hx hb dX10_firms_26 rfl (lv_at hl 0 rfl) ?_
        refine ro_callr (va_runV (As := []) (rest := [.int x25_2]) ⟨hx, hb, hml, hown, hts⟩ (a_X10_bonds l G ct a0 a1 a3 a11 a25 a68 a69 a77 a82 a84 a88 a91 a12 a19 a24 n11_3 a20 a22 a23 n19_4 n19_5 n19_6 n19_7) (cwV 0 hts gX10_firms_X10_bonds rfl rfl rfl (by decide +kernel) ⟨Nat.le_of_ble_eq_true rfl, Nat.le_of_ble_eq_true rfl⟩) (ro_preV 10 0 hK (hP.sub [0, 1, 5] rfl) rfl rfl) rfl rfl hl.1 rfl (lv_room (Nat.le_of_ble_eq_true rfl)) dX10_firms_27 ⟨Nat.zero_le _, Nat.zero_le _⟩) hS hP (fun H locs hP hS => ?_)
        refine ro_calli (va_runV (As := []) (rest := [.int x25_2]) ⟨hx, hb, hml, hown, hts⟩ (a_X0_everyone l G ct a20 a21 n20_1 hp_n20_1) (cwV 0 hts gX10_firms_X0_everyone rfl rfl rfl (by decide +kernel) ⟨Nat.le_of_ble_eq_true rfl, Nat.le_of_ble_eq_true rfl⟩) (ro_preV 0 0 hK (hP.sub [6] rfl) rfl rfl) rfl rfl hl.1 rfl (lv_room (Nat.le_of_ble_eq_true rfl)) dX10_firms_30 ⟨Nat.zero_le _, Nat.zero_le _⟩) hS hP (fun r30 H locs wr30 hP hS => ?_)
        obtain ⟨p_7, -⟩ := wr30
        refine lv_icmp_gt (tgt := 56) hx hb dX10_firms_33 (by decide) (fun c33 => ?_) (fun c33 => ?_)
        · have h_8 : rg 1 256 x25_2 := r_lt_r_i c33 p_7 hx25_2 (by decide)
          refine lv_iload_n hx hb dX10_firms_56 rfl (lv_at hl 1 rfl) ?_
          exact W.iret (v := x25_1) hx hb hr (fun t ht hW => ⟨⟨x25_1, (fun k => ([ur18.1 0] : List Int32).getD k 0, fun k => ([ur18.2.1 0, ur18.2.1 1, ur18.2.1 2] : List (Nat → Int32)).getD k (fun _ => 0), fun k => ([] : List (Nat → Int64)).getD k (fun _ => 0)), rfl, ⟨(fun _ => h_5), (fun _ => h_5), (fun _ => h_5), (rg_w (c := (-2147483648)) (d := 8) p_6 (by decide)), trivial⟩, hp_at ht hP⟩, hS.F ht⟩) hS.2.2 dX10_firms_57
        · have h_9 : rg 0 255 x25_2 := r_le_l_i (nlt_i c33) hx25_2 p_7
          refine lv_aload_n hx hb dX10_firms_36 rfl (lv_at hl 0 rfl) ?_
          refine va_get (D := G) (ci := 10) (v := .ref a91) (C := RX10) (T := TX10) (N := 11) hx hb hts (by decide +kernel) hown hK.1 hP 0 rfl rfl 10 (by decide) (hts (.fieldLink RX10 84 "CardHolder" "peace" "LCardHolder$Peace;") (by decide +kernel)) (fun _ h9 => h9) rfl dX10_firms_37 ?_
          refine lv_iload_n hx hb dX10_firms_40 rfl (lv_at hl 2 rfl) ?_
          refine ro_calli (va_runV (As := [.int x25_2]) (rest := []) ⟨hx, hb, hml, hown, hts⟩ (a_X3_losersOf l G ct a91 a92 a93 a94 (ur18.1 0) (ur18.2.1 0) (ur18.2.1 1) (ur18.2.1 2) x25_2 (rg_w (c := (-2147483648)) (d := 8) p_6 (by decide))) (cwV 1 hts gX10_firms_X3_losersOf rfl rfl rfl (by decide +kernel) ⟨Nat.le_of_ble_eq_true rfl, Nat.le_of_ble_eq_true rfl⟩) (ro_preV 3 0 hK (hP.sub [8, 9, 10, 11] rfl) rfl rfl) rfl rfl hl.1 rfl (lv_room (Nat.le_of_ble_eq_true rfl)) dX10_firms_41 ⟨Nat.zero_le _, Nat.zero_le _⟩) hS hP (fun r41 H locs wr41 hP hS => ?_)
          obtain ⟨p_10, -⟩ := wr41
          have j50 : ∀ (x50_1 : Int32) (H : Heap) (locs : List Loc) (ls : Array Slot), va_P G vwCl [(a0, .inr (10, [.ref a1, .ref a3, .ref a11, .ref a25, .ref a68, .ref a69, .ref a77, .ref a82, .ref a84, .ref a88, .ref a91])), (a11, .inr (4, [.ref a12, .ref a19, .ref a24, .int n11_3])), (a12, .inr (9, [.ref a13, .ref a15, .ref a16, .ref a17, .ref a18, .int n12_5, .int n12_6])), (a13, .inr (0, [.ref a14, .int n13_1])), (a15, .inl (ct 0, 8, .inl f15)), (a19, .inr (2, [.ref a12, .ref a20, .ref a22, .ref a23, .int n19_4, .int n19_5, .int n19_6, .int n19_7])), (a20, .inr (0, [.ref a21, .int n20_1])), (a21, .inl (ct 0, 8, .inl f21)), (a91, .inr (3, [.ref a92, .ref a93, .ref a94, .int (ur18.1 0)])), (a92, .inl (ct 0, 8, .inl (ur18.2.1 0))), (a93, .inl (ct 0, 8, .inl (ur18.2.1 1))), (a94, .inl (ct 0, 8, .inl (ur18.2.1 2)))] H → va_D A [(a0, .inr (10, [.ref a1, .ref a3, .ref a11, .ref a25, .ref a68, .ref a69, .ref a77, .ref a82, .ref a84, .ref a88, .ref a91])), (a11, .inr (4, [.ref a12, .ref a19, .ref a24, .int n11_3])), (a12, .inr (9, [.ref a13, .ref a15, .ref a16, .ref a17, .ref a18, .int n12_5, .int n12_6])), (a13, .inr (0, [.ref a14, .int n13_1])), (a15, .inl (ct 0, 8, .inl f15)), (a19, .inr (2, [.ref a12, .ref a20, .ref a22, .ref a23, .int n19_4, .int n19_5, .int n19_6, .int n19_7])), (a20, .inr (0, [.ref a21, .int n20_1])), (a21, .inl (ct 0, 8, .inl f21)), (a91, .inr (3, [.ref a92, .ref a93, .ref a94, .int (ur18.1 0)])), (a92, .inl (ct 0, 8, .inl (ur18.2.1 0))), (a93, .inl (ct 0, 8, .inl (ur18.2.1 1))), (a94, .inl (ct 0, 8, .inl (ur18.2.1 2)))] → va_S A s.heap H locs → lv_has ls 3 [(0, .ref a0), (1, .int x50_1), (2, .int x25_2)] → W p l e (headSpec wsX10_firms ({ frames := 4, cells := 0, slots := 0, locals := 89 })).room s m ([.ref a0] : List Value).toArray below meth c H locs 0 0 (MQ below (va_Qi (fun (r : Int32) (u : SU) => (r = 0 → rg 1 2147483647 n12_5) ∧ (r = (-1) → rg 1 2147483647 n12_5) ∧ (¬ r = (-2) → rg 1 2147483647 n12_5) ∧ rg (-2147483648) 8 (u.1 0) ∧ True) (fun u t => va_P G vwCl ((fun u : SU => [(a0, .inr (10, [.ref a1, .ref a3, .ref a11, .ref a25, .ref a68, .ref a69, .ref a77, .ref a82, .ref a84, .ref a88, .ref a91])), (a11, .inr (4, [.ref a12, .ref a19, .ref a24, .int n11_3])), (a12, .inr (9, [.ref a13, .ref a15, .ref a16, .ref a17, .ref a18, .int n12_5, .int n12_6])), (a13, .inr (0, [.ref a14, .int n13_1])), (a15, .inl (ct 0, 8, .inl f15)), (a19, .inr (2, [.ref a12, .ref a20, .ref a22, .ref a23, .int n19_4, .int n19_5, .int n19_6, .int n19_7])), (a20, .inr (0, [.ref a21, .int n20_1])), (a21, .inl (ct 0, 8, .inl f21)), (a91, .inr (3, [.ref a92, .ref a93, .ref a94, .int (u.1 0)])), (a92, .inl (ct 0, 8, .inl (u.2.1 0))), (a93, .inl (ct 0, 8, .inl (u.2.1 1))), (a94, .inl (ct 0, 8, .inl (u.2.1 2)))]) u) t.heap) A) ([.ref a0] : List Value).toArray s 0 0 A) (F0 m 50 ls []) := by
            intro x50_1 H locs ls  hP hD hS hl
            obtain ⟨z50, qz50⟩ : ∃ y : Int32, y = x25_2 + Int32.ofInt 1 := ⟨_, rfl⟩
            obtain ⟨hz50, ez50⟩ := inc_z (e := 1) (f := 256) h_9 qz50 (by decide)
            refine lv_iinc (v := z50) (lv' := [(2, .int z50), (0, .ref a0), (1, .int x50_1)]) hx hb dX10_firms_50 hl (k := 2) rfl (qz50.symm) (by decide) rfl (fun ls hl => ?_)
            refine lv_goto (tgt := 25) hx hb dX10_firms_53 (by decide) ?_
            exact ih25 x50_1 z50 _ _ ls (by have q := hn25; have := ez50; omega) (rg_w (c := 0) (d := 256) hz50 (by decide)) hP hD hS (lv_sub hl [1, 2, 0] rfl)
          refine lv_if_ne (tgt := 50) hx hb dX10_firms_44 (by decide) (fun c44 => ?_) (fun c44 => ?_)
          · have h_11 : rg 1 255 r41 := r_ne_lo_i c44 p_10 (by decide) (by decide)
            exact j50 x25_1 _ _ ls hP hD hS (lv_sub hl [0, 1, 2] rfl)
          · have h_12 : rg 0 0 r41 := r_eq_l_i (e := 0) (f := 0) c44 p_10 (rgn 0 (x := 0) (by decide)) (by decide)
            obtain ⟨z47, qz47⟩ : ∃ y : Int32, y = x25_1 + Int32.ofInt 1 := ⟨_, rfl⟩
            refine lv_iinc (v := z47) (lv' := [(1, .int z47), (0, .ref a0), (2, .int x25_2)]) hx hb dX10_firms_47 hl (k := 1) rfl (qz47.symm) (by decide) rfl (fun ls hl => ?_)
            exact j50 z47 _ _ ls hP hD hS (lv_sub hl [1, 0, 2] rfl)
    exact j25 4294967296 (0 : Int32) (0 : Int32) _ _ ls (ms_e (0 : Int32)) (rg_w (c := 0) (d := 256) (rgn 0 (x := 0) (by decide)) (by decide)) hP hD hS (lv_sub hl [2, 1, 0] rfl)
  · have h_13 : rg 0 0 r1 := r_eq_l_i (e := 0) (f := 0) c4 p_1 (rgn 0 (x := 0) (by decide)) (by decide)
    have h_14 : rg (-2147483648) 0 n12_5 := (p_3 (req h_13 (y := 0) (by decide)))
    refine lv_bipush (v := (-2)) hx hb dX10_firms_7 (by decide) ?_
    exact W.iret (v := (-2)) hx hb hr (fun t ht hW => ⟨⟨(-2), (fun k => ([n91_3] : List Int32).getD k 0, fun k => ([f92, f93, f94] : List (Nat → Int32)).getD k (fun _ => 0), fun k => ([] : List (Nat → Int64)).getD k (fun _ => 0)), rfl, ⟨(fun hq => absurd hq (rne (rgn (-2) (x := (-2)) (by decide)) (y := 0) (c := 0) (by decide) (by decide))), (fun hq => absurd hq (rne (rgn (-2) (x := (-2)) (by decide)) (y := (-1)) (c := (-1)) (by decide) (by decide))), (fun hq => absurd (req (rgn (-2) (x := (-2)) (by decide)) (y := (-2)) (by decide)) hq), hp_n91_3, trivial⟩, hp_at ht hP⟩, hS.F ht⟩) hS.2.2 dX10_firms_9

set_option maxHeartbeats 4000000 in
set_option maxRecDepth 100000 in
theorem a_X10_firmest (l : Launch) (G : va_G) (ct : Nat → ClassId) (a0 : Nat) (a1 : Nat) (a3 : Nat) (a11 : Nat) (a25 : Nat) (a68 : Nat) (a69 : Nat) (a77 : Nat) (a82 : Nat) (a84 : Nat) (a88 : Nat) (a91 : Nat) (a12 : Nat) (a19 : Nat) (a24 : Nat) (n11_3 : Int32) (a13 : Nat) (a15 : Nat) (a16 : Nat) (a17 : Nat) (a18 : Nat) (n12_5 : Int32) (n12_6 : Int32) (a14 : Nat) (n13_1 : Int32) (f15 : Nat → Int32) (a20 : Nat) (a22 : Nat) (a23 : Nat) (n19_4 : Int32) (n19_5 : Int32) (n19_6 : Int32) (n19_7 : Int32) (a21 : Nat) (n20_1 : Int32) (f21 : Nat → Int32) (a92 : Nat) (a93 : Nat) (a94 : Nat) (n91_3 : Int32) (f92 : Nat → Int32) (f93 : Nat → Int32) (f94 : Nat → Int32) (hp_n13_1 : rg 0 8 n13_1) (hp_n20_1 : rg 0 8 n20_1) (hp_n91_3 : rg (-2147483648) 8 n91_3) : Met l yX10_firmest wsX10_firmest ({ frames := 4, cells := 0, slots := 0, locals := 89 }) (va_Pc [.ref a0] (wrP G ct [(a0, .inr (10, [.ref a1, .ref a3, .ref a11, .ref a25, .ref a68, .ref a69, .ref a77, .ref a82, .ref a84, .ref a88, .ref a91])), (a11, .inr (4, [.ref a12, .ref a19, .ref a24, .int n11_3])), (a12, .inr (9, [.ref a13, .ref a15, .ref a16, .ref a17, .ref a18, .int n12_5, .int n12_6])), (a13, .inr (0, [.ref a14, .int n13_1])), (a15, .inl (ct 0, 8, .inl f15)), (a19, .inr (2, [.ref a12, .ref a20, .ref a22, .ref a23, .int n19_4, .int n19_5, .int n19_6, .int n19_7])), (a20, .inr (0, [.ref a21, .int n20_1])), (a21, .inl (ct 0, 8, .inl f21)), (a91, .inr (3, [.ref a92, .ref a93, .ref a94, .int n91_3])), (a92, .inl (ct 0, 8, .inl f92)), (a93, .inl (ct 0, 8, .inl f93)), (a94, .inl (ct 0, 8, .inl f94))])) (va_Qi (fun (r : Int32) (u : SU) => rg (-2) 255 r ∧ (r = 0 → rg 1 2147483647 n12_5) ∧ (¬ r = (-2) → rg 1 2147483647 n12_5) ∧ rg (-2147483648) 8 (u.1 0) ∧ True) (fun u t => va_P G vwCl ((fun u : SU => [(a0, .inr (10, [.ref a1, .ref a3, .ref a11, .ref a25, .ref a68, .ref a69, .ref a77, .ref a82, .ref a84, .ref a88, .ref a91])), (a11, .inr (4, [.ref a12, .ref a19, .ref a24, .int n11_3])), (a12, .inr (9, [.ref a13, .ref a15, .ref a16, .ref a17, .ref a18, .int n12_5, .int n12_6])), (a13, .inr (0, [.ref a14, .int n13_1])), (a15, .inl (ct 0, 8, .inl f15)), (a19, .inr (2, [.ref a12, .ref a20, .ref a22, .ref a23, .int n19_4, .int n19_5, .int n19_6, .int n19_7])), (a20, .inr (0, [.ref a21, .int n20_1])), (a21, .inl (ct 0, 8, .inl f21)), (a91, .inr (3, [.ref a92, .ref a93, .ref a94, .int (u.1 0)])), (a92, .inl (ct 0, 8, .inl (u.2.1 0))), (a93, .inl (ct 0, 8, .inl (u.2.1 1))), (a94, .inl (ct 0, 8, .inl (u.2.1 2)))]) u) t.heap) (aset [(a0, .inr (10, [.ref a1, .ref a3, .ref a11, .ref a25, .ref a68, .ref a69, .ref a77, .ref a82, .ref a84, .ref a88, .ref a91])), (a11, .inr (4, [.ref a12, .ref a19, .ref a24, .int n11_3])), (a12, .inr (9, [.ref a13, .ref a15, .ref a16, .ref a17, .ref a18, .int n12_5, .int n12_6])), (a13, .inr (0, [.ref a14, .int n13_1])), (a15, .inl (ct 0, 8, .inl f15)), (a19, .inr (2, [.ref a12, .ref a20, .ref a22, .ref a23, .int n19_4, .int n19_5, .int n19_6, .int n19_7])), (a20, .inr (0, [.ref a21, .int n20_1])), (a21, .inl (ct 0, 8, .inl f21)), (a91, .inr (3, [.ref a92, .ref a93, .ref a94, .int n91_3])), (a92, .inl (ct 0, 8, .inl f92)), (a93, .inl (ct 0, 8, .inl f93)), (a94, .inl (ct 0, 8, .inl f94))])) 0 0 (aset [(a0, .inr (10, [.ref a1, .ref a3, .ref a11, .ref a25, .ref a68, .ref a69, .ref a77, .ref a82, .ref a84, .ref a88, .ref a91])), (a11, .inr (4, [.ref a12, .ref a19, .ref a24, .int n11_3])), (a12, .inr (9, [.ref a13, .ref a15, .ref a16, .ref a17, .ref a18, .int n12_5, .int n12_6])), (a13, .inr (0, [.ref a14, .int n13_1])), (a15, .inl (ct 0, 8, .inl f15)), (a19, .inr (2, [.ref a12, .ref a20, .ref a22, .ref a23, .int n19_4, .int n19_5, .int n19_6, .int n19_7])), (a20, .inr (0, [.ref a21, .int n20_1])), (a21, .inl (ct 0, 8, .inl f21)), (a91, .inr (3, [.ref a92, .ref a93, .ref a94, .int n91_3])), (a92, .inl (ct 0, 8, .inl f92)), (a93, .inl (ct 0, 8, .inl f93)), (a94, .inl (ct 0, 8, .inl f94))]) := by
  refine Met.ofW (cc := cX10_firmest) (maxL := 3) (ret := (some .int)) (by decide) rfl ?_
  intro p e s m args below meth c s₁ B hml hv
  obtain ⟨rfl, hP, hK, hD0⟩ := hv
  have hx := B.exec
  have hb := B.bytes
  have hr := B.returns
  have hts := atoms_spec (ws := wsX10_firmest) B.pre
  have hown : s.vm.findClass RX10 = some m.cls := findClass_of_methodNamed B.named
  have hlocks := B.notSynchronized
  have hD := hD0.aself
  generalize hAe : aset [(a0, .inr (10, [.ref a1, .ref a3, .ref a11, .ref a25, .ref a68, .ref a69, .ref a77, .ref a82, .ref a84, .ref a88, .ref a91])), (a11, .inr (4, [.ref a12, .ref a19, .ref a24, .int n11_3])), (a12, .inr (9, [.ref a13, .ref a15, .ref a16, .ref a17, .ref a18, .int n12_5, .int n12_6])), (a13, .inr (0, [.ref a14, .int n13_1])), (a15, .inl (ct 0, 8, .inl f15)), (a19, .inr (2, [.ref a12, .ref a20, .ref a22, .ref a23, .int n19_4, .int n19_5, .int n19_6, .int n19_7])), (a20, .inr (0, [.ref a21, .int n20_1])), (a21, .inl (ct 0, 8, .inl f21)), (a91, .inr (3, [.ref a92, .ref a93, .ref a94, .int n91_3])), (a92, .inl (ct 0, 8, .inl f92)), (a93, .inl (ct 0, 8, .inl f93)), (a94, .inl (ct 0, 8, .inl f94))] = A at hD ⊢
  have hS : va_S A s.heap s.heap [] := va_S.rf
  have hl := lv_entry ([.ref a0]) (n := 3) (Nat.le_of_ble_eq_true rfl)
  rw [lg_entry_eq]
  generalize (lg_sl ([.ref a0]) ++ List.replicate (3 - (lg_sl ([.ref a0])).length) Slot.unset).toArray = ls at hl ⊢
  have hl : lv_has ls 3 [(0, .ref a0)] := hl
  refine lv_aload_n hx hb dX10_firmest_0 rfl (lv_at hl 0 rfl) ?_
  refine ro_calli (va_runV (As := []) (rest := []) ⟨hx, hb, hml, hown, hts⟩ (a_X10_hasCity l G ct a0 a1 a3 a11 a25 a68 a69 a77 a82 a84 a88 a91 a12 a19 a24 n11_3 a13 a15 a16 a17 a18 n12_5 n12_6) (cwV 0 hts gX10_firmest_X10_hasCity rfl rfl rfl (by decide +kernel) ⟨Nat.le_of_ble_eq_true rfl, Nat.le_of_ble_eq_true rfl⟩) (ro_preV 10 0 hK (hP.sub [0, 1, 2] rfl) rfl rfl) rfl rfl hl.1 rfl (lv_room (Nat.le_of_ble_eq_true rfl)) dX10_firmest_1 ⟨Nat.zero_le _, Nat.zero_le _⟩) hS hP (fun r1 H locs wr1 hP hS => ?_)
  obtain ⟨p_1, p_2, p_3, -⟩ := wr1
  refine lv_if_ne (tgt := 10) hx hb dX10_firmest_4 (by decide) (fun c4 => ?_) (fun c4 => ?_)
  · have h_4 : rg 1 1 r1 := r_ne_lo_i c4 p_1 (by decide) (by decide)
    have h_5 : rg 1 2147483647 n12_5 := (p_2 (rne h_4 (y := 0) (c := 0) (by decide) (by decide)))
    refine lv_aload_n hx hb dX10_firmest_10 rfl (lv_at hl 0 rfl) ?_
    refine va_get (D := G) (ci := 10) (v := .ref a91) (C := RX10) (T := TX10) (N := 11) hx hb hts (by decide +kernel) hown hK.1 hP 0 rfl rfl 10 (by decide) (hts (.fieldLink RX10 84 "CardHolder" "peace" "LCardHolder$Peace;") (by decide +kernel)) (fun _ h9 => h9) rfl dX10_firmest_11 ?_
    refine lv_aload_n hx hb dX10_firmest_14 rfl (lv_at hl 0 rfl) ?_
    refine va_get (D := G) (ci := 10) (v := .ref a11) (C := RX10) (T := TX10) (N := 11) hx hb hts (by decide +kernel) hown hK.1 hP 0 rfl rfl 2 (by decide) (hts (.fieldLink RX10 28 "CardHolder" "play" "LCardHolder$Play;") (by decide +kernel)) (fun _ h9 => h9) rfl dX10_firmest_15 ?_
    refine wj_callv (wr := [(a0, .inr (10, [.ref a1, .ref a3, .ref a11, .ref a25, .ref a68, .ref a69, .ref a77, .ref a82, .ref a84, .ref a88, .ref a91]))]) (w1 := (fun u : SU => [(a91, .inr (3, [.ref a92, .ref a93, .ref a94, .int (u.1 0)])), (a92, .inl (ct 0, 8, .inl (u.2.1 0))), (a93, .inl (ct 0, 8, .inl (u.2.1 1))), (a94, .inl (ct 0, 8, .inl (u.2.1 2))), (a11, .inr (4, [.ref a12, .ref a19, .ref a24, .int n11_3])), (a12, .inr (9, [.ref a13, .ref a15, .ref a16, .ref a17, .ref a18, .int n12_5, .int n12_6])), (a13, .inr (0, [.ref a14, .int n13_1])), (a15, .inl (ct 0, 8, .inl f15)), (a19, .inr (2, [.ref a12, .ref a20, .ref a22, .ref a23, .int n19_4, .int n19_5, .int n19_6, .int n19_7])), (a20, .inr (0, [.ref a21, .int n20_1])), (a21, .inl (ct 0, 8, .inl f21))])) (va_runV (As := [.ref a11]) (rest := []) ⟨hx, hb, hml, hown, hts⟩ (a_X3_take l G ct a91 a92 a93 a94 n91_3 f92 f93 f94 a11 a12 a19 a24 n11_3 a13 a15 a16 a17 a18 n12_5 n12_6 a14 n13_1 f15 a20 a22 a23 n19_4 n19_5 n19_6 n19_7 a21 n20_1 f21 hp_n91_3 hp_n13_1 hp_n20_1) (cwV 1 hts gX10_firmest_X3_take rfl rfl rfl (by decide +kernel) ⟨Nat.le_of_ble_eq_true rfl, Nat.le_of_ble_eq_true rfl⟩) (wr_preV 3 0 hK (hP.sub [8, 9, 10, 11, 1, 2, 3, 4, 5, 6, 7] rfl) (hD.sub [8, 9, 10, 11, 1, 2, 3, 4, 5, 6, 7] (by decide) rfl) rfl rfl) rfl rfl hl.1 rfl (lv_room (Nat.le_of_ble_eq_true rfl)) dX10_firmest_18 ⟨Nat.zero_le _, Nat.zero_le _⟩) hS hP hD [8, 9, 10, 11, 1, 2, 3, 4, 5, 6, 7] [0] rfl rfl (by decide) (fun _ => rfl) (fun ur18 H locs wr18 hP hD hS => ?_)
    have hP : va_P G vwCl [(a0, .inr (10, [.ref a1, .ref a3, .ref a11, .ref a25, .ref a68, .ref a69, .ref a77, .ref a82, .ref a84, .ref a88, .ref a91])), (a11, .inr (4, [.ref a12, .ref a19, .ref a24, .int n11_3])), (a12, .inr (9, [.ref a13, .ref a15, .ref a16, .ref a17, .ref a18, .int n12_5, .int n12_6])), (a13, .inr (0, [.ref a14, .int n13_1])), (a15, .inl (ct 0, 8, .inl f15)), (a19, .inr (2, [.ref a12, .ref a20, .ref a22, .ref a23, .int n19_4, .int n19_5, .int n19_6, .int n19_7])), (a20, .inr (0, [.ref a21, .int n20_1])), (a21, .inl (ct 0, 8, .inl f21)), (a91, .inr (3, [.ref a92, .ref a93, .ref a94, .int (ur18.1 0)])), (a92, .inl (ct 0, 8, .inl (ur18.2.1 0))), (a93, .inl (ct 0, 8, .inl (ur18.2.1 1))), (a94, .inl (ct 0, 8, .inl (ur18.2.1 2)))] H := hP.sub [0, 5, 6, 7, 8, 9, 10, 11, 1, 2, 3, 4] rfl
    have hD : va_D A [(a0, .inr (10, [.ref a1, .ref a3, .ref a11, .ref a25, .ref a68, .ref a69, .ref a77, .ref a82, .ref a84, .ref a88, .ref a91])), (a11, .inr (4, [.ref a12, .ref a19, .ref a24, .int n11_3])), (a12, .inr (9, [.ref a13, .ref a15, .ref a16, .ref a17, .ref a18, .int n12_5, .int n12_6])), (a13, .inr (0, [.ref a14, .int n13_1])), (a15, .inl (ct 0, 8, .inl f15)), (a19, .inr (2, [.ref a12, .ref a20, .ref a22, .ref a23, .int n19_4, .int n19_5, .int n19_6, .int n19_7])), (a20, .inr (0, [.ref a21, .int n20_1])), (a21, .inl (ct 0, 8, .inl f21)), (a91, .inr (3, [.ref a92, .ref a93, .ref a94, .int (ur18.1 0)])), (a92, .inl (ct 0, 8, .inl (ur18.2.1 0))), (a93, .inl (ct 0, 8, .inl (ur18.2.1 1))), (a94, .inl (ct 0, 8, .inl (ur18.2.1 2)))] := hD.sub [0, 5, 6, 7, 8, 9, 10, 11, 1, 2, 3, 4] (by decide) rfl
    obtain ⟨p_6, -⟩ := wr18
    refine lv_iconst (v := 0) hx hb dX10_firmest_21 (by decide) ?_
    refine lv_istore_n (lv' := [(1, .int 0), (0, .ref a0)]) hx hb dX10_firmest_22 rfl hl (by decide) rfl (fun ls hl => ?_)
    refine lv_iconst (v := 1) hx hb dX10_firmest_23 (by decide) ?_
    refine lv_istore_n (lv' := [(2, .int 1), (1, .int 0), (0, .ref a0)]) hx hb dX10_firmest_24 rfl hl (by decide) rfl (fun ls hl => ?_)
    have j25 : ∀ (n : Nat) (x25_1 : Int32) (x25_2 : Int32) (H : Heap) (locs : List Loc) (ls : Array Slot), 2147483648 ≤ x25_2.toInt + (n : Int) → rg 0 255 x25_1 → rg 1 256 x25_2 → va_P G vwCl [(a0, .inr (10, [.ref a1, .ref a3, .ref a11, .ref a25, .ref a68, .ref a69, .ref a77, .ref a82, .ref a84, .ref a88, .ref a91])), (a11, .inr (4, [.ref a12, .ref a19, .ref a24, .int n11_3])), (a12, .inr (9, [.ref a13, .ref a15, .ref a16, .ref a17, .ref a18, .int n12_5, .int n12_6])), (a13, .inr (0, [.ref a14, .int n13_1])), (a15, .inl (ct 0, 8, .inl f15)), (a19, .inr (2, [.ref a12, .ref a20, .ref a22, .ref a23, .int n19_4, .int n19_5, .int n19_6, .int n19_7])), (a20, .inr (0, [.ref a21, .int n20_1])), (a21, .inl (ct 0, 8, .inl f21)), (a91, .inr (3, [.ref a92, .ref a93, .ref a94, .int (ur18.1 0)])), (a92, .inl (ct 0, 8, .inl (ur18.2.1 0))), (a93, .inl (ct 0, 8, .inl (ur18.2.1 1))), (a94, .inl (ct 0, 8, .inl (ur18.2.1 2)))] H → va_D A [(a0, .inr (10, [.ref a1, .ref a3, .ref a11, .ref a25, .ref a68, .ref a69, .ref a77, .ref a82, .ref a84, .ref a88, .ref a91])), (a11, .inr (4, [.ref a12, .ref a19, .ref a24, .int n11_3])), (a12, .inr (9, [.ref a13, .ref a15, .ref a16, .ref a17, .ref a18, .int n12_5, .int n12_6])), (a13, .inr (0, [.ref a14, .int n13_1])), (a15, .inl (ct 0, 8, .inl f15)), (a19, .inr (2, [.ref a12, .ref a20, .ref a22, .ref a23, .int n19_4, .int n19_5, .int n19_6, .int n19_7])), (a20, .inr (0, [.ref a21, .int n20_1])), (a21, .inl (ct 0, 8, .inl f21)), (a91, .inr (3, [.ref a92, .ref a93, .ref a94, .int (ur18.1 0)])), (a92, .inl (ct 0, 8, .inl (ur18.2.1 0))), (a93, .inl (ct 0, 8, .inl (ur18.2.1 1))), (a94, .inl (ct 0, 8, .inl (ur18.2.1 2)))] → va_S A s.heap H locs → lv_has ls 3 [(0, .ref a0), (1, .int x25_1), (2, .int x25_2)] → W p l e (headSpec wsX10_firmest ({ frames := 4, cells := 0, slots := 0, locals := 89 })).room s m ([.ref a0] : List Value).toArray below meth c H locs 0 0 (MQ below (va_Qi (fun (r : Int32) (u : SU) => rg (-2) 255 r ∧ (r = 0 → rg 1 2147483647 n12_5) ∧ (¬ r = (-2) → rg 1 2147483647 n12_5) ∧ rg (-2147483648) 8 (u.1 0) ∧ True) (fun u t => va_P G vwCl ((fun u : SU => [(a0, .inr (10, [.ref a1, .ref a3, .ref a11, .ref a25, .ref a68, .ref a69, .ref a77, .ref a82, .ref a84, .ref a88, .ref a91])), (a11, .inr (4, [.ref a12, .ref a19, .ref a24, .int n11_3])), (a12, .inr (9, [.ref a13, .ref a15, .ref a16, .ref a17, .ref a18, .int n12_5, .int n12_6])), (a13, .inr (0, [.ref a14, .int n13_1])), (a15, .inl (ct 0, 8, .inl f15)), (a19, .inr (2, [.ref a12, .ref a20, .ref a22, .ref a23, .int n19_4, .int n19_5, .int n19_6, .int n19_7])), (a20, .inr (0, [.ref a21, .int n20_1])), (a21, .inl (ct 0, 8, .inl f21)), (a91, .inr (3, [.ref a92, .ref a93, .ref a94, .int (u.1 0)])), (a92, .inl (ct 0, 8, .inl (u.2.1 0))), (a93, .inl (ct 0, 8, .inl (u.2.1 1))), (a94, .inl (ct 0, 8, .inl (u.2.1 2)))]) u) t.heap) A) ([.ref a0] : List Value).toArray s 0 0 A) (F0 m 25 ls []) := by
      intro n
      induction n with
      | zero => intro x25_1 x25_2 H locs ls hn25 hx25_1 hx25_2 hP hD hS hl; exact absurd hn25 (by have := Int32.toInt_lt x25_2; have := Int32.le_toInt x25_2; omega)
      | succ n ih25 =>
        intro x25_1 x25_2 H locs ls hn25 hx25_1 hx25_2 hP hD hS hl
        refine lv_iload_n hx hb dX10_firmest_25 rfl (lv_at hl 2 rfl) ?_
        refine lv_aload_n hx hb dX10_firmest_26 rfl (lv_at hl 0 rfl) ?_
        refine ro_callr (va_runV (As := []) (rest := [.int x25_2]) ⟨hx, hb, hml, hown, hts⟩ (a_X10_bonds l G ct a0 a1 a3 a11 a25 a68 a69 a77 a82 a84 a88 a91 a12 a19 a24 n11_3 a20 a22 a23 n19_4 n19_5 n19_6 n19_7) (cwV 0 hts gX10_firmest_X10_bonds rfl rfl rfl (by decide +kernel) ⟨Nat.le_of_ble_eq_true rfl, Nat.le_of_ble_eq_true rfl⟩) (ro_preV 10 0 hK (hP.sub [0, 1, 5] rfl) rfl rfl) rfl rfl hl.1 rfl (lv_room (Nat.le_of_ble_eq_true rfl)) dX10_firmest_27 ⟨Nat.zero_le _, Nat.zero_le _⟩) hS hP (fun H locs hP hS => ?_)
        refine ro_calli (va_runV (As := []) (rest := [.int x25_2]) ⟨hx, hb, hml, hown, hts⟩ (a_X0_everyone l G ct a20 a21 n20_1 hp_n20_1) (cwV 0 hts gX10_firmest_X0_everyone rfl rfl rfl (by decide +kernel) ⟨Nat.le_of_ble_eq_true rfl, Nat.le_of_ble_eq_true rfl⟩) (ro_preV 0 0 hK (hP.sub [6] rfl) rfl rfl) rfl rfl hl.1 rfl (lv_room (Nat.le_of_ble_eq_true rfl)) dX10_firmest_30 ⟨Nat.zero_le _, Nat.zero_le _⟩) hS hP (fun r30 H locs wr30 hP hS => ?_)
        obtain ⟨p_7, -⟩ := wr30
        refine lv_icmp_gt (tgt := 66) hx hb dX10_firmest_33 (by decide) (fun c33 => ?_) (fun c33 => ?_)
        · refine lv_iload_n hx hb dX10_firmest_66 rfl (lv_at hl 1 rfl) ?_
          exact W.iret (v := x25_1) hx hb hr (fun t ht hW => ⟨⟨x25_1, (fun k => ([ur18.1 0] : List Int32).getD k 0, fun k => ([ur18.2.1 0, ur18.2.1 1, ur18.2.1 2] : List (Nat → Int32)).getD k (fun _ => 0), fun k => ([] : List (Nat → Int64)).getD k (fun _ => 0)), rfl, ⟨(rg_w (c := (-2)) (d := 255) hx25_1 (by decide)), (fun _ => h_5), (fun _ => h_5), (rg_w (c := (-2147483648)) (d := 8) p_6 (by decide)), trivial⟩, hp_at ht hP⟩, hS.F ht⟩) hS.2.2 dX10_firmest_67
        · have h_8 : rg 1 255 x25_2 := r_le_l_i (nlt_i c33) hx25_2 p_7
          have h_9 : rg 1 255 r30 := r_le_r_i (nlt_i c33) hx25_2 p_7
          refine lv_iload_n hx hb dX10_firmest_36 rfl (lv_at hl 2 rfl) ?_
          refine ro_calli (va_runS (As := [.int x25_2]) (rest := []) ⟨hx, hb, hml, hown, hts⟩ (a_J6_bitCount_0f7a4 l G ct x25_2) (va_cwS 1 hts gX10_firmest_J6_bitCount_0f7a4 rfl rfl rfl (by decide +kernel) ⟨Nat.le_of_ble_eq_true rfl, Nat.le_of_ble_eq_true rfl⟩) (ro_pre hK (hP.sub [] rfl)) rfl rfl hl.1 rfl (lv_room (Nat.le_of_ble_eq_true rfl)) dX10_firmest_37 ⟨Nat.zero_le _, Nat.zero_le _⟩) hS hP (fun r37 H locs wr37 hP hS => ?_)
          obtain ⟨p_10, -⟩ := wr37
          refine lv_iload_n hx hb dX10_firmest_40 rfl (lv_at hl 1 rfl) ?_
          refine ro_calli (va_runS (As := [.int x25_1]) (rest := [.int r37]) ⟨hx, hb, hml, hown, hts⟩ (a_J6_bitCount_0f7a4 l G ct x25_1) (va_cwS 1 hts gX10_firmest_J6_bitCount_0f7a4 rfl rfl rfl (by decide +kernel) ⟨Nat.le_of_ble_eq_true rfl, Nat.le_of_ble_eq_true rfl⟩) (ro_pre hK (hP.sub [] rfl)) rfl rfl hl.1 rfl (lv_room (Nat.le_of_ble_eq_true rfl)) dX10_firmest_41 ⟨Nat.zero_le _, Nat.zero_le _⟩) hS hP (fun r41 H locs wr41 hP hS => ?_)
          obtain ⟨p_11, -⟩ := wr41
          have j60 : ∀ (x60_1 : Int32) (H : Heap) (locs : List Loc) (ls : Array Slot), rg 0 255 x60_1 → va_P G vwCl [(a0, .inr (10, [.ref a1, .ref a3, .ref a11, .ref a25, .ref a68, .ref a69, .ref a77, .ref a82, .ref a84, .ref a88, .ref a91])), (a11, .inr (4, [.ref a12, .ref a19, .ref a24, .int n11_3])), (a12, .inr (9, [.ref a13, .ref a15, .ref a16, .ref a17, .ref a18, .int n12_5, .int n12_6])), (a13, .inr (0, [.ref a14, .int n13_1])), (a15, .inl (ct 0, 8, .inl f15)), (a19, .inr (2, [.ref a12, .ref a20, .ref a22, .ref a23, .int n19_4, .int n19_5, .int n19_6, .int n19_7])), (a20, .inr (0, [.ref a21, .int n20_1])), (a21, .inl (ct 0, 8, .inl f21)), (a91, .inr (3, [.ref a92, .ref a93, .ref a94, .int (ur18.1 0)])), (a92, .inl (ct 0, 8, .inl (ur18.2.1 0))), (a93, .inl (ct 0, 8, .inl (ur18.2.1 1))), (a94, .inl (ct 0, 8, .inl (ur18.2.1 2)))] H → va_D A [(a0, .inr (10, [.ref a1, .ref a3, .ref a11, .ref a25, .ref a68, .ref a69, .ref a77, .ref a82, .ref a84, .ref a88, .ref a91])), (a11, .inr (4, [.ref a12, .ref a19, .ref a24, .int n11_3])), (a12, .inr (9, [.ref a13, .ref a15, .ref a16, .ref a17, .ref a18, .int n12_5, .int n12_6])), (a13, .inr (0, [.ref a14, .int n13_1])), (a15, .inl (ct 0, 8, .inl f15)), (a19, .inr (2, [.ref a12, .ref a20, .ref a22, .ref a23, .int n19_4, .int n19_5, .int n19_6, .int n19_7])), (a20, .inr (0, [.ref a21, .int n20_1])), (a21, .inl (ct 0, 8, .inl f21)), (a91, .inr (3, [.ref a92, .ref a93, .ref a94, .int (ur18.1 0)])), (a92, .inl (ct 0, 8, .inl (ur18.2.1 0))), (a93, .inl (ct 0, 8, .inl (ur18.2.1 1))), (a94, .inl (ct 0, 8, .inl (ur18.2.1 2)))] → va_S A s.heap H locs → lv_has ls 3 [(0, .ref a0), (1, .int x60_1), (2, .int x25_2)] → W p l e (headSpec wsX10_firmest ({ frames := 4, cells := 0, slots := 0, locals := 89 })).room s m ([.ref a0] : List Value).toArray below meth c H locs 0 0 (MQ below (va_Qi (fun (r : Int32) (u : SU) => rg (-2) 255 r ∧ (r = 0 → rg 1 2147483647 n12_5) ∧ (¬ r = (-2) → rg 1 2147483647 n12_5) ∧ rg (-2147483648) 8 (u.1 0) ∧ True) (fun u t => va_P G vwCl ((fun u : SU => [(a0, .inr (10, [.ref a1, .ref a3, .ref a11, .ref a25, .ref a68, .ref a69, .ref a77, .ref a82, .ref a84, .ref a88, .ref a91])), (a11, .inr (4, [.ref a12, .ref a19, .ref a24, .int n11_3])), (a12, .inr (9, [.ref a13, .ref a15, .ref a16, .ref a17, .ref a18, .int n12_5, .int n12_6])), (a13, .inr (0, [.ref a14, .int n13_1])), (a15, .inl (ct 0, 8, .inl f15)), (a19, .inr (2, [.ref a12, .ref a20, .ref a22, .ref a23, .int n19_4, .int n19_5, .int n19_6, .int n19_7])), (a20, .inr (0, [.ref a21, .int n20_1])), (a21, .inl (ct 0, 8, .inl f21)), (a91, .inr (3, [.ref a92, .ref a93, .ref a94, .int (u.1 0)])), (a92, .inl (ct 0, 8, .inl (u.2.1 0))), (a93, .inl (ct 0, 8, .inl (u.2.1 1))), (a94, .inl (ct 0, 8, .inl (u.2.1 2)))]) u) t.heap) A) ([.ref a0] : List Value).toArray s 0 0 A) (F0 m 60 ls []) := by
            intro x60_1 H locs ls hx60_1 hP hD hS hl
            obtain ⟨z60, qz60⟩ : ∃ y : Int32, y = x25_2 + Int32.ofInt 1 := ⟨_, rfl⟩
            obtain ⟨hz60, ez60⟩ := inc_z (e := 2) (f := 256) h_8 qz60 (by decide)
            refine lv_iinc (v := z60) (lv' := [(2, .int z60), (0, .ref a0), (1, .int x60_1)]) hx hb dX10_firmest_60 hl (k := 2) rfl (qz60.symm) (by decide) rfl (fun ls hl => ?_)
            refine lv_goto (tgt := 25) hx hb dX10_firmest_63 (by decide) ?_
            exact ih25 x60_1 z60 _ _ ls (by have q := hn25; have := ez60; omega) hx60_1 (rg_w (c := 1) (d := 256) hz60 (by decide)) hP hD hS (lv_sub hl [1, 2, 0] rfl)
          refine lv_icmp_le (tgt := 60) hx hb dX10_firmest_44 (by decide) (fun c44 => ?_) (fun c44 => ?_)
          · exact j60 x25_1 _ _ ls hx25_1 hP hD hS (lv_sub hl [0, 1, 2] rfl)
          · have h_12 : rg 0 62 r41 := r_lt_l_i (nle_i c44) p_11 p_10 (by decide)
            have h_13 : rg 1 63 r37 := r_lt_r_i (nle_i c44) p_11 p_10 (by decide)
            refine lv_aload_n hx hb dX10_firmest_47 rfl (lv_at hl 0 rfl) ?_
            refine va_get (D := G) (ci := 10) (v := .ref a91) (C := RX10) (T := TX10) (N := 11) hx hb hts (by decide +kernel) hown hK.1 hP 0 rfl rfl 10 (by decide) (hts (.fieldLink RX10 84 "CardHolder" "peace" "LCardHolder$Peace;") (by decide +kernel)) (fun _ h9 => h9) rfl dX10_firmest_48 ?_
            refine lv_iload_n hx hb dX10_firmest_51 rfl (lv_at hl 2 rfl) ?_
            refine ro_calli (va_runV (As := [.int x25_2]) (rest := []) ⟨hx, hb, hml, hown, hts⟩ (a_X3_losersOf l G ct a91 a92 a93 a94 (ur18.1 0) (ur18.2.1 0) (ur18.2.1 1) (ur18.2.1 2) x25_2 (rg_w (c := (-2147483648)) (d := 8) p_6 (by decide))) (cwV 1 hts gX10_firmest_X3_losersOf rfl rfl rfl (by decide +kernel) ⟨Nat.le_of_ble_eq_true rfl, Nat.le_of_ble_eq_true rfl⟩) (ro_preV 3 0 hK (hP.sub [8, 9, 10, 11] rfl) rfl rfl) rfl rfl hl.1 rfl (lv_room (Nat.le_of_ble_eq_true rfl)) dX10_firmest_52 ⟨Nat.zero_le _, Nat.zero_le _⟩) hS hP (fun r52 H locs wr52 hP hS => ?_)
            obtain ⟨p_14, -⟩ := wr52
            refine lv_if_ne (tgt := 60) hx hb dX10_firmest_55 (by decide) (fun c55 => ?_) (fun c55 => ?_)
            · have h_15 : rg 1 255 r52 := r_ne_lo_i c55 p_14 (by decide) (by decide)
              exact j60 x25_1 _ _ ls hx25_1 hP hD hS (lv_sub hl [0, 1, 2] rfl)
            · have h_16 : rg 0 0 r52 := r_eq_l_i (e := 0) (f := 0) c55 p_14 (rgn 0 (x := 0) (by decide)) (by decide)
              refine lv_iload_n hx hb dX10_firmest_58 rfl (lv_at hl 2 rfl) ?_
              refine lv_istore_n (lv' := [(1, .int x25_2), (0, .ref a0), (2, .int x25_2)]) hx hb dX10_firmest_59 rfl hl (by decide) rfl (fun ls hl => ?_)
              exact j60 x25_2 _ _ ls (rg_w (c := 0) (d := 255) h_8 (by decide)) hP hD hS (lv_sub hl [1, 0, 2] rfl)
    exact j25 4294967296 (0 : Int32) (1 : Int32) _ _ ls (ms_e (1 : Int32)) (rg_w (c := 0) (d := 255) (rgn 0 (x := 0) (by decide)) (by decide)) (rg_w (c := 1) (d := 256) (rgn 1 (x := 1) (by decide)) (by decide)) hP hD hS (lv_sub hl [2, 1, 0] rfl)
  · have h_17 : rg 0 0 r1 := r_eq_l_i (e := 0) (f := 0) c4 p_1 (rgn 0 (x := 0) (by decide)) (by decide)
    have h_18 : rg (-2147483648) 0 n12_5 := (p_3 (req h_17 (y := 0) (by decide)))
    refine lv_bipush (v := (-2)) hx hb dX10_firmest_7 (by decide) ?_
    exact W.iret (v := (-2)) hx hb hr (fun t ht hW => ⟨⟨(-2), (fun k => ([n91_3] : List Int32).getD k 0, fun k => ([f92, f93, f94] : List (Nat → Int32)).getD k (fun _ => 0), fun k => ([] : List (Nat → Int64)).getD k (fun _ => 0)), rfl, ⟨(rg_w (c := (-2)) (d := 255) (rgn (-2) (x := (-2)) (by decide)) (by decide)), (fun hq => absurd hq (rne (rgn (-2) (x := (-2)) (by decide)) (y := 0) (c := 0) (by decide) (by decide))), (fun hq => absurd (req (rgn (-2) (x := (-2)) (by decide)) (y := (-2)) (by decide)) hq), hp_n91_3, trivial⟩, hp_at ht hP⟩, hS.F ht⟩) hS.2.2 dX10_firmest_9

set_option maxHeartbeats 4000000 in
set_option maxRecDepth 100000 in
theorem a_X10_wins (l : Launch) (G : va_G) (ct : Nat → ClassId) (a0 : Nat) (a1 : Nat) (a3 : Nat) (a11 : Nat) (a25 : Nat) (a68 : Nat) (a69 : Nat) (a77 : Nat) (a82 : Nat) (a84 : Nat) (a88 : Nat) (a91 : Nat) (a12 : Nat) (a19 : Nat) (a24 : Nat) (n11_3 : Int32) (a13 : Nat) (a15 : Nat) (a16 : Nat) (a17 : Nat) (a18 : Nat) (n12_5 : Int32) (n12_6 : Int32) (a14 : Nat) (n13_1 : Int32) (f15 : Nat → Int32) (a20 : Nat) (a22 : Nat) (a23 : Nat) (n19_4 : Int32) (n19_5 : Int32) (n19_6 : Int32) (n19_7 : Int32) (a21 : Nat) (n20_1 : Int32) (f21 : Nat → Int32) (a92 : Nat) (a93 : Nat) (a94 : Nat) (n91_3 : Int32) (f92 : Nat → Int32) (f93 : Nat → Int32) (f94 : Nat → Int32) (p0 : Int32) (p1 : Int32) (hp_n13_1 : rg 0 8 n13_1) (hp_n20_1 : rg 0 8 n20_1) (hp_n91_3 : rg (-2147483648) 8 n91_3) : Met l yX10_wins wsX10_wins ({ frames := 4, cells := 0, slots := 0, locals := 89 }) (va_Pc [.ref a0, .int p0, .int p1] (wrP G ct [(a0, .inr (10, [.ref a1, .ref a3, .ref a11, .ref a25, .ref a68, .ref a69, .ref a77, .ref a82, .ref a84, .ref a88, .ref a91])), (a11, .inr (4, [.ref a12, .ref a19, .ref a24, .int n11_3])), (a12, .inr (9, [.ref a13, .ref a15, .ref a16, .ref a17, .ref a18, .int n12_5, .int n12_6])), (a13, .inr (0, [.ref a14, .int n13_1])), (a15, .inl (ct 0, 8, .inl f15)), (a19, .inr (2, [.ref a12, .ref a20, .ref a22, .ref a23, .int n19_4, .int n19_5, .int n19_6, .int n19_7])), (a20, .inr (0, [.ref a21, .int n20_1])), (a21, .inl (ct 0, 8, .inl f21)), (a91, .inr (3, [.ref a92, .ref a93, .ref a94, .int n91_3])), (a92, .inl (ct 0, 8, .inl f92)), (a93, .inl (ct 0, 8, .inl f93)), (a94, .inl (ct 0, 8, .inl f94))])) (va_Qi (fun (r : Int32) (u : SU) => (r = 0 → rg 0 255 p0) ∧ (r = (-1) → rg 0 255 p0) ∧ (r = 0 → rg 0 7 p1) ∧ (r = (-1) → rg 0 7 p1) ∧ (r = 0 → rg 1 2147483647 n12_5) ∧ (r = (-1) → rg 1 2147483647 n12_5) ∧ (r = 0 → rg 1 8 n20_1) ∧ (r = (-1) → rg 1 8 n20_1) ∧ rg (-2147483648) 8 (u.1 0) ∧ True) (fun u t => va_P G vwCl ((fun u : SU => [(a0, .inr (10, [.ref a1, .ref a3, .ref a11, .ref a25, .ref a68, .ref a69, .ref a77, .ref a82, .ref a84, .ref a88, .ref a91])), (a11, .inr (4, [.ref a12, .ref a19, .ref a24, .int n11_3])), (a12, .inr (9, [.ref a13, .ref a15, .ref a16, .ref a17, .ref a18, .int n12_5, .int n12_6])), (a13, .inr (0, [.ref a14, .int n13_1])), (a15, .inl (ct 0, 8, .inl f15)), (a19, .inr (2, [.ref a12, .ref a20, .ref a22, .ref a23, .int n19_4, .int n19_5, .int n19_6, .int n19_7])), (a20, .inr (0, [.ref a21, .int n20_1])), (a21, .inl (ct 0, 8, .inl f21)), (a91, .inr (3, [.ref a92, .ref a93, .ref a94, .int (u.1 0)])), (a92, .inl (ct 0, 8, .inl (u.2.1 0))), (a93, .inl (ct 0, 8, .inl (u.2.1 1))), (a94, .inl (ct 0, 8, .inl (u.2.1 2)))]) u) t.heap) (aset [(a0, .inr (10, [.ref a1, .ref a3, .ref a11, .ref a25, .ref a68, .ref a69, .ref a77, .ref a82, .ref a84, .ref a88, .ref a91])), (a11, .inr (4, [.ref a12, .ref a19, .ref a24, .int n11_3])), (a12, .inr (9, [.ref a13, .ref a15, .ref a16, .ref a17, .ref a18, .int n12_5, .int n12_6])), (a13, .inr (0, [.ref a14, .int n13_1])), (a15, .inl (ct 0, 8, .inl f15)), (a19, .inr (2, [.ref a12, .ref a20, .ref a22, .ref a23, .int n19_4, .int n19_5, .int n19_6, .int n19_7])), (a20, .inr (0, [.ref a21, .int n20_1])), (a21, .inl (ct 0, 8, .inl f21)), (a91, .inr (3, [.ref a92, .ref a93, .ref a94, .int n91_3])), (a92, .inl (ct 0, 8, .inl f92)), (a93, .inl (ct 0, 8, .inl f93)), (a94, .inl (ct 0, 8, .inl f94))])) 0 0 (aset [(a0, .inr (10, [.ref a1, .ref a3, .ref a11, .ref a25, .ref a68, .ref a69, .ref a77, .ref a82, .ref a84, .ref a88, .ref a91])), (a11, .inr (4, [.ref a12, .ref a19, .ref a24, .int n11_3])), (a12, .inr (9, [.ref a13, .ref a15, .ref a16, .ref a17, .ref a18, .int n12_5, .int n12_6])), (a13, .inr (0, [.ref a14, .int n13_1])), (a15, .inl (ct 0, 8, .inl f15)), (a19, .inr (2, [.ref a12, .ref a20, .ref a22, .ref a23, .int n19_4, .int n19_5, .int n19_6, .int n19_7])), (a20, .inr (0, [.ref a21, .int n20_1])), (a21, .inl (ct 0, 8, .inl f21)), (a91, .inr (3, [.ref a92, .ref a93, .ref a94, .int n91_3])), (a92, .inl (ct 0, 8, .inl f92)), (a93, .inl (ct 0, 8, .inl f93)), (a94, .inl (ct 0, 8, .inl f94))]) := by
  refine Met.ofW (cc := cX10_wins) (maxL := 3) (ret := (some .int)) (by decide) rfl ?_
  intro p e s m args below meth c s₁ B hml hv
  obtain ⟨rfl, hP, hK, hD0⟩ := hv
  have hx := B.exec
  have hb := B.bytes
  have hr := B.returns
  have hts := atoms_spec (ws := wsX10_wins) B.pre
  have hown : s.vm.findClass RX10 = some m.cls := findClass_of_methodNamed B.named
  have hlocks := B.notSynchronized
  have hD := hD0.aself
  generalize hAe : aset [(a0, .inr (10, [.ref a1, .ref a3, .ref a11, .ref a25, .ref a68, .ref a69, .ref a77, .ref a82, .ref a84, .ref a88, .ref a91])), (a11, .inr (4, [.ref a12, .ref a19, .ref a24, .int n11_3])), (a12, .inr (9, [.ref a13, .ref a15, .ref a16, .ref a17, .ref a18, .int n12_5, .int n12_6])), (a13, .inr (0, [.ref a14, .int n13_1])), (a15, .inl (ct 0, 8, .inl f15)), (a19, .inr (2, [.ref a12, .ref a20, .ref a22, .ref a23, .int n19_4, .int n19_5, .int n19_6, .int n19_7])), (a20, .inr (0, [.ref a21, .int n20_1])), (a21, .inl (ct 0, 8, .inl f21)), (a91, .inr (3, [.ref a92, .ref a93, .ref a94, .int n91_3])), (a92, .inl (ct 0, 8, .inl f92)), (a93, .inl (ct 0, 8, .inl f93)), (a94, .inl (ct 0, 8, .inl f94))] = A at hD ⊢
  have hS : va_S A s.heap s.heap [] := va_S.rf
  have hl := lv_entry ([.ref a0, .int p0, .int p1]) (n := 3) (Nat.le_of_ble_eq_true rfl)
  rw [lg_entry_eq]
  generalize (lg_sl ([.ref a0, .int p0, .int p1]) ++ List.replicate (3 - (lg_sl ([.ref a0, .int p0, .int p1])).length) Slot.unset).toArray = ls at hl ⊢
  have hl : lv_has ls 3 [(0, .ref a0), (1, .int p0), (2, .int p1)] := hl
  refine lv_aload_n hx hb dX10_wins_0 rfl (lv_at hl 0 rfl) ?_
  refine ro_calli (va_runV (As := []) (rest := []) ⟨hx, hb, hml, hown, hts⟩ (a_X10_hasCity l G ct a0 a1 a3 a11 a25 a68 a69 a77 a82 a84 a88 a91 a12 a19 a24 n11_3 a13 a15 a16 a17 a18 n12_5 n12_6) (cwV 0 hts gX10_wins_X10_hasCity rfl rfl rfl (by decide +kernel) ⟨Nat.le_of_ble_eq_true rfl, Nat.le_of_ble_eq_true rfl⟩) (ro_preV 10 0 hK (hP.sub [0, 1, 2] rfl) rfl rfl) rfl rfl hl.1 rfl (lv_room (Nat.le_of_ble_eq_true rfl)) dX10_wins_1 ⟨Nat.zero_le _, Nat.zero_le _⟩) hS hP (fun r1 H locs wr1 hP hS => ?_)
  obtain ⟨p_1, p_2, p_3, -⟩ := wr1
  refine lv_if_eq (tgt := 31) hx hb dX10_wins_4 (by decide) (fun c4 => ?_) (fun c4 => ?_)
  · have h_4 : rg 0 0 r1 := r_eq_l_i (e := 0) (f := 0) c4 p_1 (rgn 0 (x := 0) (by decide)) (by decide)
    have h_5 : rg (-2147483648) 0 n12_5 := (p_3 (req h_4 (y := 0) (by decide)))
    refine lv_sipush (v := (-10000)) hx hb dX10_wins_31 (by decide) ?_
    exact W.iret (v := (-10000)) hx hb hr (fun t ht hW => ⟨⟨(-10000), (fun k => ([n91_3] : List Int32).getD k 0, fun k => ([f92, f93, f94] : List (Nat → Int32)).getD k (fun _ => 0), fun k => ([] : List (Nat → Int64)).getD k (fun _ => 0)), rfl, ⟨(fun hq => absurd hq (rne (rgn (-10000) (x := (-10000)) (by decide)) (y := 0) (c := 0) (by decide) (by decide))), (fun hq => absurd hq (rne (rgn (-10000) (x := (-10000)) (by decide)) (y := (-1)) (c := (-1)) (by decide) (by decide))), (fun hq => absurd hq (rne (rgn (-10000) (x := (-10000)) (by decide)) (y := 0) (c := 0) (by decide) (by decide))), (fun hq => absurd hq (rne (rgn (-10000) (x := (-10000)) (by decide)) (y := (-1)) (c := (-1)) (by decide) (by decide))), (fun hq => absurd hq (rne (rgn (-10000) (x := (-10000)) (by decide)) (y := 0) (c := 0) (by decide) (by decide))), (fun hq => absurd hq (rne (rgn (-10000) (x := (-10000)) (by decide)) (y := (-1)) (c := (-1)) (by decide) (by decide))), (fun hq => absurd hq (rne (rgn (-10000) (x := (-10000)) (by decide)) (y := 0) (c := 0) (by decide) (by decide))), (fun hq => absurd hq (rne (rgn (-10000) (x := (-10000)) (by decide)) (y := (-1)) (c := (-1)) (by decide) (by decide))), hp_n91_3, trivial⟩, hp_at ht hP⟩, hS.F ht⟩) hS.2.2 dX10_wins_34
  · have h_6 : rg 1 1 r1 := r_ne_lo_i c4 p_1 (by decide) (by decide)
    have h_7 : rg 1 2147483647 n12_5 := (p_2 (rne h_6 (y := 0) (c := 0) (by decide) (by decide)))
    refine lv_aload_n hx hb dX10_wins_7 rfl (lv_at hl 0 rfl) ?_
    refine lv_iload_n hx hb dX10_wins_8 rfl (lv_at hl 1 rfl) ?_
    refine ro_calli (va_runV (As := [.int p0]) (rest := []) ⟨hx, hb, hml, hown, hts⟩ (a_X10_isPersonSet l G ct a0 a1 a3 a11 a25 a68 a69 a77 a82 a84 a88 a91 a12 a19 a24 n11_3 a20 a22 a23 n19_4 n19_5 n19_6 n19_7 a21 n20_1 p0 hp_n20_1) (cwV 1 hts gX10_wins_X10_isPersonSet rfl rfl rfl (by decide +kernel) ⟨Nat.le_of_ble_eq_true rfl, Nat.le_of_ble_eq_true rfl⟩) (ro_preV 10 0 hK (hP.sub [0, 1, 5, 6] rfl) rfl rfl) rfl rfl hl.1 rfl (lv_room (Nat.le_of_ble_eq_true rfl)) dX10_wins_9 ⟨Nat.zero_le _, Nat.zero_le _⟩) hS hP (fun r9 H locs wr9 hP hS => ?_)
    obtain ⟨p_8, p_9, -⟩ := wr9
    refine lv_if_eq (tgt := 31) hx hb dX10_wins_12 (by decide) (fun c12 => ?_) (fun c12 => ?_)
    · have h_10 : rg 0 0 r9 := r_eq_l_i (e := 0) (f := 0) c12 p_8 (rgn 0 (x := 0) (by decide)) (by decide)
      refine lv_sipush (v := (-10000)) hx hb dX10_wins_31 (by decide) ?_
      exact W.iret (v := (-10000)) hx hb hr (fun t ht hW => ⟨⟨(-10000), (fun k => ([n91_3] : List Int32).getD k 0, fun k => ([f92, f93, f94] : List (Nat → Int32)).getD k (fun _ => 0), fun k => ([] : List (Nat → Int64)).getD k (fun _ => 0)), rfl, ⟨(fun hq => absurd hq (rne (rgn (-10000) (x := (-10000)) (by decide)) (y := 0) (c := 0) (by decide) (by decide))), (fun hq => absurd hq (rne (rgn (-10000) (x := (-10000)) (by decide)) (y := (-1)) (c := (-1)) (by decide) (by decide))), (fun hq => absurd hq (rne (rgn (-10000) (x := (-10000)) (by decide)) (y := 0) (c := 0) (by decide) (by decide))), (fun hq => absurd hq (rne (rgn (-10000) (x := (-10000)) (by decide)) (y := (-1)) (c := (-1)) (by decide) (by decide))), (fun _ => h_7), (fun _ => h_7), (fun hq => absurd hq (rne (rgn (-10000) (x := (-10000)) (by decide)) (y := 0) (c := 0) (by decide) (by decide))), (fun hq => absurd hq (rne (rgn (-10000) (x := (-10000)) (by decide)) (y := (-1)) (c := (-1)) (by decide) (by decide))), hp_n91_3, trivial⟩, hp_at ht hP⟩, hS.F ht⟩) hS.2.2 dX10_wins_34
    · have h_11 : rg 1 1 r9 := r_ne_lo_i c12 p_8 (by decide) (by decide)
      have h_12 : rg 0 255 p0 := (p_9 (rne h_11 (y := 0) (c := 0) (by decide) (by decide)))
      refine lv_aload_n hx hb dX10_wins_15 rfl (lv_at hl 0 rfl) ?_
      refine lv_iload_n hx hb dX10_wins_16 rfl (lv_at hl 2 rfl) ?_
      refine ro_calli (va_runV (As := [.int p1]) (rest := []) ⟨hx, hb, hml, hown, hts⟩ (a_X10_isPerson l G ct a0 a1 a3 a11 a25 a68 a69 a77 a82 a84 a88 a91 a12 a19 a24 n11_3 a20 a22 a23 n19_4 n19_5 n19_6 n19_7 a21 n20_1 p1 hp_n20_1) (cwV 1 hts gX10_wins_X10_isPerson rfl rfl rfl (by decide +kernel) ⟨Nat.le_of_ble_eq_true rfl, Nat.le_of_ble_eq_true rfl⟩) (ro_preV 10 0 hK (hP.sub [0, 1, 5, 6] rfl) rfl rfl) rfl rfl hl.1 rfl (lv_room (Nat.le_of_ble_eq_true rfl)) dX10_wins_17 ⟨Nat.zero_le _, Nat.zero_le _⟩) hS hP (fun r17 H locs wr17 hP hS => ?_)
      obtain ⟨p_13, p_14, p_15, -⟩ := wr17
      refine lv_if_eq (tgt := 31) hx hb dX10_wins_20 (by decide) (fun c20 => ?_) (fun c20 => ?_)
      · have h_16 : rg 0 0 r17 := r_eq_l_i (e := 0) (f := 0) c20 p_13 (rgn 0 (x := 0) (by decide)) (by decide)
        refine lv_sipush (v := (-10000)) hx hb dX10_wins_31 (by decide) ?_
        exact W.iret (v := (-10000)) hx hb hr (fun t ht hW => ⟨⟨(-10000), (fun k => ([n91_3] : List Int32).getD k 0, fun k => ([f92, f93, f94] : List (Nat → Int32)).getD k (fun _ => 0), fun k => ([] : List (Nat → Int64)).getD k (fun _ => 0)), rfl, ⟨(fun _ => h_12), (fun _ => h_12), (fun hq => absurd hq (rne (rgn (-10000) (x := (-10000)) (by decide)) (y := 0) (c := 0) (by decide) (by decide))), (fun hq => absurd hq (rne (rgn (-10000) (x := (-10000)) (by decide)) (y := (-1)) (c := (-1)) (by decide) (by decide))), (fun _ => h_7), (fun _ => h_7), (fun hq => absurd hq (rne (rgn (-10000) (x := (-10000)) (by decide)) (y := 0) (c := 0) (by decide) (by decide))), (fun hq => absurd hq (rne (rgn (-10000) (x := (-10000)) (by decide)) (y := (-1)) (c := (-1)) (by decide) (by decide))), hp_n91_3, trivial⟩, hp_at ht hP⟩, hS.F ht⟩) hS.2.2 dX10_wins_34
      · have h_17 : rg 1 1 r17 := r_ne_lo_i c20 p_13 (by decide) (by decide)
        have h_18 : rg 0 7 p1 := (p_14 (rne h_17 (y := 0) (c := 0) (by decide) (by decide)))
        have h_19 : rg 1 8 n20_1 := (p_15 (rne h_17 (y := 0) (c := 0) (by decide) (by decide)))
        refine lv_iload_n hx hb dX10_wins_23 rfl (lv_at hl 1 rfl) ?_
        refine lv_iload_n hx hb dX10_wins_24 rfl (lv_at hl 2 rfl) ?_
        refine ro_calli (va_runS (As := [.int p0, .int p1]) (rest := []) ⟨hx, hb, hml, hown, hts⟩ (a_X10_bitOf l G ct p0 p1) (va_cwS 2 hts gX10_wins_X10_bitOf rfl rfl rfl (by decide +kernel) ⟨Nat.le_of_ble_eq_true rfl, Nat.le_of_ble_eq_true rfl⟩) (ro_pre hK (hP.sub [] rfl)) rfl rfl hl.1 rfl (lv_room (Nat.le_of_ble_eq_true rfl)) dX10_wins_25 ⟨Nat.zero_le _, Nat.zero_le _⟩) hS hP (fun r25 H locs wr25 hP hS => ?_)
        obtain ⟨p_20, -⟩ := wr25
        refine lv_if_ne (tgt := 35) hx hb dX10_wins_28 (by decide) (fun c28 => ?_) (fun c28 => ?_)
        · have h_21 : rg 1 1 r25 := r_ne_lo_i c28 p_20 (by decide) (by decide)
          refine lv_aload_n hx hb dX10_wins_35 rfl (lv_at hl 0 rfl) ?_
          refine va_get (D := G) (ci := 10) (v := .ref a91) (C := RX10) (T := TX10) (N := 11) hx hb hts (by decide +kernel) hown hK.1 hP 0 rfl rfl 10 (by decide) (hts (.fieldLink RX10 84 "CardHolder" "peace" "LCardHolder$Peace;") (by decide +kernel)) (fun _ h9 => h9) rfl dX10_wins_36 ?_
          refine lv_aload_n hx hb dX10_wins_39 rfl (lv_at hl 0 rfl) ?_
          refine va_get (D := G) (ci := 10) (v := .ref a11) (C := RX10) (T := TX10) (N := 11) hx hb hts (by decide +kernel) hown hK.1 hP 0 rfl rfl 2 (by decide) (hts (.fieldLink RX10 28 "CardHolder" "play" "LCardHolder$Play;") (by decide +kernel)) (fun _ h9 => h9) rfl dX10_wins_40 ?_
          refine wj_callv (wr := [(a0, .inr (10, [.ref a1, .ref a3, .ref a11, .ref a25, .ref a68, .ref a69, .ref a77, .ref a82, .ref a84, .ref a88, .ref a91]))]) (w1 := (fun u : SU => [(a91, .inr (3, [.ref a92, .ref a93, .ref a94, .int (u.1 0)])), (a92, .inl (ct 0, 8, .inl (u.2.1 0))), (a93, .inl (ct 0, 8, .inl (u.2.1 1))), (a94, .inl (ct 0, 8, .inl (u.2.1 2))), (a11, .inr (4, [.ref a12, .ref a19, .ref a24, .int n11_3])), (a12, .inr (9, [.ref a13, .ref a15, .ref a16, .ref a17, .ref a18, .int n12_5, .int n12_6])), (a13, .inr (0, [.ref a14, .int n13_1])), (a15, .inl (ct 0, 8, .inl f15)), (a19, .inr (2, [.ref a12, .ref a20, .ref a22, .ref a23, .int n19_4, .int n19_5, .int n19_6, .int n19_7])), (a20, .inr (0, [.ref a21, .int n20_1])), (a21, .inl (ct 0, 8, .inl f21))])) (va_runV (As := [.ref a11]) (rest := []) ⟨hx, hb, hml, hown, hts⟩ (a_X3_take l G ct a91 a92 a93 a94 n91_3 f92 f93 f94 a11 a12 a19 a24 n11_3 a13 a15 a16 a17 a18 n12_5 n12_6 a14 n13_1 f15 a20 a22 a23 n19_4 n19_5 n19_6 n19_7 a21 n20_1 f21 hp_n91_3 hp_n13_1 (rg_w (c := 0) (d := 8) h_19 (by decide))) (cwV 1 hts gX10_wins_X3_take rfl rfl rfl (by decide +kernel) ⟨Nat.le_of_ble_eq_true rfl, Nat.le_of_ble_eq_true rfl⟩) (wr_preV 3 0 hK (hP.sub [8, 9, 10, 11, 1, 2, 3, 4, 5, 6, 7] rfl) (hD.sub [8, 9, 10, 11, 1, 2, 3, 4, 5, 6, 7] (by decide) rfl) rfl rfl) rfl rfl hl.1 rfl (lv_room (Nat.le_of_ble_eq_true rfl)) dX10_wins_43 ⟨Nat.zero_le _, Nat.zero_le _⟩) hS hP hD [8, 9, 10, 11, 1, 2, 3, 4, 5, 6, 7] [0] rfl rfl (by decide) (fun _ => rfl) (fun ur43 H locs wr43 hP hD hS => ?_)
          have hP : va_P G vwCl [(a0, .inr (10, [.ref a1, .ref a3, .ref a11, .ref a25, .ref a68, .ref a69, .ref a77, .ref a82, .ref a84, .ref a88, .ref a91])), (a11, .inr (4, [.ref a12, .ref a19, .ref a24, .int n11_3])), (a12, .inr (9, [.ref a13, .ref a15, .ref a16, .ref a17, .ref a18, .int n12_5, .int n12_6])), (a13, .inr (0, [.ref a14, .int n13_1])), (a15, .inl (ct 0, 8, .inl f15)), (a19, .inr (2, [.ref a12, .ref a20, .ref a22, .ref a23, .int n19_4, .int n19_5, .int n19_6, .int n19_7])), (a20, .inr (0, [.ref a21, .int n20_1])), (a21, .inl (ct 0, 8, .inl f21)), (a91, .inr (3, [.ref a92, .ref a93, .ref a94, .int (ur43.1 0)])), (a92, .inl (ct 0, 8, .inl (ur43.2.1 0))), (a93, .inl (ct 0, 8, .inl (ur43.2.1 1))), (a94, .inl (ct 0, 8, .inl (ur43.2.1 2)))] H := hP.sub [0, 5, 6, 7, 8, 9, 10, 11, 1, 2, 3, 4] rfl
          have hD : va_D A [(a0, .inr (10, [.ref a1, .ref a3, .ref a11, .ref a25, .ref a68, .ref a69, .ref a77, .ref a82, .ref a84, .ref a88, .ref a91])), (a11, .inr (4, [.ref a12, .ref a19, .ref a24, .int n11_3])), (a12, .inr (9, [.ref a13, .ref a15, .ref a16, .ref a17, .ref a18, .int n12_5, .int n12_6])), (a13, .inr (0, [.ref a14, .int n13_1])), (a15, .inl (ct 0, 8, .inl f15)), (a19, .inr (2, [.ref a12, .ref a20, .ref a22, .ref a23, .int n19_4, .int n19_5, .int n19_6, .int n19_7])), (a20, .inr (0, [.ref a21, .int n20_1])), (a21, .inl (ct 0, 8, .inl f21)), (a91, .inr (3, [.ref a92, .ref a93, .ref a94, .int (ur43.1 0)])), (a92, .inl (ct 0, 8, .inl (ur43.2.1 0))), (a93, .inl (ct 0, 8, .inl (ur43.2.1 1))), (a94, .inl (ct 0, 8, .inl (ur43.2.1 2)))] := hD.sub [0, 5, 6, 7, 8, 9, 10, 11, 1, 2, 3, 4] (by decide) rfl
          obtain ⟨p_22, -⟩ := wr43
          refine lv_aload_n hx hb dX10_wins_46 rfl (lv_at hl 0 rfl) ?_
          refine va_get (D := G) (ci := 10) (v := .ref a91) (C := RX10) (T := TX10) (N := 11) hx hb hts (by decide +kernel) hown hK.1 hP 0 rfl rfl 10 (by decide) (hts (.fieldLink RX10 84 "CardHolder" "peace" "LCardHolder$Peace;") (by decide +kernel)) (fun _ h9 => h9) rfl dX10_wins_47 ?_
          refine lv_iload_n hx hb dX10_wins_50 rfl (lv_at hl 1 rfl) ?_
          refine lv_iload_n hx hb dX10_wins_51 rfl (lv_at hl 2 rfl) ?_
          refine ro_calli (va_runV (As := [.int p0, .int p1]) (rest := []) ⟨hx, hb, hml, hown, hts⟩ (a_X3_gainOf l G ct a91 a92 a93 a94 (ur43.1 0) (ur43.2.1 0) (ur43.2.1 1) (ur43.2.1 2) p0 p1 (rg_w (c := (-2147483648)) (d := 8) p_22 (by decide))) (cwV 2 hts gX10_wins_X3_gainOf rfl rfl rfl (by decide +kernel) ⟨Nat.le_of_ble_eq_true rfl, Nat.le_of_ble_eq_true rfl⟩) (ro_preV 3 0 hK (hP.sub [8, 9, 10, 11] rfl) rfl rfl) rfl rfl hl.1 rfl (lv_room (Nat.le_of_ble_eq_true rfl)) dX10_wins_52 ⟨Nat.zero_le _, Nat.zero_le _⟩) hS hP (fun r52 H locs wr52 hP hS => ?_)
          obtain ⟨p_23, p_24, p_25, p_26, -⟩ := wr52
          exact W.iret (v := r52) hx hb hr (fun t ht hW => ⟨⟨r52, (fun k => ([ur43.1 0] : List Int32).getD k 0, fun k => ([ur43.2.1 0, ur43.2.1 1, ur43.2.1 2] : List (Nat → Int32)).getD k (fun _ => 0), fun k => ([] : List (Nat → Int64)).getD k (fun _ => 0)), rfl, ⟨(fun _ => h_12), (fun _ => h_12), (fun _ => h_18), (fun _ => h_18), (fun _ => h_7), (fun _ => h_7), (fun _ => h_19), (fun _ => h_19), (rg_w (c := (-2147483648)) (d := 8) p_22 (by decide)), trivial⟩, hp_at ht hP⟩, hS.F ht⟩) hS.2.2 dX10_wins_55
        · have h_27 : rg 0 0 r25 := r_eq_l_i (e := 0) (f := 0) c28 p_20 (rgn 0 (x := 0) (by decide)) (by decide)
          refine lv_sipush (v := (-10000)) hx hb dX10_wins_31 (by decide) ?_
          exact W.iret (v := (-10000)) hx hb hr (fun t ht hW => ⟨⟨(-10000), (fun k => ([n91_3] : List Int32).getD k 0, fun k => ([f92, f93, f94] : List (Nat → Int32)).getD k (fun _ => 0), fun k => ([] : List (Nat → Int64)).getD k (fun _ => 0)), rfl, ⟨(fun _ => h_12), (fun _ => h_12), (fun _ => h_18), (fun _ => h_18), (fun _ => h_7), (fun _ => h_7), (fun _ => h_19), (fun _ => h_19), hp_n91_3, trivial⟩, hp_at ht hP⟩, hS.F ht⟩) hS.2.2 dX10_wins_34

set_option maxHeartbeats 4000000 in
set_option maxRecDepth 100000 in
theorem a_X10_ransomed (l : Launch) (G : va_G) (ct : Nat → ClassId) (a0 : Nat) (a1 : Nat) (a3 : Nat) (a11 : Nat) (a25 : Nat) (a68 : Nat) (a69 : Nat) (a77 : Nat) (a82 : Nat) (a84 : Nat) (a88 : Nat) (a91 : Nat) (a12 : Nat) (a19 : Nat) (a24 : Nat) (n11_3 : Int32) (a13 : Nat) (a15 : Nat) (a16 : Nat) (a17 : Nat) (a18 : Nat) (n12_5 : Int32) (n12_6 : Int32) (a14 : Nat) (n13_1 : Int32) (f15 : Nat → Int32) (a20 : Nat) (a22 : Nat) (a23 : Nat) (n19_4 : Int32) (n19_5 : Int32) (n19_6 : Int32) (n19_7 : Int32) (a21 : Nat) (n20_1 : Int32) (f21 : Nat → Int32) (p0 : Int32) (p1 : Int32) (hp_n13_1 : rg 0 8 n13_1) (hp_n20_1 : rg 0 8 n20_1) : Met l yX10_ransomed wsX10_ransomed ({ frames := 4, cells := 0, slots := 0, locals := 93 }) (va_Pc [.ref a0, .int p0, .int p1] (roP G ct [(a0, .inr (10, [.ref a1, .ref a3, .ref a11, .ref a25, .ref a68, .ref a69, .ref a77, .ref a82, .ref a84, .ref a88, .ref a91])), (a11, .inr (4, [.ref a12, .ref a19, .ref a24, .int n11_3])), (a12, .inr (9, [.ref a13, .ref a15, .ref a16, .ref a17, .ref a18, .int n12_5, .int n12_6])), (a13, .inr (0, [.ref a14, .int n13_1])), (a15, .inl (ct 0, 8, .inl f15)), (a19, .inr (2, [.ref a12, .ref a20, .ref a22, .ref a23, .int n19_4, .int n19_5, .int n19_6, .int n19_7])), (a20, .inr (0, [.ref a21, .int n20_1])), (a21, .inl (ct 0, 8, .inl f21))])) (roQ (fun r => (r = 0 → rg 0 7 p0) ∧ (r = (-1) → rg 0 7 p0) ∧ (¬ r = (-2) → rg 0 7 p0) ∧ (r = 0 → rg 0 7 p1) ∧ (r = (-1) → rg 0 7 p1) ∧ (¬ r = (-2) → rg 0 7 p1) ∧ (r = 0 → rg 1 8 n20_1) ∧ (r = (-1) → rg 1 8 n20_1) ∧ (¬ r = (-2) → rg 1 8 n20_1) ∧ True)) 0 0 no := by
  refine Met.ofW (cc := cX10_ransomed) (maxL := 3) (ret := (some .int)) (by decide) rfl ?_
  intro p e s m args below meth c s₁ B hml hv
  obtain ⟨rfl, hP, hK⟩ := hv
  have hx := B.exec
  have hb := B.bytes
  have hr := B.returns
  have hts := atoms_spec (ws := wsX10_ransomed) B.pre
  have hown : s.vm.findClass RX10 = some m.cls := findClass_of_methodNamed B.named
  have hlocks := B.notSynchronized
  have hS : va_S no s.heap s.heap [] := va_S.rf
  have hl := lv_entry ([.ref a0, .int p0, .int p1]) (n := 3) (Nat.le_of_ble_eq_true rfl)
  rw [lg_entry_eq]
  generalize (lg_sl ([.ref a0, .int p0, .int p1]) ++ List.replicate (3 - (lg_sl ([.ref a0, .int p0, .int p1])).length) Slot.unset).toArray = ls at hl ⊢
  have hl : lv_has ls 3 [(0, .ref a0), (1, .int p0), (2, .int p1)] := hl
  refine lv_aload_n hx hb dX10_ransomed_0 rfl (lv_at hl 0 rfl) ?_
  refine lv_iload_n hx hb dX10_ransomed_1 rfl (lv_at hl 1 rfl) ?_
  refine ro_calli (va_runV (As := [.int p0]) (rest := []) ⟨hx, hb, hml, hown, hts⟩ (a_X10_isPerson l G ct a0 a1 a3 a11 a25 a68 a69 a77 a82 a84 a88 a91 a12 a19 a24 n11_3 a20 a22 a23 n19_4 n19_5 n19_6 n19_7 a21 n20_1 p0 hp_n20_1) (cwV 1 hts gX10_ransomed_X10_isPerson rfl rfl rfl (by decide +kernel) ⟨Nat.le_of_ble_eq_true rfl, Nat.le_of_ble_eq_true rfl⟩) (ro_preV 10 0 hK (hP.sub [0, 1, 5, 6] rfl) rfl rfl) rfl rfl hl.1 rfl (lv_room (Nat.le_of_ble_eq_true rfl)) dX10_ransomed_2 ⟨Nat.zero_le _, Nat.zero_le _⟩) hS hP (fun r2 H locs wr2 hP hS => ?_)
  obtain ⟨p_1, p_2, p_3, -⟩ := wr2
  refine lv_if_eq (tgt := 16) hx hb dX10_ransomed_5 (by decide) (fun c5 => ?_) (fun c5 => ?_)
  · have h_4 : rg 0 0 r2 := r_eq_l_i (e := 0) (f := 0) c5 p_1 (rgn 0 (x := 0) (by decide)) (by decide)
    refine lv_bipush (v := (-2)) hx hb dX10_ransomed_16 (by decide) ?_
    exact W.iret (v := (-2)) hx hb hr (fun t ht hW => ⟨⟨(-2), (), rfl, ⟨(fun hq => absurd hq (rne (rgn (-2) (x := (-2)) (by decide)) (y := 0) (c := 0) (by decide) (by decide))), (fun hq => absurd hq (rne (rgn (-2) (x := (-2)) (by decide)) (y := (-1)) (c := (-1)) (by decide) (by decide))), (fun hq => absurd (req (rgn (-2) (x := (-2)) (by decide)) (y := (-2)) (by decide)) hq), (fun hq => absurd hq (rne (rgn (-2) (x := (-2)) (by decide)) (y := 0) (c := 0) (by decide) (by decide))), (fun hq => absurd hq (rne (rgn (-2) (x := (-2)) (by decide)) (y := (-1)) (c := (-1)) (by decide) (by decide))), (fun hq => absurd (req (rgn (-2) (x := (-2)) (by decide)) (y := (-2)) (by decide)) hq), (fun hq => absurd hq (rne (rgn (-2) (x := (-2)) (by decide)) (y := 0) (c := 0) (by decide) (by decide))), (fun hq => absurd hq (rne (rgn (-2) (x := (-2)) (by decide)) (y := (-1)) (c := (-1)) (by decide) (by decide))), (fun hq => absurd (req (rgn (-2) (x := (-2)) (by decide)) (y := (-2)) (by decide)) hq), trivial⟩, trivial⟩, hS.F ht⟩) hS.2.2 dX10_ransomed_18
  · have h_5 : rg 1 1 r2 := r_ne_lo_i c5 p_1 (by decide) (by decide)
    have h_6 : rg 0 7 p0 := (p_2 (rne h_5 (y := 0) (c := 0) (by decide) (by decide)))
    have h_7 : rg 1 8 n20_1 := (p_3 (rne h_5 (y := 0) (c := 0) (by decide) (by decide)))
    refine lv_aload_n hx hb dX10_ransomed_8 rfl (lv_at hl 0 rfl) ?_
    refine lv_iload_n hx hb dX10_ransomed_9 rfl (lv_at hl 2 rfl) ?_
    refine ro_calli (va_runV (As := [.int p1]) (rest := []) ⟨hx, hb, hml, hown, hts⟩ (a_X10_isPerson l G ct a0 a1 a3 a11 a25 a68 a69 a77 a82 a84 a88 a91 a12 a19 a24 n11_3 a20 a22 a23 n19_4 n19_5 n19_6 n19_7 a21 n20_1 p1 (rg_w (c := 0) (d := 8) h_7 (by decide))) (cwV 1 hts gX10_ransomed_X10_isPerson rfl rfl rfl (by decide +kernel) ⟨Nat.le_of_ble_eq_true rfl, Nat.le_of_ble_eq_true rfl⟩) (ro_preV 10 0 hK (hP.sub [0, 1, 5, 6] rfl) rfl rfl) rfl rfl hl.1 rfl (lv_room (Nat.le_of_ble_eq_true rfl)) dX10_ransomed_10 ⟨Nat.zero_le _, Nat.zero_le _⟩) hS hP (fun r10 H locs wr10 hP hS => ?_)
    obtain ⟨p_8, p_9, p_10, -⟩ := wr10
    refine lv_if_ne (tgt := 19) hx hb dX10_ransomed_13 (by decide) (fun c13 => ?_) (fun c13 => ?_)
    · have h_11 : rg 1 1 r10 := r_ne_lo_i c13 p_8 (by decide) (by decide)
      have h_12 : rg 0 7 p1 := (p_9 (rne h_11 (y := 0) (c := 0) (by decide) (by decide)))
      refine lv_aload_n hx hb dX10_ransomed_19 rfl (lv_at hl 0 rfl) ?_
      refine va_get (D := G) (ci := 10) (v := .ref a11) (C := RX10) (T := TX10) (N := 11) hx hb hts (by decide +kernel) hown hK.1 hP 0 rfl rfl 2 (by decide) (hts (.fieldLink RX10 28 "CardHolder" "play" "LCardHolder$Play;") (by decide +kernel)) (fun _ h9 => h9) rfl dX10_ransomed_20 ?_
      refine lv_iload_n hx hb dX10_ransomed_23 rfl (lv_at hl 1 rfl) ?_
      refine lv_iload_n hx hb dX10_ransomed_24 rfl (lv_at hl 2 rfl) ?_
      refine ro_calli (va_runV (As := [.int p0, .int p1]) (rest := []) ⟨hx, hb, hml, hown, hts⟩ (a_X4_cheapestBetween l G ct a11 a12 a19 a24 n11_3 a13 a15 a16 a17 a18 n12_5 n12_6 a14 n13_1 f15 a20 a22 a23 n19_4 n19_5 n19_6 n19_7 a21 n20_1 f21 p0 p1 hp_n13_1 (rg_w (c := 0) (d := 8) h_7 (by decide))) (cwV 2 hts gX10_ransomed_X4_cheapestBetween rfl rfl rfl (by decide +kernel) ⟨Nat.le_of_ble_eq_true rfl, Nat.le_of_ble_eq_true rfl⟩) (ro_preV 4 0 hK (hP.sub [1, 2, 3, 4, 5, 6, 7] rfl) rfl rfl) rfl rfl hl.1 rfl (lv_room (Nat.le_of_ble_eq_true rfl)) dX10_ransomed_25 ⟨Nat.zero_le _, Nat.zero_le _⟩) hS hP (fun r25 H locs wr25 hP hS => ?_)
      exact W.iret (v := r25) hx hb hr (fun t ht hW => ⟨⟨r25, (), rfl, ⟨(fun _ => h_6), (fun _ => h_6), (fun _ => h_6), (fun _ => h_12), (fun _ => h_12), (fun _ => h_12), (fun _ => h_7), (fun _ => h_7), (fun _ => h_7), trivial⟩, trivial⟩, hS.F ht⟩) hS.2.2 dX10_ransomed_28
    · have h_13 : rg 0 0 r10 := r_eq_l_i (e := 0) (f := 0) c13 p_8 (rgn 0 (x := 0) (by decide)) (by decide)
      refine lv_bipush (v := (-2)) hx hb dX10_ransomed_16 (by decide) ?_
      exact W.iret (v := (-2)) hx hb hr (fun t ht hW => ⟨⟨(-2), (), rfl, ⟨(fun _ => h_6), (fun _ => h_6), (fun _ => h_6), (fun hq => absurd hq (rne (rgn (-2) (x := (-2)) (by decide)) (y := 0) (c := 0) (by decide) (by decide))), (fun hq => absurd hq (rne (rgn (-2) (x := (-2)) (by decide)) (y := (-1)) (c := (-1)) (by decide) (by decide))), (fun hq => absurd (req (rgn (-2) (x := (-2)) (by decide)) (y := (-2)) (by decide)) hq), (fun _ => h_7), (fun _ => h_7), (fun _ => h_7), trivial⟩, trivial⟩, hS.F ht⟩) hS.2.2 dX10_ransomed_18

set_option maxHeartbeats 4000000 in
set_option maxRecDepth 100000 in
theorem a_X10_ransom (l : Launch) (G : va_G) (ct : Nat → ClassId) (a0 : Nat) (a1 : Nat) (a3 : Nat) (a11 : Nat) (a25 : Nat) (a68 : Nat) (a69 : Nat) (a77 : Nat) (a82 : Nat) (a84 : Nat) (a88 : Nat) (a91 : Nat) (a12 : Nat) (a19 : Nat) (a24 : Nat) (n11_3 : Int32) (a13 : Nat) (a15 : Nat) (a16 : Nat) (a17 : Nat) (a18 : Nat) (n12_5 : Int32) (n12_6 : Int32) (a14 : Nat) (n13_1 : Int32) (f15 : Nat → Int32) (a20 : Nat) (a22 : Nat) (a23 : Nat) (n19_4 : Int32) (n19_5 : Int32) (n19_6 : Int32) (n19_7 : Int32) (a21 : Nat) (n20_1 : Int32) (f21 : Nat → Int32) (p0 : Int32) (p1 : Int32) (hp_n13_1 : rg 0 8 n13_1) (hp_n20_1 : rg 0 8 n20_1) : Met l yX10_ransom wsX10_ransom ({ frames := 5, cells := 0, slots := 0, locals := 115 }) (va_Pc [.ref a0, .int p0, .int p1] (roP G ct [(a0, .inr (10, [.ref a1, .ref a3, .ref a11, .ref a25, .ref a68, .ref a69, .ref a77, .ref a82, .ref a84, .ref a88, .ref a91])), (a11, .inr (4, [.ref a12, .ref a19, .ref a24, .int n11_3])), (a12, .inr (9, [.ref a13, .ref a15, .ref a16, .ref a17, .ref a18, .int n12_5, .int n12_6])), (a13, .inr (0, [.ref a14, .int n13_1])), (a15, .inl (ct 0, 8, .inl f15)), (a19, .inr (2, [.ref a12, .ref a20, .ref a22, .ref a23, .int n19_4, .int n19_5, .int n19_6, .int n19_7])), (a20, .inr (0, [.ref a21, .int n20_1])), (a21, .inl (ct 0, 8, .inl f21))])) (roQ (fun r => (r = 0 → rg 0 7 p0) ∧ (r = (-1) → rg 0 7 p0) ∧ (¬ r = (-2) → rg 0 7 p0) ∧ (r = 0 → rg 0 7 p1) ∧ (r = (-1) → rg 0 7 p1) ∧ (¬ r = (-2) → rg 0 7 p1) ∧ (r = 0 → rg 1 8 n20_1) ∧ (r = (-1) → rg 1 8 n20_1) ∧ (¬ r = (-2) → rg 1 8 n20_1) ∧ True)) 0 0 no := by
  refine Met.ofW (cc := cX10_ransom) (maxL := 4) (ret := (some .int)) (by decide) rfl ?_
  intro p e s m args below meth c s₁ B hml hv
  obtain ⟨rfl, hP, hK⟩ := hv
  have hx := B.exec
  have hb := B.bytes
  have hr := B.returns
  have hts := atoms_spec (ws := wsX10_ransom) B.pre
  have hown : s.vm.findClass RX10 = some m.cls := findClass_of_methodNamed B.named
  have hlocks := B.notSynchronized
  have hS : va_S no s.heap s.heap [] := va_S.rf
  have hl := lv_entry ([.ref a0, .int p0, .int p1]) (n := 4) (Nat.le_of_ble_eq_true rfl)
  rw [lg_entry_eq]
  generalize (lg_sl ([.ref a0, .int p0, .int p1]) ++ List.replicate (4 - (lg_sl ([.ref a0, .int p0, .int p1])).length) Slot.unset).toArray = ls at hl ⊢
  have hl : lv_has ls 4 [(0, .ref a0), (1, .int p0), (2, .int p1)] := hl
  refine lv_aload_n hx hb dX10_ransom_0 rfl (lv_at hl 0 rfl) ?_
  refine lv_iload_n hx hb dX10_ransom_1 rfl (lv_at hl 1 rfl) ?_
  refine lv_iload_n hx hb dX10_ransom_2 rfl (lv_at hl 2 rfl) ?_
  refine ro_calli (va_runV (As := [.int p0, .int p1]) (rest := []) ⟨hx, hb, hml, hown, hts⟩ (a_X10_ransomed l G ct a0 a1 a3 a11 a25 a68 a69 a77 a82 a84 a88 a91 a12 a19 a24 n11_3 a13 a15 a16 a17 a18 n12_5 n12_6 a14 n13_1 f15 a20 a22 a23 n19_4 n19_5 n19_6 n19_7 a21 n20_1 f21 p0 p1 hp_n13_1 hp_n20_1) (cwV 2 hts gX10_ransom_X10_ransomed rfl rfl rfl (by decide +kernel) ⟨Nat.le_of_ble_eq_true rfl, Nat.le_of_ble_eq_true rfl⟩) (ro_preV 10 0 hK (hP.sub [0, 1, 2, 3, 4, 5, 6, 7] rfl) rfl rfl) rfl rfl hl.1 rfl (lv_room (Nat.le_of_ble_eq_true rfl)) dX10_ransom_3 ⟨Nat.zero_le _, Nat.zero_le _⟩) hS hP (fun r3 H locs wr3 hP hS => ?_)
  obtain ⟨p_1, p_2, p_3, p_4, p_5, p_6, p_7, p_8, p_9, -⟩ := wr3
  refine lv_istore_n (lv' := [(3, .int r3), (0, .ref a0), (1, .int p0), (2, .int p1)]) hx hb dX10_ransom_6 rfl hl (by decide) rfl (fun ls hl => ?_)
  refine lv_iload_n hx hb dX10_ransom_7 rfl (lv_at hl 0 rfl) ?_
  refine lv_if_ge (tgt := 15) hx hb dX10_ransom_8 (by decide) (fun c8 => ?_) (fun c8 => ?_)
  · have h_10 : rg 0 2147483647 r3 := r_le_r_i c8 (rgn 0 (x := 0) (by decide)) (rg_t r3)
    have h_11 : rg 0 7 p0 := (p_3 (rne h_10 (y := (-2)) (c := (-2)) (by decide) (by decide)))
    have h_12 : rg 0 7 p1 := (p_6 (rne h_10 (y := (-2)) (c := (-2)) (by decide) (by decide)))
    have h_13 : rg 1 8 n20_1 := (p_9 (rne h_10 (y := (-2)) (c := (-2)) (by decide) (by decide)))
    refine lv_aload_n hx hb dX10_ransom_15 rfl (lv_at hl 1 rfl) ?_
    refine va_get (D := G) (ci := 10) (v := .ref a11) (C := RX10) (T := TX10) (N := 11) hx hb hts (by decide +kernel) hown hK.1 hP 0 rfl rfl 2 (by decide) (hts (.fieldLink RX10 28 "CardHolder" "play" "LCardHolder$Play;") (by decide +kernel)) (fun _ h9 => h9) rfl dX10_ransom_16 ?_
    refine va_get (D := G) (ci := 4) (v := .ref a12) (C := RX4) (T := TX4) (N := 4) hx hb hts (by decide +kernel) hown hK.1 hP 1 rfl rfl 0 (by decide) (hts (.fieldLink RX10 49 "CardHolder$Play" "town" "LCardHolder$Town;") (by decide +kernel)) (fun _ h9 => h9) rfl dX10_ransom_19 ?_
    refine lv_iload_n hx hb dX10_ransom_22 rfl (lv_at hl 0 rfl) ?_
    refine ro_calli (va_runV (As := [.int r3]) (rest := []) ⟨hx, hb, hml, hown, hts⟩ (a_X9_worthOf l G ct a12 a13 a15 a16 a17 a18 n12_5 n12_6 a14 n13_1 f15 r3 hp_n13_1) (cwV 1 hts gX10_ransom_X9_worthOf rfl rfl rfl (by decide +kernel) ⟨Nat.le_of_ble_eq_true rfl, Nat.le_of_ble_eq_true rfl⟩) (ro_preV 9 0 hK (hP.sub [2, 3, 4] rfl) rfl rfl) rfl rfl hl.1 rfl (lv_room (Nat.le_of_ble_eq_true rfl)) dX10_ransom_23 ⟨Nat.zero_le _, Nat.zero_le _⟩) hS hP (fun r23 H locs wr23 hP hS => ?_)
    obtain ⟨p_14, p_15, p_16, p_17, -⟩ := wr23
    exact W.iret (v := r23) hx hb hr (fun t ht hW => ⟨⟨r23, (), rfl, ⟨(fun _ => h_11), (fun _ => h_11), (fun _ => h_11), (fun _ => h_12), (fun _ => h_12), (fun _ => h_12), (fun _ => h_13), (fun _ => h_13), (fun _ => h_13), trivial⟩, trivial⟩, hS.F ht⟩) hS.2.2 dX10_ransom_26
  · have h_18 : rg (-2147483648) (-1) r3 := r_lt_l_i (nle_i c8) (rg_t r3) (rgn 0 (x := 0) (by decide)) (by decide)
    refine lv_iload_n hx hb dX10_ransom_11 rfl (lv_at hl 0 rfl) ?_
    refine lv_goto (tgt := 26) hx hb dX10_ransom_12 (by decide) ?_
    exact W.iret (v := r3) hx hb hr (fun t ht hW => ⟨⟨r3, (), rfl, ⟨(fun hq => rg_w (p_1 hq) (by decide)), (fun hq => rg_w (p_2 hq) (by decide)), (fun hq => rg_w (p_3 hq) (by decide)), (fun hq => rg_w (p_4 hq) (by decide)), (fun hq => rg_w (p_5 hq) (by decide)), (fun hq => rg_w (p_6 hq) (by decide)), (fun hq => rg_w (p_7 hq) (by decide)), (fun hq => rg_w (p_8 hq) (by decide)), (fun hq => rg_w (p_9 hq) (by decide)), trivial⟩, trivial⟩, hS.F ht⟩) hS.2.2 dX10_ransom_26

set_option maxHeartbeats 4000000 in
set_option maxRecDepth 100000 in
theorem a_X10_power (l : Launch) (G : va_G) (ct : Nat → ClassId) (a0 : Nat) (a1 : Nat) (a3 : Nat) (a11 : Nat) (a25 : Nat) (a68 : Nat) (a69 : Nat) (a77 : Nat) (a82 : Nat) (a84 : Nat) (a88 : Nat) (a91 : Nat) (a12 : Nat) (a19 : Nat) (a24 : Nat) (n11_3 : Int32) (a13 : Nat) (a15 : Nat) (a16 : Nat) (a17 : Nat) (a18 : Nat) (n12_5 : Int32) (n12_6 : Int32) (a14 : Nat) (n13_1 : Int32) (f16 : Nat → Int32) (a20 : Nat) (a22 : Nat) (a23 : Nat) (n19_4 : Int32) (n19_5 : Int32) (n19_6 : Int32) (n19_7 : Int32) (a21 : Nat) (n20_1 : Int32) (f21 : Nat → Int32) (p0 : Int32) (hp_n13_1 : rg 0 8 n13_1) (hp_n20_1 : rg 0 8 n20_1) : Met l yX10_power wsX10_power ({ frames := 5, cells := 0, slots := 0, locals := 111 }) (va_Pc [.ref a0, .int p0] (roP G ct [(a0, .inr (10, [.ref a1, .ref a3, .ref a11, .ref a25, .ref a68, .ref a69, .ref a77, .ref a82, .ref a84, .ref a88, .ref a91])), (a11, .inr (4, [.ref a12, .ref a19, .ref a24, .int n11_3])), (a12, .inr (9, [.ref a13, .ref a15, .ref a16, .ref a17, .ref a18, .int n12_5, .int n12_6])), (a13, .inr (0, [.ref a14, .int n13_1])), (a16, .inl (ct 0, 8, .inl f16)), (a19, .inr (2, [.ref a12, .ref a20, .ref a22, .ref a23, .int n19_4, .int n19_5, .int n19_6, .int n19_7])), (a20, .inr (0, [.ref a21, .int n20_1])), (a21, .inl (ct 0, 8, .inl f21))])) (roQ (fun r => rg (-2) 63 r ∧ (r = 0 → rg 0 7 p0) ∧ (¬ r = (-2) → rg 0 7 p0) ∧ (r = 0 → rg 1 8 n20_1) ∧ (¬ r = (-2) → rg 1 8 n20_1) ∧ True)) 0 0 no := by
  refine Met.ofW (cc := cX10_power) (maxL := 2) (ret := (some .int)) (by decide) rfl ?_
  intro p e s m args below meth c s₁ B hml hv
  obtain ⟨rfl, hP, hK⟩ := hv
  have hx := B.exec
  have hb := B.bytes
  have hr := B.returns
  have hts := atoms_spec (ws := wsX10_power) B.pre
  have hown : s.vm.findClass RX10 = some m.cls := findClass_of_methodNamed B.named
  have hlocks := B.notSynchronized
  have hS : va_S no s.heap s.heap [] := va_S.rf
  have hl := lv_entry ([.ref a0, .int p0]) (n := 2) (Nat.le_of_ble_eq_true rfl)
  rw [lg_entry_eq]
  generalize (lg_sl ([.ref a0, .int p0]) ++ List.replicate (2 - (lg_sl ([.ref a0, .int p0])).length) Slot.unset).toArray = ls at hl ⊢
  have hl : lv_has ls 2 [(0, .ref a0), (1, .int p0)] := hl
  refine lv_aload_n hx hb dX10_power_0 rfl (lv_at hl 0 rfl) ?_
  refine lv_iload_n hx hb dX10_power_1 rfl (lv_at hl 1 rfl) ?_
  refine ro_calli (va_runV (As := [.int p0]) (rest := []) ⟨hx, hb, hml, hown, hts⟩ (a_X10_isPerson l G ct a0 a1 a3 a11 a25 a68 a69 a77 a82 a84 a88 a91 a12 a19 a24 n11_3 a20 a22 a23 n19_4 n19_5 n19_6 n19_7 a21 n20_1 p0 hp_n20_1) (cwV 1 hts gX10_power_X10_isPerson rfl rfl rfl (by decide +kernel) ⟨Nat.le_of_ble_eq_true rfl, Nat.le_of_ble_eq_true rfl⟩) (ro_preV 10 0 hK (hP.sub [0, 1, 5, 6] rfl) rfl rfl) rfl rfl hl.1 rfl (lv_room (Nat.le_of_ble_eq_true rfl)) dX10_power_2 ⟨Nat.zero_le _, Nat.zero_le _⟩) hS hP (fun r2 H locs wr2 hP hS => ?_)
  obtain ⟨p_1, p_2, p_3, -⟩ := wr2
  refine lv_if_eq (tgt := 26) hx hb dX10_power_5 (by decide) (fun c5 => ?_) (fun c5 => ?_)
  · have h_4 : rg 0 0 r2 := r_eq_l_i (e := 0) (f := 0) c5 p_1 (rgn 0 (x := 0) (by decide)) (by decide)
    refine lv_bipush (v := (-2)) hx hb dX10_power_26 (by decide) ?_
    exact W.iret (v := (-2)) hx hb hr (fun t ht hW => ⟨⟨(-2), (), rfl, ⟨(rg_w (c := (-2)) (d := 63) (rgn (-2) (x := (-2)) (by decide)) (by decide)), (fun hq => absurd hq (rne (rgn (-2) (x := (-2)) (by decide)) (y := 0) (c := 0) (by decide) (by decide))), (fun hq => absurd (req (rgn (-2) (x := (-2)) (by decide)) (y := (-2)) (by decide)) hq), (fun hq => absurd hq (rne (rgn (-2) (x := (-2)) (by decide)) (y := 0) (c := 0) (by decide) (by decide))), (fun hq => absurd (req (rgn (-2) (x := (-2)) (by decide)) (y := (-2)) (by decide)) hq), trivial⟩, trivial⟩, hS.F ht⟩) hS.2.2 dX10_power_28
  · have h_5 : rg 1 1 r2 := r_ne_lo_i c5 p_1 (by decide) (by decide)
    have h_6 : rg 0 7 p0 := (p_2 (rne h_5 (y := 0) (c := 0) (by decide) (by decide)))
    have h_7 : rg 1 8 n20_1 := (p_3 (rne h_5 (y := 0) (c := 0) (by decide) (by decide)))
    refine lv_aload_n hx hb dX10_power_8 rfl (lv_at hl 0 rfl) ?_
    refine va_get (D := G) (ci := 10) (v := .ref a11) (C := RX10) (T := TX10) (N := 11) hx hb hts (by decide +kernel) hown hK.1 hP 0 rfl rfl 2 (by decide) (hts (.fieldLink RX10 28 "CardHolder" "play" "LCardHolder$Play;") (by decide +kernel)) (fun _ h9 => h9) rfl dX10_power_9 ?_
    refine va_get (D := G) (ci := 4) (v := .ref a12) (C := RX4) (T := TX4) (N := 4) hx hb hts (by decide +kernel) hown hK.1 hP 1 rfl rfl 0 (by decide) (hts (.fieldLink RX10 49 "CardHolder$Play" "town" "LCardHolder$Town;") (by decide +kernel)) (fun _ h9 => h9) rfl dX10_power_12 ?_
    refine lv_aload_n hx hb dX10_power_15 rfl (lv_at hl 0 rfl) ?_
    refine ro_callr (va_runV (As := []) (rest := [.ref a12]) ⟨hx, hb, hml, hown, hts⟩ (a_X10_bonds l G ct a0 a1 a3 a11 a25 a68 a69 a77 a82 a84 a88 a91 a12 a19 a24 n11_3 a20 a22 a23 n19_4 n19_5 n19_6 n19_7) (cwV 0 hts gX10_power_X10_bonds rfl rfl rfl (by decide +kernel) ⟨Nat.le_of_ble_eq_true rfl, Nat.le_of_ble_eq_true rfl⟩) (ro_preV 10 0 hK (hP.sub [0, 1, 5] rfl) rfl rfl) rfl rfl hl.1 rfl (lv_room (Nat.le_of_ble_eq_true rfl)) dX10_power_16 ⟨Nat.zero_le _, Nat.zero_le _⟩) hS hP (fun H locs hP hS => ?_)
    refine lv_iload_n hx hb dX10_power_19 rfl (lv_at hl 1 rfl) ?_
    refine ro_calli (va_runV (As := [.ref a20, .int p0]) (rest := []) ⟨hx, hb, hml, hown, hts⟩ (a_X9_powerIn l G ct a12 a13 a15 a16 a17 a18 n12_5 n12_6 a14 n13_1 f16 a20 a21 n20_1 f21 p0 hp_n13_1 (rg_w (c := 0) (d := 8) h_7 (by decide))) (cwV 2 hts gX10_power_X9_powerIn rfl rfl rfl (by decide +kernel) ⟨Nat.le_of_ble_eq_true rfl, Nat.le_of_ble_eq_true rfl⟩) (ro_preV 9 0 hK (hP.sub [2, 3, 4, 6, 7] rfl) rfl rfl) rfl rfl hl.1 rfl (lv_room (Nat.le_of_ble_eq_true rfl)) dX10_power_20 ⟨Nat.zero_le _, Nat.zero_le _⟩) hS hP (fun r20 H locs wr20 hP hS => ?_)
    obtain ⟨p_8, -⟩ := wr20
    refine lv_goto (tgt := 28) hx hb dX10_power_23 (by decide) ?_
    exact W.iret (v := r20) hx hb hr (fun t ht hW => ⟨⟨r20, (), rfl, ⟨(rg_w (c := (-2)) (d := 63) p_8 (by decide)), (fun _ => h_6), (fun _ => h_6), (fun _ => h_7), (fun _ => h_7), trivial⟩, trivial⟩, hS.F ht⟩) hS.2.2 dX10_power_28

set_option maxHeartbeats 4000000 in
set_option maxRecDepth 100000 in
theorem a_X10_mighty (l : Launch) (G : va_G) (ct : Nat → ClassId) (a0 : Nat) (a1 : Nat) (a3 : Nat) (a11 : Nat) (a25 : Nat) (a68 : Nat) (a69 : Nat) (a77 : Nat) (a82 : Nat) (a84 : Nat) (a88 : Nat) (a91 : Nat) (a12 : Nat) (a19 : Nat) (a24 : Nat) (n11_3 : Int32) (a13 : Nat) (a15 : Nat) (a16 : Nat) (a17 : Nat) (a18 : Nat) (n12_5 : Int32) (n12_6 : Int32) (a14 : Nat) (n13_1 : Int32) (f16 : Nat → Int32) (a20 : Nat) (a22 : Nat) (a23 : Nat) (n19_4 : Int32) (n19_5 : Int32) (n19_6 : Int32) (n19_7 : Int32) (a21 : Nat) (n20_1 : Int32) (f21 : Nat → Int32) (hp_n13_1 : rg 0 8 n13_1) (hp_n20_1 : rg 0 8 n20_1) : Met l yX10_mighty wsX10_mighty ({ frames := 5, cells := 0, slots := 0, locals := 111 }) (va_Pc [.ref a0] (roP G ct [(a0, .inr (10, [.ref a1, .ref a3, .ref a11, .ref a25, .ref a68, .ref a69, .ref a77, .ref a82, .ref a84, .ref a88, .ref a91])), (a11, .inr (4, [.ref a12, .ref a19, .ref a24, .int n11_3])), (a12, .inr (9, [.ref a13, .ref a15, .ref a16, .ref a17, .ref a18, .int n12_5, .int n12_6])), (a13, .inr (0, [.ref a14, .int n13_1])), (a16, .inl (ct 0, 8, .inl f16)), (a19, .inr (2, [.ref a12, .ref a20, .ref a22, .ref a23, .int n19_4, .int n19_5, .int n19_6, .int n19_7])), (a20, .inr (0, [.ref a21, .int n20_1])), (a21, .inl (ct 0, 8, .inl f21))])) (roQ (fun r => rg (-2) 7 r ∧ (r = 0 → rg 1 2147483647 n12_5) ∧ (r = (-1) → rg 1 2147483647 n12_5) ∧ (¬ r = (-2) → rg 1 2147483647 n12_5) ∧ True)) 0 0 no := by
  refine Met.ofW (cc := cX10_mighty) (maxL := 5) (ret := (some .int)) (by decide) rfl ?_
  intro p e s m args below meth c s₁ B hml hv
  obtain ⟨rfl, hP, hK⟩ := hv
  have hx := B.exec
  have hb := B.bytes
  have hr := B.returns
  have hts := atoms_spec (ws := wsX10_mighty) B.pre
  have hown : s.vm.findClass RX10 = some m.cls := findClass_of_methodNamed B.named
  have hlocks := B.notSynchronized
  have hS : va_S no s.heap s.heap [] := va_S.rf
  have hl := lv_entry ([.ref a0]) (n := 5) (Nat.le_of_ble_eq_true rfl)
  rw [lg_entry_eq]
  generalize (lg_sl ([.ref a0]) ++ List.replicate (5 - (lg_sl ([.ref a0])).length) Slot.unset).toArray = ls at hl ⊢
  have hl : lv_has ls 5 [(0, .ref a0)] := hl
  refine lv_aload_n hx hb dX10_mighty_0 rfl (lv_at hl 0 rfl) ?_
  refine ro_calli (va_runV (As := []) (rest := []) ⟨hx, hb, hml, hown, hts⟩ (a_X10_hasCity l G ct a0 a1 a3 a11 a25 a68 a69 a77 a82 a84 a88 a91 a12 a19 a24 n11_3 a13 a15 a16 a17 a18 n12_5 n12_6) (cwV 0 hts gX10_mighty_X10_hasCity rfl rfl rfl (by decide +kernel) ⟨Nat.le_of_ble_eq_true rfl, Nat.le_of_ble_eq_true rfl⟩) (ro_preV 10 0 hK (hP.sub [0, 1, 2] rfl) rfl rfl) rfl rfl hl.1 rfl (lv_room (Nat.le_of_ble_eq_true rfl)) dX10_mighty_1 ⟨Nat.zero_le _, Nat.zero_le _⟩) hS hP (fun r1 H locs wr1 hP hS => ?_)
  obtain ⟨p_1, p_2, p_3, -⟩ := wr1
  refine lv_if_ne (tgt := 10) hx hb dX10_mighty_4 (by decide) (fun c4 => ?_) (fun c4 => ?_)
  · have h_4 : rg 1 1 r1 := r_ne_lo_i c4 p_1 (by decide) (by decide)
    have h_5 : rg 1 2147483647 n12_5 := (p_2 (rne h_4 (y := 0) (c := 0) (by decide) (by decide)))
    refine lv_iconst (v := (-1)) hx hb dX10_mighty_10 (by decide) ?_
    refine lv_istore_n (lv' := [(1, .int (-1)), (0, .ref a0)]) hx hb dX10_mighty_11 rfl hl (by decide) rfl (fun ls hl => ?_)
    refine lv_iconst (v := (-1)) hx hb dX10_mighty_12 (by decide) ?_
    refine lv_istore_n (lv' := [(2, .int (-1)), (1, .int (-1)), (0, .ref a0)]) hx hb dX10_mighty_13 rfl hl (by decide) rfl (fun ls hl => ?_)
    refine lv_iconst (v := 0) hx hb dX10_mighty_14 (by decide) ?_
    refine lv_istore_n (lv' := [(3, .int 0), (2, .int (-1)), (1, .int (-1)), (0, .ref a0)]) hx hb dX10_mighty_15 rfl hl (by decide) rfl (fun ls hl => ?_)
    have j16 : ∀ (n : Nat) (x16_1 : Int32) (x16_2 : Int32) (x16_3 : Int32) (H : Heap) (locs : List Loc) (ls : Array Slot), 2147483648 ≤ x16_3.toInt + (n : Int) → rg (-1) 7 x16_1 → rg (-1) 63 x16_2 → rg 0 8 x16_3 → va_P G vwCl [(a0, .inr (10, [.ref a1, .ref a3, .ref a11, .ref a25, .ref a68, .ref a69, .ref a77, .ref a82, .ref a84, .ref a88, .ref a91])), (a11, .inr (4, [.ref a12, .ref a19, .ref a24, .int n11_3])), (a12, .inr (9, [.ref a13, .ref a15, .ref a16, .ref a17, .ref a18, .int n12_5, .int n12_6])), (a13, .inr (0, [.ref a14, .int n13_1])), (a16, .inl (ct 0, 8, .inl f16)), (a19, .inr (2, [.ref a12, .ref a20, .ref a22, .ref a23, .int n19_4, .int n19_5, .int n19_6, .int n19_7])), (a20, .inr (0, [.ref a21, .int n20_1])), (a21, .inl (ct 0, 8, .inl f21))] H → va_S no s.heap H locs → lv_has ls 5 [(0, .ref a0), (1, .int x16_1), (2, .int x16_2), (3, .int x16_3)] → W p l e (headSpec wsX10_mighty ({ frames := 5, cells := 0, slots := 0, locals := 111 })).room s m ([.ref a0] : List Value).toArray below meth c H locs 0 0 (MQ below (roQ (fun r => rg (-2) 7 r ∧ (r = 0 → rg 1 2147483647 n12_5) ∧ (r = (-1) → rg 1 2147483647 n12_5) ∧ (¬ r = (-2) → rg 1 2147483647 n12_5) ∧ True)) ([.ref a0] : List Value).toArray s 0 0 no) (F0 m 16 ls []) := by
      intro n
      induction n with
      | zero => intro x16_1 x16_2 x16_3 H locs ls hn16 hx16_1 hx16_2 hx16_3 hP hS hl; exact absurd hn16 (by have := Int32.toInt_lt x16_3; have := Int32.le_toInt x16_3; omega)
      | succ n ih16 =>
        intro x16_1 x16_2 x16_3 H locs ls hn16 hx16_1 hx16_2 hx16_3 hP hS hl
        refine lv_iload_n hx hb dX10_mighty_16 rfl (lv_at hl 3 rfl) ?_
        refine lv_aload_n hx hb dX10_mighty_17 rfl (lv_at hl 0 rfl) ?_
        refine ro_callr (va_runV (As := []) (rest := [.int x16_3]) ⟨hx, hb, hml, hown, hts⟩ (a_X10_bonds l G ct a0 a1 a3 a11 a25 a68 a69 a77 a82 a84 a88 a91 a12 a19 a24 n11_3 a20 a22 a23 n19_4 n19_5 n19_6 n19_7) (cwV 0 hts gX10_mighty_X10_bonds rfl rfl rfl (by decide +kernel) ⟨Nat.le_of_ble_eq_true rfl, Nat.le_of_ble_eq_true rfl⟩) (ro_preV 10 0 hK (hP.sub [0, 1, 5] rfl) rfl rfl) rfl rfl hl.1 rfl (lv_room (Nat.le_of_ble_eq_true rfl)) dX10_mighty_18 ⟨Nat.zero_le _, Nat.zero_le _⟩) hS hP (fun H locs hP hS => ?_)
        refine va_get (D := G) (ci := 0) (v := .int n20_1) (C := RX0) (T := TX0) (N := 2) hx hb hts (by decide +kernel) hown hK.1 hP 6 rfl rfl 1 (by decide) (hts (.fieldLink RX10 238 "CardHolder$Bonds" "persons" "I") (by decide +kernel)) (fun _ h9 => h9) rfl dX10_mighty_21 ?_
        refine lv_icmp_ge (tgt := 61) hx hb dX10_mighty_24 (by decide) (fun c24 => ?_) (fun c24 => ?_)
        · refine lv_iload_n hx hb dX10_mighty_61 rfl (lv_at hl 1 rfl) ?_
          exact W.iret (v := x16_1) hx hb hr (fun t ht hW => ⟨⟨x16_1, (), rfl, ⟨(rg_w (c := (-2)) (d := 7) hx16_1 (by decide)), (fun _ => h_5), (fun _ => h_5), (fun _ => h_5), trivial⟩, trivial⟩, hS.F ht⟩) hS.2.2 dX10_mighty_62
        · have h_6 : rg 0 7 x16_3 := r_lt_l_i (nle_i c24) hx16_3 hp_n20_1 (by decide)
          have h_7 : rg 1 8 n20_1 := r_lt_r_i (nle_i c24) hx16_3 hp_n20_1 (by decide)
          refine lv_aload_n hx hb dX10_mighty_27 rfl (lv_at hl 0 rfl) ?_
          refine va_get (D := G) (ci := 10) (v := .ref a11) (C := RX10) (T := TX10) (N := 11) hx hb hts (by decide +kernel) hown hK.1 hP 0 rfl rfl 2 (by decide) (hts (.fieldLink RX10 28 "CardHolder" "play" "LCardHolder$Play;") (by decide +kernel)) (fun _ h9 => h9) rfl dX10_mighty_28 ?_
          refine va_get (D := G) (ci := 4) (v := .ref a12) (C := RX4) (T := TX4) (N := 4) hx hb hts (by decide +kernel) hown hK.1 hP 1 rfl rfl 0 (by decide) (hts (.fieldLink RX10 49 "CardHolder$Play" "town" "LCardHolder$Town;") (by decide +kernel)) (fun _ h9 => h9) rfl dX10_mighty_31 ?_
          refine lv_aload_n hx hb dX10_mighty_34 rfl (lv_at hl 0 rfl) ?_
          refine ro_callr (va_runV (As := []) (rest := [.ref a12]) ⟨hx, hb, hml, hown, hts⟩ (a_X10_bonds l G ct a0 a1 a3 a11 a25 a68 a69 a77 a82 a84 a88 a91 a12 a19 a24 n11_3 a20 a22 a23 n19_4 n19_5 n19_6 n19_7) (cwV 0 hts gX10_mighty_X10_bonds rfl rfl rfl (by decide +kernel) ⟨Nat.le_of_ble_eq_true rfl, Nat.le_of_ble_eq_true rfl⟩) (ro_preV 10 0 hK (hP.sub [0, 1, 5] rfl) rfl rfl) rfl rfl hl.1 rfl (lv_room (Nat.le_of_ble_eq_true rfl)) dX10_mighty_35 ⟨Nat.zero_le _, Nat.zero_le _⟩) hS hP (fun H locs hP hS => ?_)
          refine lv_iload_n hx hb dX10_mighty_38 rfl (lv_at hl 3 rfl) ?_
          refine ro_calli (va_runV (As := [.ref a20, .int x16_3]) (rest := []) ⟨hx, hb, hml, hown, hts⟩ (a_X9_powerIn l G ct a12 a13 a15 a16 a17 a18 n12_5 n12_6 a14 n13_1 f16 a20 a21 n20_1 f21 x16_3 hp_n13_1 (rg_w (c := 0) (d := 8) h_7 (by decide))) (cwV 2 hts gX10_mighty_X9_powerIn rfl rfl rfl (by decide +kernel) ⟨Nat.le_of_ble_eq_true rfl, Nat.le_of_ble_eq_true rfl⟩) (ro_preV 9 0 hK (hP.sub [2, 3, 4, 6, 7] rfl) rfl rfl) rfl rfl hl.1 rfl (lv_room (Nat.le_of_ble_eq_true rfl)) dX10_mighty_39 ⟨Nat.zero_le _, Nat.zero_le _⟩) hS hP (fun r39 H locs wr39 hP hS => ?_)
          obtain ⟨p_8, -⟩ := wr39
          refine lv_istore (lv' := [(4, .int r39), (0, .ref a0), (1, .int x16_1), (2, .int x16_2), (3, .int x16_3)]) hx hb dX10_mighty_42 hl (by decide) rfl (fun ls hl => ?_)
          refine lv_iload hx hb dX10_mighty_44 (lv_at hl 0 rfl) ?_
          refine lv_iload_n hx hb dX10_mighty_46 rfl (lv_at hl 3 rfl) ?_
          have j55 : ∀ (x55_1 : Int32) (x55_2 : Int32) (H : Heap) (locs : List Loc) (ls : Array Slot), rg (-1) 7 x55_1 → rg 0 63 x55_2 → va_P G vwCl [(a0, .inr (10, [.ref a1, .ref a3, .ref a11, .ref a25, .ref a68, .ref a69, .ref a77, .ref a82, .ref a84, .ref a88, .ref a91])), (a11, .inr (4, [.ref a12, .ref a19, .ref a24, .int n11_3])), (a12, .inr (9, [.ref a13, .ref a15, .ref a16, .ref a17, .ref a18, .int n12_5, .int n12_6])), (a13, .inr (0, [.ref a14, .int n13_1])), (a16, .inl (ct 0, 8, .inl f16)), (a19, .inr (2, [.ref a12, .ref a20, .ref a22, .ref a23, .int n19_4, .int n19_5, .int n19_6, .int n19_7])), (a20, .inr (0, [.ref a21, .int n20_1])), (a21, .inl (ct 0, 8, .inl f21))] H → va_S no s.heap H locs → lv_has ls 5 [(0, .ref a0), (1, .int x55_1), (2, .int x55_2), (3, .int x16_3), (4, .int r39)] → W p l e (headSpec wsX10_mighty ({ frames := 5, cells := 0, slots := 0, locals := 111 })).room s m ([.ref a0] : List Value).toArray below meth c H locs 0 0 (MQ below (roQ (fun r => rg (-2) 7 r ∧ (r = 0 → rg 1 2147483647 n12_5) ∧ (r = (-1) → rg 1 2147483647 n12_5) ∧ (¬ r = (-2) → rg 1 2147483647 n12_5) ∧ True)) ([.ref a0] : List Value).toArray s 0 0 no) (F0 m 55 ls []) := by
            intro x55_1 x55_2 H locs ls hx55_1 hx55_2 hP hS hl
            obtain ⟨z55, qz55⟩ : ∃ y : Int32, y = x16_3 + Int32.ofInt 1 := ⟨_, rfl⟩
            obtain ⟨hz55, ez55⟩ := inc_z (e := 1) (f := 8) h_6 qz55 (by decide)
            refine lv_iinc (v := z55) (lv' := [(3, .int z55), (0, .ref a0), (1, .int x55_1), (2, .int x55_2), (4, .int r39)]) hx hb dX10_mighty_55 hl (k := 3) rfl (qz55.symm) (by decide) rfl (fun ls hl => ?_)
            refine lv_goto (tgt := 16) hx hb dX10_mighty_58 (by decide) ?_
            exact ih16 x55_1 x55_2 z55 _ _ ls (by have q := hn16; have := ez55; omega) hx55_1 (rg_w (c := (-1)) (d := 63) hx55_2 (by decide)) (rg_w (c := 0) (d := 8) hz55 (by decide)) hP hS (lv_sub hl [1, 2, 3, 0] rfl)
          refine lv_icmp_le (tgt := 55) hx hb dX10_mighty_47 (by decide) (fun c47 => ?_) (fun c47 => ?_)
          · have h_9 : rg 0 63 x16_2 := r_le_r_i c47 p_8 hx16_2
            exact j55 x16_1 x16_2 _ _ ls hx16_1 h_9 hP hS (lv_sub hl [1, 2, 3, 4, 0] rfl)
          · have h_10 : rg (-1) 62 x16_2 := r_lt_l_i (nle_i c47) hx16_2 p_8 (by decide)
            refine lv_iload_n hx hb dX10_mighty_50 rfl (lv_at hl 4 rfl) ?_
            refine lv_istore_n (lv' := [(1, .int x16_3), (4, .int r39), (0, .ref a0), (2, .int x16_2), (3, .int x16_3)]) hx hb dX10_mighty_51 rfl hl (by decide) rfl (fun ls hl => ?_)
            refine lv_iload hx hb dX10_mighty_52 (lv_at hl 1 rfl) ?_
            refine lv_istore_n (lv' := [(2, .int r39), (1, .int x16_3), (4, .int r39), (0, .ref a0), (3, .int x16_3)]) hx hb dX10_mighty_54 rfl hl (by decide) rfl (fun ls hl => ?_)
            exact j55 x16_3 r39 _ _ ls (rg_w (c := (-1)) (d := 7) h_6 (by decide)) p_8 hP hS (lv_sub hl [3, 1, 0, 4, 2] rfl)
    exact j16 4294967296 ((-1) : Int32) ((-1) : Int32) (0 : Int32) _ _ ls (ms_e (0 : Int32)) (rg_w (c := (-1)) (d := 7) (rgn (-1) (x := (-1)) (by decide)) (by decide)) (rg_w (c := (-1)) (d := 63) (rgn (-1) (x := (-1)) (by decide)) (by decide)) (rg_w (c := 0) (d := 8) (rgn 0 (x := 0) (by decide)) (by decide)) hP hS (lv_sub hl [3, 2, 1, 0] rfl)
  · have h_11 : rg 0 0 r1 := r_eq_l_i (e := 0) (f := 0) c4 p_1 (rgn 0 (x := 0) (by decide)) (by decide)
    have h_12 : rg (-2147483648) 0 n12_5 := (p_3 (req h_11 (y := 0) (by decide)))
    refine lv_bipush (v := (-2)) hx hb dX10_mighty_7 (by decide) ?_
    exact W.iret (v := (-2)) hx hb hr (fun t ht hW => ⟨⟨(-2), (), rfl, ⟨(rg_w (c := (-2)) (d := 7) (rgn (-2) (x := (-2)) (by decide)) (by decide)), (fun hq => absurd hq (rne (rgn (-2) (x := (-2)) (by decide)) (y := 0) (c := 0) (by decide) (by decide))), (fun hq => absurd hq (rne (rgn (-2) (x := (-2)) (by decide)) (y := (-1)) (c := (-1)) (by decide) (by decide))), (fun hq => absurd (req (rgn (-2) (x := (-2)) (by decide)) (y := (-2)) (by decide)) hq), trivial⟩, trivial⟩, hS.F ht⟩) hS.2.2 dX10_mighty_9

set_option maxHeartbeats 4000000 in
set_option maxRecDepth 100000 in
theorem a_X10_covet (l : Launch) (G : va_G) (ct : Nat → ClassId) (a0 : Nat) (a1 : Nat) (a3 : Nat) (a11 : Nat) (a25 : Nat) (a68 : Nat) (a69 : Nat) (a77 : Nat) (a82 : Nat) (a84 : Nat) (a88 : Nat) (a91 : Nat) (a12 : Nat) (a19 : Nat) (a24 : Nat) (n11_3 : Int32) (a13 : Nat) (a15 : Nat) (a16 : Nat) (a17 : Nat) (a18 : Nat) (n12_5 : Int32) (n12_6 : Int32) (a14 : Nat) (n13_1 : Int32) (f16 : Nat → Int32) (a20 : Nat) (a22 : Nat) (a23 : Nat) (n19_4 : Int32) (n19_5 : Int32) (n19_6 : Int32) (n19_7 : Int32) (a21 : Nat) (n20_1 : Int32) (f21 : Nat → Int32) (a83 : Nat) (n82_1 : Int32) (f83 : Nat → Int32) (p0 : Int32) (hp_n13_1 : rg 0 8 n13_1) (hp_n20_1 : rg 0 8 n20_1) (hp_n82_1 : rg 0 8 n82_1) : Met l yX10_covet wsX10_covet ({ frames := 5, cells := 0, slots := 0, locals := 111 }) (va_Pc [.ref a0, .int p0] (wrP G ct [(a0, .inr (10, [.ref a1, .ref a3, .ref a11, .ref a25, .ref a68, .ref a69, .ref a77, .ref a82, .ref a84, .ref a88, .ref a91])), (a11, .inr (4, [.ref a12, .ref a19, .ref a24, .int n11_3])), (a12, .inr (9, [.ref a13, .ref a15, .ref a16, .ref a17, .ref a18, .int n12_5, .int n12_6])), (a13, .inr (0, [.ref a14, .int n13_1])), (a16, .inl (ct 0, 8, .inl f16)), (a19, .inr (2, [.ref a12, .ref a20, .ref a22, .ref a23, .int n19_4, .int n19_5, .int n19_6, .int n19_7])), (a20, .inr (0, [.ref a21, .int n20_1])), (a21, .inl (ct 0, 8, .inl f21)), (a82, .inr (0, [.ref a83, .int n82_1])), (a83, .inl (ct 0, 8, .inl f83))])) (va_Qi (fun (r : Int32) (u : SU) => rg (-2) 7 r ∧ (r = 0 → rg 0 7 p0) ∧ (r = (-1) → rg 0 7 p0) ∧ (¬ r = (-2) → rg 0 7 p0) ∧ (r = 0 → rg 1 8 n20_1) ∧ (r = (-1) → rg 1 8 n20_1) ∧ (¬ r = (-2) → rg 1 8 n20_1) ∧ rg 0 8 (u.1 0) ∧ True) (fun u t => va_P G vwCl ((fun u : SU => [(a0, .inr (10, [.ref a1, .ref a3, .ref a11, .ref a25, .ref a68, .ref a69, .ref a77, .ref a82, .ref a84, .ref a88, .ref a91])), (a11, .inr (4, [.ref a12, .ref a19, .ref a24, .int n11_3])), (a12, .inr (9, [.ref a13, .ref a15, .ref a16, .ref a17, .ref a18, .int n12_5, .int n12_6])), (a13, .inr (0, [.ref a14, .int n13_1])), (a16, .inl (ct 0, 8, .inl f16)), (a19, .inr (2, [.ref a12, .ref a20, .ref a22, .ref a23, .int n19_4, .int n19_5, .int n19_6, .int n19_7])), (a20, .inr (0, [.ref a21, .int n20_1])), (a21, .inl (ct 0, 8, .inl f21)), (a82, .inr (0, [.ref a83, .int (u.1 0)])), (a83, .inl (ct 0, 8, .inl (u.2.1 0)))]) u) t.heap) (aset [(a0, .inr (10, [.ref a1, .ref a3, .ref a11, .ref a25, .ref a68, .ref a69, .ref a77, .ref a82, .ref a84, .ref a88, .ref a91])), (a11, .inr (4, [.ref a12, .ref a19, .ref a24, .int n11_3])), (a12, .inr (9, [.ref a13, .ref a15, .ref a16, .ref a17, .ref a18, .int n12_5, .int n12_6])), (a13, .inr (0, [.ref a14, .int n13_1])), (a16, .inl (ct 0, 8, .inl f16)), (a19, .inr (2, [.ref a12, .ref a20, .ref a22, .ref a23, .int n19_4, .int n19_5, .int n19_6, .int n19_7])), (a20, .inr (0, [.ref a21, .int n20_1])), (a21, .inl (ct 0, 8, .inl f21)), (a82, .inr (0, [.ref a83, .int n82_1])), (a83, .inl (ct 0, 8, .inl f83))])) 0 0 (aset [(a0, .inr (10, [.ref a1, .ref a3, .ref a11, .ref a25, .ref a68, .ref a69, .ref a77, .ref a82, .ref a84, .ref a88, .ref a91])), (a11, .inr (4, [.ref a12, .ref a19, .ref a24, .int n11_3])), (a12, .inr (9, [.ref a13, .ref a15, .ref a16, .ref a17, .ref a18, .int n12_5, .int n12_6])), (a13, .inr (0, [.ref a14, .int n13_1])), (a16, .inl (ct 0, 8, .inl f16)), (a19, .inr (2, [.ref a12, .ref a20, .ref a22, .ref a23, .int n19_4, .int n19_5, .int n19_6, .int n19_7])), (a20, .inr (0, [.ref a21, .int n20_1])), (a21, .inl (ct 0, 8, .inl f21)), (a82, .inr (0, [.ref a83, .int n82_1])), (a83, .inl (ct 0, 8, .inl f83))]) := by
  refine Met.ofW (cc := cX10_covet) (maxL := 6) (ret := (some .int)) (by decide) rfl ?_
  intro p e s m args below meth c s₁ B hml hv
  obtain ⟨rfl, hP, hK, hD0⟩ := hv
  have hx := B.exec
  have hb := B.bytes
  have hr := B.returns
  have hts := atoms_spec (ws := wsX10_covet) B.pre
  have hown : s.vm.findClass RX10 = some m.cls := findClass_of_methodNamed B.named
  have hlocks := B.notSynchronized
  have hD := hD0.aself
  generalize hAe : aset [(a0, .inr (10, [.ref a1, .ref a3, .ref a11, .ref a25, .ref a68, .ref a69, .ref a77, .ref a82, .ref a84, .ref a88, .ref a91])), (a11, .inr (4, [.ref a12, .ref a19, .ref a24, .int n11_3])), (a12, .inr (9, [.ref a13, .ref a15, .ref a16, .ref a17, .ref a18, .int n12_5, .int n12_6])), (a13, .inr (0, [.ref a14, .int n13_1])), (a16, .inl (ct 0, 8, .inl f16)), (a19, .inr (2, [.ref a12, .ref a20, .ref a22, .ref a23, .int n19_4, .int n19_5, .int n19_6, .int n19_7])), (a20, .inr (0, [.ref a21, .int n20_1])), (a21, .inl (ct 0, 8, .inl f21)), (a82, .inr (0, [.ref a83, .int n82_1])), (a83, .inl (ct 0, 8, .inl f83))] = A at hD ⊢
  have hS : va_S A s.heap s.heap [] := va_S.rf
  have hl := lv_entry ([.ref a0, .int p0]) (n := 6) (Nat.le_of_ble_eq_true rfl)
  rw [lg_entry_eq]
  generalize (lg_sl ([.ref a0, .int p0]) ++ List.replicate (6 - (lg_sl ([.ref a0, .int p0])).length) Slot.unset).toArray = ls at hl ⊢
  have hl : lv_has ls 6 [(0, .ref a0), (1, .int p0)] := hl
  refine lv_aload_n hx hb dX10_covet_0 rfl (lv_at hl 0 rfl) ?_
  refine lv_iload_n hx hb dX10_covet_1 rfl (lv_at hl 1 rfl) ?_
  refine ro_calli (va_runV (As := [.int p0]) (rest := []) ⟨hx, hb, hml, hown, hts⟩ (a_X10_isPerson l G ct a0 a1 a3 a11 a25 a68 a69 a77 a82 a84 a88 a91 a12 a19 a24 n11_3 a20 a22 a23 n19_4 n19_5 n19_6 n19_7 a21 n20_1 p0 hp_n20_1) (cwV 1 hts gX10_covet_X10_isPerson rfl rfl rfl (by decide +kernel) ⟨Nat.le_of_ble_eq_true rfl, Nat.le_of_ble_eq_true rfl⟩) (ro_preV 10 0 hK (hP.sub [0, 1, 5, 6] rfl) rfl rfl) rfl rfl hl.1 rfl (lv_room (Nat.le_of_ble_eq_true rfl)) dX10_covet_2 ⟨Nat.zero_le _, Nat.zero_le _⟩) hS hP (fun r2 H locs wr2 hP hS => ?_)
  obtain ⟨p_1, p_2, p_3, -⟩ := wr2
  refine lv_if_ne (tgt := 11) hx hb dX10_covet_5 (by decide) (fun c5 => ?_) (fun c5 => ?_)
  · have h_4 : rg 1 1 r2 := r_ne_lo_i c5 p_1 (by decide) (by decide)
    have h_5 : rg 0 7 p0 := (p_2 (rne h_4 (y := 0) (c := 0) (by decide) (by decide)))
    have h_6 : rg 1 8 n20_1 := (p_3 (rne h_4 (y := 0) (c := 0) (by decide) (by decide)))
    refine lv_iconst (v := (-1)) hx hb dX10_covet_11 (by decide) ?_
    refine lv_istore_n (lv' := [(2, .int (-1)), (0, .ref a0), (1, .int p0)]) hx hb dX10_covet_12 rfl hl (by decide) rfl (fun ls hl => ?_)
    refine lv_aload_n hx hb dX10_covet_13 rfl (lv_at hl 1 rfl) ?_
    refine va_get (D := G) (ci := 10) (v := .ref a11) (C := RX10) (T := TX10) (N := 11) hx hb hts (by decide +kernel) hown hK.1 hP 0 rfl rfl 2 (by decide) (hts (.fieldLink RX10 28 "CardHolder" "play" "LCardHolder$Play;") (by decide +kernel)) (fun _ h9 => h9) rfl dX10_covet_14 ?_
    refine va_get (D := G) (ci := 4) (v := .ref a12) (C := RX4) (T := TX4) (N := 4) hx hb hts (by decide +kernel) hown hK.1 hP 1 rfl rfl 0 (by decide) (hts (.fieldLink RX10 49 "CardHolder$Play" "town" "LCardHolder$Town;") (by decide +kernel)) (fun _ h9 => h9) rfl dX10_covet_17 ?_
    refine lv_aload_n hx hb dX10_covet_20 rfl (lv_at hl 1 rfl) ?_
    refine ro_callr (va_runV (As := []) (rest := [.ref a12]) ⟨hx, hb, hml, hown, hts⟩ (a_X10_bonds l G ct a0 a1 a3 a11 a25 a68 a69 a77 a82 a84 a88 a91 a12 a19 a24 n11_3 a20 a22 a23 n19_4 n19_5 n19_6 n19_7) (cwV 0 hts gX10_covet_X10_bonds rfl rfl rfl (by decide +kernel) ⟨Nat.le_of_ble_eq_true rfl, Nat.le_of_ble_eq_true rfl⟩) (ro_preV 10 0 hK (hP.sub [0, 1, 5] rfl) rfl rfl) rfl rfl hl.1 rfl (lv_room (Nat.le_of_ble_eq_true rfl)) dX10_covet_21 ⟨Nat.zero_le _, Nat.zero_le _⟩) hS hP (fun H locs hP hS => ?_)
    refine lv_iload_n hx hb dX10_covet_24 rfl (lv_at hl 2 rfl) ?_
    refine ro_calli (va_runV (As := [.ref a20, .int p0]) (rest := []) ⟨hx, hb, hml, hown, hts⟩ (a_X9_powerIn l G ct a12 a13 a15 a16 a17 a18 n12_5 n12_6 a14 n13_1 f16 a20 a21 n20_1 f21 p0 hp_n13_1 (rg_w (c := 0) (d := 8) h_6 (by decide))) (cwV 2 hts gX10_covet_X9_powerIn rfl rfl rfl (by decide +kernel) ⟨Nat.le_of_ble_eq_true rfl, Nat.le_of_ble_eq_true rfl⟩) (ro_preV 9 0 hK (hP.sub [2, 3, 4, 6, 7] rfl) rfl rfl) rfl rfl hl.1 rfl (lv_room (Nat.le_of_ble_eq_true rfl)) dX10_covet_25 ⟨Nat.zero_le _, Nat.zero_le _⟩) hS hP (fun r25 H locs wr25 hP hS => ?_)
    obtain ⟨p_7, -⟩ := wr25
    refine lv_istore_n (lv' := [(3, .int r25), (2, .int (-1)), (0, .ref a0), (1, .int p0)]) hx hb dX10_covet_28 rfl hl (by decide) rfl (fun ls hl => ?_)
    refine lv_aload_n hx hb dX10_covet_29 rfl (lv_at hl 2 rfl) ?_
    refine va_get (D := G) (ci := 10) (v := .ref a82) (C := RX10) (T := TX10) (N := 11) hx hb hts (by decide +kernel) hown hK.1 hP 0 rfl rfl 7 (by decide) (hts (.fieldLink RX10 63 "CardHolder" "fancy" "LCardHolder$Bonds;") (by decide +kernel)) (fun _ h9 => h9) rfl dX10_covet_30 ?_
    refine lv_aload_n hx hb dX10_covet_33 rfl (lv_at hl 2 rfl) ?_
    refine ro_callr (va_runV (As := []) (rest := [.ref a82]) ⟨hx, hb, hml, hown, hts⟩ (a_X10_bonds l G ct a0 a1 a3 a11 a25 a68 a69 a77 a82 a84 a88 a91 a12 a19 a24 n11_3 a20 a22 a23 n19_4 n19_5 n19_6 n19_7) (cwV 0 hts gX10_covet_X10_bonds rfl rfl rfl (by decide +kernel) ⟨Nat.le_of_ble_eq_true rfl, Nat.le_of_ble_eq_true rfl⟩) (ro_preV 10 0 hK (hP.sub [0, 1, 5] rfl) rfl rfl) rfl rfl hl.1 rfl (lv_room (Nat.le_of_ble_eq_true rfl)) dX10_covet_34 ⟨Nat.zero_le _, Nat.zero_le _⟩) hS hP (fun H locs hP hS => ?_)
    refine wj_callv (wr := [(a0, .inr (10, [.ref a1, .ref a3, .ref a11, .ref a25, .ref a68, .ref a69, .ref a77, .ref a82, .ref a84, .ref a88, .ref a91])), (a11, .inr (4, [.ref a12, .ref a19, .ref a24, .int n11_3])), (a12, .inr (9, [.ref a13, .ref a15, .ref a16, .ref a17, .ref a18, .int n12_5, .int n12_6])), (a13, .inr (0, [.ref a14, .int n13_1])), (a16, .inl (ct 0, 8, .inl f16)), (a19, .inr (2, [.ref a12, .ref a20, .ref a22, .ref a23, .int n19_4, .int n19_5, .int n19_6, .int n19_7]))]) (w1 := (fun u : SU => [(a82, .inr (0, [.ref a83, .int (u.1 0)])), (a83, .inl (ct 0, 8, .inl (u.2.1 0))), (a20, .inr (0, [.ref a21, .int n20_1])), (a21, .inl (ct 0, 8, .inl f21))])) (va_runV (As := [.ref a20]) (rest := []) ⟨hx, hb, hml, hown, hts⟩ (a_X0_copyOf l G ct a82 a83 n82_1 f83 a20 a21 n20_1 f21 hp_n82_1 (rg_w (c := 0) (d := 8) h_6 (by decide))) (cwV 1 hts gX10_covet_X0_copyOf rfl rfl rfl (by decide +kernel) ⟨Nat.le_of_ble_eq_true rfl, Nat.le_of_ble_eq_true rfl⟩) (wr_preV 0 0 hK (hP.sub [8, 9, 6, 7] rfl) (hD.sub [8, 9, 6, 7] (by decide) rfl) rfl rfl) rfl rfl hl.1 rfl (lv_room (Nat.le_of_ble_eq_true rfl)) dX10_covet_37 ⟨Nat.zero_le _, Nat.zero_le _⟩) hS hP hD [8, 9, 6, 7] [0, 1, 2, 3, 4, 5] rfl rfl (by decide) (fun _ => rfl) (fun ur37 H locs wr37 hP hD hS => ?_)
    have hP : va_P G vwCl [(a0, .inr (10, [.ref a1, .ref a3, .ref a11, .ref a25, .ref a68, .ref a69, .ref a77, .ref a82, .ref a84, .ref a88, .ref a91])), (a11, .inr (4, [.ref a12, .ref a19, .ref a24, .int n11_3])), (a12, .inr (9, [.ref a13, .ref a15, .ref a16, .ref a17, .ref a18, .int n12_5, .int n12_6])), (a13, .inr (0, [.ref a14, .int n13_1])), (a16, .inl (ct 0, 8, .inl f16)), (a19, .inr (2, [.ref a12, .ref a20, .ref a22, .ref a23, .int n19_4, .int n19_5, .int n19_6, .int n19_7])), (a20, .inr (0, [.ref a21, .int n20_1])), (a21, .inl (ct 0, 8, .inl f21)), (a82, .inr (0, [.ref a83, .int (ur37.1 0)])), (a83, .inl (ct 0, 8, .inl (ur37.2.1 0)))] H := hP.sub [0, 1, 2, 3, 4, 5, 8, 9, 6, 7] rfl
    have hD : va_D A [(a0, .inr (10, [.ref a1, .ref a3, .ref a11, .ref a25, .ref a68, .ref a69, .ref a77, .ref a82, .ref a84, .ref a88, .ref a91])), (a11, .inr (4, [.ref a12, .ref a19, .ref a24, .int n11_3])), (a12, .inr (9, [.ref a13, .ref a15, .ref a16, .ref a17, .ref a18, .int n12_5, .int n12_6])), (a13, .inr (0, [.ref a14, .int n13_1])), (a16, .inl (ct 0, 8, .inl f16)), (a19, .inr (2, [.ref a12, .ref a20, .ref a22, .ref a23, .int n19_4, .int n19_5, .int n19_6, .int n19_7])), (a20, .inr (0, [.ref a21, .int n20_1])), (a21, .inl (ct 0, 8, .inl f21)), (a82, .inr (0, [.ref a83, .int (ur37.1 0)])), (a83, .inl (ct 0, 8, .inl (ur37.2.1 0)))] := hD.sub [0, 1, 2, 3, 4, 5, 8, 9, 6, 7] (by decide) rfl
    obtain ⟨p_8, -⟩ := wr37
    refine lv_iconst (v := 0) hx hb dX10_covet_40 (by decide) ?_
    refine lv_istore (lv' := [(4, .int 0), (3, .int r25), (2, .int (-1)), (0, .ref a0), (1, .int p0)]) hx hb dX10_covet_41 hl (by decide) rfl (fun ls hl => ?_)
    have j43 : ∀ (n : Nat) (x43_2 : Int32) (x43_3 : Int32) (x43_4 : Int32) (f43_9 : Nat → Int32) (H : Heap) (locs : List Loc) (ls : Array Slot), 2147483648 ≤ x43_4.toInt + (n : Int) → rg (-1) 7 x43_2 → rg 0 63 x43_3 → rg 0 8 x43_4 → va_P G vwCl [(a0, .inr (10, [.ref a1, .ref a3, .ref a11, .ref a25, .ref a68, .ref a69, .ref a77, .ref a82, .ref a84, .ref a88, .ref a91])), (a11, .inr (4, [.ref a12, .ref a19, .ref a24, .int n11_3])), (a12, .inr (9, [.ref a13, .ref a15, .ref a16, .ref a17, .ref a18, .int n12_5, .int n12_6])), (a13, .inr (0, [.ref a14, .int n13_1])), (a16, .inl (ct 0, 8, .inl f16)), (a19, .inr (2, [.ref a12, .ref a20, .ref a22, .ref a23, .int n19_4, .int n19_5, .int n19_6, .int n19_7])), (a20, .inr (0, [.ref a21, .int n20_1])), (a21, .inl (ct 0, 8, .inl f21)), (a82, .inr (0, [.ref a83, .int (ur37.1 0)])), (a83, .inl (ct 0, 8, .inl f43_9))] H → va_D A [(a0, .inr (10, [.ref a1, .ref a3, .ref a11, .ref a25, .ref a68, .ref a69, .ref a77, .ref a82, .ref a84, .ref a88, .ref a91])), (a11, .inr (4, [.ref a12, .ref a19, .ref a24, .int n11_3])), (a12, .inr (9, [.ref a13, .ref a15, .ref a16, .ref a17, .ref a18, .int n12_5, .int n12_6])), (a13, .inr (0, [.ref a14, .int n13_1])), (a16, .inl (ct 0, 8, .inl f16)), (a19, .inr (2, [.ref a12, .ref a20, .ref a22, .ref a23, .int n19_4, .int n19_5, .int n19_6, .int n19_7])), (a20, .inr (0, [.ref a21, .int n20_1])), (a21, .inl (ct 0, 8, .inl f21)), (a82, .inr (0, [.ref a83, .int (ur37.1 0)])), (a83, .inl (ct 0, 8, .inl f43_9))] → va_S A s.heap H locs → lv_has ls 6 [(0, .ref a0), (1, .int p0), (2, .int x43_2), (3, .int x43_3), (4, .int x43_4)] → W p l e (headSpec wsX10_covet ({ frames := 5, cells := 0, slots := 0, locals := 111 })).room s m ([.ref a0, .int p0] : List Value).toArray below meth c H locs 0 0 (MQ below (va_Qi (fun (r : Int32) (u : SU) => rg (-2) 7 r ∧ (r = 0 → rg 0 7 p0) ∧ (r = (-1) → rg 0 7 p0) ∧ (¬ r = (-2) → rg 0 7 p0) ∧ (r = 0 → rg 1 8 n20_1) ∧ (r = (-1) → rg 1 8 n20_1) ∧ (¬ r = (-2) → rg 1 8 n20_1) ∧ rg 0 8 (u.1 0) ∧ True) (fun u t => va_P G vwCl ((fun u : SU => [(a0, .inr (10, [.ref a1, .ref a3, .ref a11, .ref a25, .ref a68, .ref a69, .ref a77, .ref a82, .ref a84, .ref a88, .ref a91])), (a11, .inr (4, [.ref a12, .ref a19, .ref a24, .int n11_3])), (a12, .inr (9, [.ref a13, .ref a15, .ref a16, .ref a17, .ref a18, .int n12_5, .int n12_6])), (a13, .inr (0, [.ref a14, .int n13_1])), (a16, .inl (ct 0, 8, .inl f16)), (a19, .inr (2, [.ref a12, .ref a20, .ref a22, .ref a23, .int n19_4, .int n19_5, .int n19_6, .int n19_7])), (a20, .inr (0, [.ref a21, .int n20_1])), (a21, .inl (ct 0, 8, .inl f21)), (a82, .inr (0, [.ref a83, .int (u.1 0)])), (a83, .inl (ct 0, 8, .inl (u.2.1 0)))]) u) t.heap) A) ([.ref a0, .int p0] : List Value).toArray s 0 0 A) (F0 m 43 ls []) := by
      intro n
      induction n with
      | zero => intro x43_2 x43_3 x43_4 f43_9 H locs ls hn43 hx43_2 hx43_3 hx43_4 hP hD hS hl; exact absurd hn43 (by have := Int32.toInt_lt x43_4; have := Int32.le_toInt x43_4; omega)
      | succ n ih43 =>
        intro x43_2 x43_3 x43_4 f43_9 H locs ls hn43 hx43_2 hx43_3 hx43_4 hP hD hS hl
        refine lv_iload hx hb dX10_covet_43 (lv_at hl 4 rfl) ?_
        refine lv_aload_n hx hb dX10_covet_45 rfl (lv_at hl 0 rfl) ?_
        refine va_get (D := G) (ci := 10) (v := .ref a82) (C := RX10) (T := TX10) (N := 11) hx hb hts (by decide +kernel) hown hK.1 hP 0 rfl rfl 7 (by decide) (hts (.fieldLink RX10 63 "CardHolder" "fancy" "LCardHolder$Bonds;") (by decide +kernel)) (fun _ h9 => h9) rfl dX10_covet_46 ?_
        refine va_get (D := G) (ci := 0) (v := .int (ur37.1 0)) (C := RX0) (T := TX0) (N := 2) hx hb hts (by decide +kernel) hown hK.1 hP 8 rfl rfl 1 (by decide) (hts (.fieldLink RX10 238 "CardHolder$Bonds" "persons" "I") (by decide +kernel)) (fun _ h9 => h9) rfl dX10_covet_49 ?_
        refine lv_icmp_ge (tgt := 118) hx hb dX10_covet_52 (by decide) (fun c52 => ?_) (fun c52 => ?_)
        · refine lv_iload_n hx hb dX10_covet_118 rfl (lv_at hl 2 rfl) ?_
          exact W.iret (v := x43_2) hx hb hr (fun t ht hW => ⟨⟨x43_2, (fun k => ([ur37.1 0] : List Int32).getD k 0, fun k => ([f43_9] : List (Nat → Int32)).getD k (fun _ => 0), fun k => ([] : List (Nat → Int64)).getD k (fun _ => 0)), rfl, ⟨(rg_w (c := (-2)) (d := 7) hx43_2 (by decide)), (fun _ => h_5), (fun _ => h_5), (fun _ => h_5), (fun _ => h_6), (fun _ => h_6), (fun _ => h_6), p_8, trivial⟩, hp_at ht hP⟩, hS.F ht⟩) hS.2.2 dX10_covet_119
        · have h_9 : rg 0 7 x43_4 := r_lt_l_i (nle_i c52) hx43_4 p_8 (by decide)
          have h_10 : rg 1 8 (ur37.1 0) := r_lt_r_i (nle_i c52) hx43_4 p_8 (by decide)
          refine lv_aload_n hx hb dX10_covet_55 rfl (lv_at hl 0 rfl) ?_
          refine va_get (D := G) (ci := 10) (v := .ref a82) (C := RX10) (T := TX10) (N := 11) hx hb hts (by decide +kernel) hown hK.1 hP 0 rfl rfl 7 (by decide) (hts (.fieldLink RX10 63 "CardHolder" "fancy" "LCardHolder$Bonds;") (by decide +kernel)) (fun _ h9 => h9) rfl dX10_covet_56 ?_
          refine lv_iload hx hb dX10_covet_59 (lv_at hl 4 rfl) ?_
          refine lv_iload_n hx hb dX10_covet_61 rfl (lv_at hl 1 rfl) ?_
          refine wj_callv (wr := [(a0, .inr (10, [.ref a1, .ref a3, .ref a11, .ref a25, .ref a68, .ref a69, .ref a77, .ref a82, .ref a84, .ref a88, .ref a91])), (a11, .inr (4, [.ref a12, .ref a19, .ref a24, .int n11_3])), (a12, .inr (9, [.ref a13, .ref a15, .ref a16, .ref a17, .ref a18, .int n12_5, .int n12_6])), (a13, .inr (0, [.ref a14, .int n13_1])), (a16, .inl (ct 0, 8, .inl f16)), (a19, .inr (2, [.ref a12, .ref a20, .ref a22, .ref a23, .int n19_4, .int n19_5, .int n19_6, .int n19_7])), (a20, .inr (0, [.ref a21, .int n20_1])), (a21, .inl (ct 0, 8, .inl f21))]) (w1 := (fun u : SU => [(a82, .inr (0, [.ref a83, .int (ur37.1 0)])), (a83, .inl (ct 0, 8, .inl (u.2.1 0)))])) (va_runV (As := [.int x43_4, .int p0]) (rest := []) ⟨hx, hb, hml, hown, hts⟩ (a_X0_put l G ct a82 a83 (ur37.1 0) f43_9 x43_4 p0 (rg_w (c := 0) (d := 8) h_10 (by decide))) (cwV 2 hts gX10_covet_X0_put rfl rfl rfl (by decide +kernel) ⟨Nat.le_of_ble_eq_true rfl, Nat.le_of_ble_eq_true rfl⟩) (wr_preV 0 0 hK (hP.sub [8, 9] rfl) (hD.sub [8, 9] (by decide) rfl) rfl rfl) rfl rfl hl.1 rfl (lv_room (Nat.le_of_ble_eq_true rfl)) dX10_covet_62 ⟨Nat.zero_le _, Nat.zero_le _⟩) hS hP hD [8, 9] [0, 1, 2, 3, 4, 5, 6, 7] rfl rfl (by decide) (fun _ => rfl) (fun ur62 H locs wr62 hP hD hS => ?_)
          have hP : va_P G vwCl [(a0, .inr (10, [.ref a1, .ref a3, .ref a11, .ref a25, .ref a68, .ref a69, .ref a77, .ref a82, .ref a84, .ref a88, .ref a91])), (a11, .inr (4, [.ref a12, .ref a19, .ref a24, .int n11_3])), (a12, .inr (9, [.ref a13, .ref a15, .ref a16, .ref a17, .ref a18, .int n12_5, .int n12_6])), (a13, .inr (0, [.ref a14, .int n13_1])), (a16, .inl (ct 0, 8, .inl f16)), (a19, .inr (2, [.ref a12, .ref a20, .ref a22, .ref a23, .int n19_4, .int n19_5, .int n19_6, .int n19_7])), (a20, .inr (0, [.ref a21, .int n20_1])), (a21, .inl (ct 0, 8, .inl f21)), (a82, .inr (0, [.ref a83, .int (ur37.1 0)])), (a83, .inl (ct 0, 8, .inl (ur62.2.1 0)))] H := hP.sub [0, 1, 2, 3, 4, 5, 6, 7, 8, 9] rfl
          have hD : va_D A [(a0, .inr (10, [.ref a1, .ref a3, .ref a11, .ref a25, .ref a68, .ref a69, .ref a77, .ref a82, .ref a84, .ref a88, .ref a91])), (a11, .inr (4, [.ref a12, .ref a19, .ref a24, .int n11_3])), (a12, .inr (9, [.ref a13, .ref a15, .ref a16, .ref a17, .ref a18, .int n12_5, .int n12_6])), (a13, .inr (0, [.ref a14, .int n13_1])), (a16, .inl (ct 0, 8, .inl f16)), (a19, .inr (2, [.ref a12, .ref a20, .ref a22, .ref a23, .int n19_4, .int n19_5, .int n19_6, .int n19_7])), (a20, .inr (0, [.ref a21, .int n20_1])), (a21, .inl (ct 0, 8, .inl f21)), (a82, .inr (0, [.ref a83, .int (ur37.1 0)])), (a83, .inl (ct 0, 8, .inl (ur62.2.1 0)))] := hD.sub [0, 1, 2, 3, 4, 5, 6, 7, 8, 9] (by decide) rfl
          refine lv_aload_n hx hb dX10_covet_65 rfl (lv_at hl 0 rfl) ?_
          refine va_get (D := G) (ci := 10) (v := .ref a11) (C := RX10) (T := TX10) (N := 11) hx hb hts (by decide +kernel) hown hK.1 hP 0 rfl rfl 2 (by decide) (hts (.fieldLink RX10 28 "CardHolder" "play" "LCardHolder$Play;") (by decide +kernel)) (fun _ h9 => h9) rfl dX10_covet_66 ?_
          refine va_get (D := G) (ci := 4) (v := .ref a12) (C := RX4) (T := TX4) (N := 4) hx hb hts (by decide +kernel) hown hK.1 hP 1 rfl rfl 0 (by decide) (hts (.fieldLink RX10 49 "CardHolder$Play" "town" "LCardHolder$Town;") (by decide +kernel)) (fun _ h9 => h9) rfl dX10_covet_69 ?_
          refine lv_aload_n hx hb dX10_covet_72 rfl (lv_at hl 0 rfl) ?_
          refine va_get (D := G) (ci := 10) (v := .ref a82) (C := RX10) (T := TX10) (N := 11) hx hb hts (by decide +kernel) hown hK.1 hP 0 rfl rfl 7 (by decide) (hts (.fieldLink RX10 63 "CardHolder" "fancy" "LCardHolder$Bonds;") (by decide +kernel)) (fun _ h9 => h9) rfl dX10_covet_73 ?_
          refine lv_iload_n hx hb dX10_covet_76 rfl (lv_at hl 1 rfl) ?_
          refine ro_calli (va_runV (As := [.ref a82, .int p0]) (rest := []) ⟨hx, hb, hml, hown, hts⟩ (a_X9_powerIn l G ct a12 a13 a15 a16 a17 a18 n12_5 n12_6 a14 n13_1 f16 a82 a83 (ur37.1 0) (ur62.2.1 0) p0 hp_n13_1 (rg_w (c := 0) (d := 8) h_10 (by decide))) (cwV 2 hts gX10_covet_X9_powerIn rfl rfl rfl (by decide +kernel) ⟨Nat.le_of_ble_eq_true rfl, Nat.le_of_ble_eq_true rfl⟩) (ro_preV 9 0 hK (hP.sub [2, 3, 4, 8, 9] rfl) rfl rfl) rfl rfl hl.1 rfl (lv_room (Nat.le_of_ble_eq_true rfl)) dX10_covet_77 ⟨Nat.zero_le _, Nat.zero_le _⟩) hS hP (fun r77 H locs wr77 hP hS => ?_)
          obtain ⟨p_11, -⟩ := wr77
          refine lv_istore (lv' := [(5, .int r77), (0, .ref a0), (1, .int p0), (2, .int x43_2), (3, .int x43_3), (4, .int x43_4)]) hx hb dX10_covet_80 hl (by decide) rfl (fun ls hl => ?_)
          refine lv_iload hx hb dX10_covet_82 (lv_at hl 0 rfl) ?_
          refine lv_iload_n hx hb dX10_covet_84 rfl (lv_at hl 4 rfl) ?_
          have j94 : ∀ (x94_2 : Int32) (x94_3 : Int32) (H : Heap) (locs : List Loc) (ls : Array Slot), rg (-1) 7 x94_2 → rg 0 63 x94_3 → va_P G vwCl [(a0, .inr (10, [.ref a1, .ref a3, .ref a11, .ref a25, .ref a68, .ref a69, .ref a77, .ref a82, .ref a84, .ref a88, .ref a91])), (a11, .inr (4, [.ref a12, .ref a19, .ref a24, .int n11_3])), (a12, .inr (9, [.ref a13, .ref a15, .ref a16, .ref a17, .ref a18, .int n12_5, .int n12_6])), (a13, .inr (0, [.ref a14, .int n13_1])), (a16, .inl (ct 0, 8, .inl f16)), (a19, .inr (2, [.ref a12, .ref a20, .ref a22, .ref a23, .int n19_4, .int n19_5, .int n19_6, .int n19_7])), (a20, .inr (0, [.ref a21, .int n20_1])), (a21, .inl (ct 0, 8, .inl f21)), (a82, .inr (0, [.ref a83, .int (ur37.1 0)])), (a83, .inl (ct 0, 8, .inl (ur62.2.1 0)))] H → va_D A [(a0, .inr (10, [.ref a1, .ref a3, .ref a11, .ref a25, .ref a68, .ref a69, .ref a77, .ref a82, .ref a84, .ref a88, .ref a91])), (a11, .inr (4, [.ref a12, .ref a19, .ref a24, .int n11_3])), (a12, .inr (9, [.ref a13, .ref a15, .ref a16, .ref a17, .ref a18, .int n12_5, .int n12_6])), (a13, .inr (0, [.ref a14, .int n13_1])), (a16, .inl (ct 0, 8, .inl f16)), (a19, .inr (2, [.ref a12, .ref a20, .ref a22, .ref a23, .int n19_4, .int n19_5, .int n19_6, .int n19_7])), (a20, .inr (0, [.ref a21, .int n20_1])), (a21, .inl (ct 0, 8, .inl f21)), (a82, .inr (0, [.ref a83, .int (ur37.1 0)])), (a83, .inl (ct 0, 8, .inl (ur62.2.1 0)))] → va_S A s.heap H locs → lv_has ls 6 [(0, .ref a0), (1, .int p0), (2, .int x94_2), (3, .int x94_3), (4, .int x43_4), (5, .int r77)] → W p l e (headSpec wsX10_covet ({ frames := 5, cells := 0, slots := 0, locals := 111 })).room s m ([.ref a0, .int p0] : List Value).toArray below meth c H locs 0 0 (MQ below (va_Qi (fun (r : Int32) (u : SU) => rg (-2) 7 r ∧ (r = 0 → rg 0 7 p0) ∧ (r = (-1) → rg 0 7 p0) ∧ (¬ r = (-2) → rg 0 7 p0) ∧ (r = 0 → rg 1 8 n20_1) ∧ (r = (-1) → rg 1 8 n20_1) ∧ (¬ r = (-2) → rg 1 8 n20_1) ∧ rg 0 8 (u.1 0) ∧ True) (fun u t => va_P G vwCl ((fun u : SU => [(a0, .inr (10, [.ref a1, .ref a3, .ref a11, .ref a25, .ref a68, .ref a69, .ref a77, .ref a82, .ref a84, .ref a88, .ref a91])), (a11, .inr (4, [.ref a12, .ref a19, .ref a24, .int n11_3])), (a12, .inr (9, [.ref a13, .ref a15, .ref a16, .ref a17, .ref a18, .int n12_5, .int n12_6])), (a13, .inr (0, [.ref a14, .int n13_1])), (a16, .inl (ct 0, 8, .inl f16)), (a19, .inr (2, [.ref a12, .ref a20, .ref a22, .ref a23, .int n19_4, .int n19_5, .int n19_6, .int n19_7])), (a20, .inr (0, [.ref a21, .int n20_1])), (a21, .inl (ct 0, 8, .inl f21)), (a82, .inr (0, [.ref a83, .int (u.1 0)])), (a83, .inl (ct 0, 8, .inl (u.2.1 0)))]) u) t.heap) A) ([.ref a0, .int p0] : List Value).toArray s 0 0 A) (F0 m 94 ls []) := by
            intro x94_2 x94_3 H locs ls hx94_2 hx94_3 hP hD hS hl
            refine lv_aload_n hx hb dX10_covet_94 rfl (lv_at hl 0 rfl) ?_
            refine va_get (D := G) (ci := 10) (v := .ref a82) (C := RX10) (T := TX10) (N := 11) hx hb hts (by decide +kernel) hown hK.1 hP 0 rfl rfl 7 (by decide) (hts (.fieldLink RX10 63 "CardHolder" "fancy" "LCardHolder$Bonds;") (by decide +kernel)) (fun _ h9 => h9) rfl dX10_covet_95 ?_
            refine lv_iload hx hb dX10_covet_98 (lv_at hl 4 rfl) ?_
            refine lv_aload_n hx hb dX10_covet_100 rfl (lv_at hl 0 rfl) ?_
            refine ro_callr (va_runV (As := []) (rest := [.int x43_4, .ref a82]) ⟨hx, hb, hml, hown, hts⟩ (a_X10_bonds l G ct a0 a1 a3 a11 a25 a68 a69 a77 a82 a84 a88 a91 a12 a19 a24 n11_3 a20 a22 a23 n19_4 n19_5 n19_6 n19_7) (cwV 0 hts gX10_covet_X10_bonds rfl rfl rfl (by decide +kernel) ⟨Nat.le_of_ble_eq_true rfl, Nat.le_of_ble_eq_true rfl⟩) (ro_preV 10 0 hK (hP.sub [0, 1, 5] rfl) rfl rfl) rfl rfl hl.1 rfl (lv_room (Nat.le_of_ble_eq_true rfl)) dX10_covet_101 ⟨Nat.zero_le _, Nat.zero_le _⟩) hS hP (fun H locs hP hS => ?_)
            refine lv_iload hx hb dX10_covet_104 (lv_at hl 4 rfl) ?_
            refine ro_calli (va_runV (As := [.int x43_4]) (rest := [.int x43_4, .ref a82]) ⟨hx, hb, hml, hown, hts⟩ (a_X0_holderOf l G ct a20 a21 n20_1 f21 x43_4 (rg_w (c := 0) (d := 8) h_6 (by decide))) (cwV 1 hts gX10_covet_X0_holderOf rfl rfl rfl (by decide +kernel) ⟨Nat.le_of_ble_eq_true rfl, Nat.le_of_ble_eq_true rfl⟩) (ro_preV 0 0 hK (hP.sub [6, 7] rfl) rfl rfl) rfl rfl hl.1 rfl (lv_room (Nat.le_of_ble_eq_true rfl)) dX10_covet_106 ⟨Nat.zero_le _, Nat.zero_le _⟩) hS hP (fun r106 H locs wr106 hP hS => ?_)
            obtain ⟨p_12, p_13, p_14, p_15, -⟩ := wr106
            refine wj_callv (wr := [(a0, .inr (10, [.ref a1, .ref a3, .ref a11, .ref a25, .ref a68, .ref a69, .ref a77, .ref a82, .ref a84, .ref a88, .ref a91])), (a11, .inr (4, [.ref a12, .ref a19, .ref a24, .int n11_3])), (a12, .inr (9, [.ref a13, .ref a15, .ref a16, .ref a17, .ref a18, .int n12_5, .int n12_6])), (a13, .inr (0, [.ref a14, .int n13_1])), (a16, .inl (ct 0, 8, .inl f16)), (a19, .inr (2, [.ref a12, .ref a20, .ref a22, .ref a23, .int n19_4, .int n19_5, .int n19_6, .int n19_7])), (a20, .inr (0, [.ref a21, .int n20_1])), (a21, .inl (ct 0, 8, .inl f21))]) (w1 := (fun u : SU => [(a82, .inr (0, [.ref a83, .int (ur37.1 0)])), (a83, .inl (ct 0, 8, .inl (u.2.1 0)))])) (va_runV (As := [.int x43_4, .int r106]) (rest := []) ⟨hx, hb, hml, hown, hts⟩ (a_X0_put l G ct a82 a83 (ur37.1 0) (ur62.2.1 0) x43_4 r106 (rg_w (c := 0) (d := 8) h_10 (by decide))) (cwV 2 hts gX10_covet_X0_put rfl rfl rfl (by decide +kernel) ⟨Nat.le_of_ble_eq_true rfl, Nat.le_of_ble_eq_true rfl⟩) (wr_preV 0 0 hK (hP.sub [8, 9] rfl) (hD.sub [8, 9] (by decide) rfl) rfl rfl) rfl rfl hl.1 rfl (lv_room (Nat.le_of_ble_eq_true rfl)) dX10_covet_109 ⟨Nat.zero_le _, Nat.zero_le _⟩) hS hP hD [8, 9] [0, 1, 2, 3, 4, 5, 6, 7] rfl rfl (by decide) (fun _ => rfl) (fun ur109 H locs wr109 hP hD hS => ?_)
            have hP : va_P G vwCl [(a0, .inr (10, [.ref a1, .ref a3, .ref a11, .ref a25, .ref a68, .ref a69, .ref a77, .ref a82, .ref a84, .ref a88, .ref a91])), (a11, .inr (4, [.ref a12, .ref a19, .ref a24, .int n11_3])), (a12, .inr (9, [.ref a13, .ref a15, .ref a16, .ref a17, .ref a18, .int n12_5, .int n12_6])), (a13, .inr (0, [.ref a14, .int n13_1])), (a16, .inl (ct 0, 8, .inl f16)), (a19, .inr (2, [.ref a12, .ref a20, .ref a22, .ref a23, .int n19_4, .int n19_5, .int n19_6, .int n19_7])), (a20, .inr (0, [.ref a21, .int n20_1])), (a21, .inl (ct 0, 8, .inl f21)), (a82, .inr (0, [.ref a83, .int (ur37.1 0)])), (a83, .inl (ct 0, 8, .inl (ur109.2.1 0)))] H := hP.sub [0, 1, 2, 3, 4, 5, 6, 7, 8, 9] rfl
            have hD : va_D A [(a0, .inr (10, [.ref a1, .ref a3, .ref a11, .ref a25, .ref a68, .ref a69, .ref a77, .ref a82, .ref a84, .ref a88, .ref a91])), (a11, .inr (4, [.ref a12, .ref a19, .ref a24, .int n11_3])), (a12, .inr (9, [.ref a13, .ref a15, .ref a16, .ref a17, .ref a18, .int n12_5, .int n12_6])), (a13, .inr (0, [.ref a14, .int n13_1])), (a16, .inl (ct 0, 8, .inl f16)), (a19, .inr (2, [.ref a12, .ref a20, .ref a22, .ref a23, .int n19_4, .int n19_5, .int n19_6, .int n19_7])), (a20, .inr (0, [.ref a21, .int n20_1])), (a21, .inl (ct 0, 8, .inl f21)), (a82, .inr (0, [.ref a83, .int (ur37.1 0)])), (a83, .inl (ct 0, 8, .inl (ur109.2.1 0)))] := hD.sub [0, 1, 2, 3, 4, 5, 6, 7, 8, 9] (by decide) rfl
            obtain ⟨z112, qz112⟩ : ∃ y : Int32, y = x43_4 + Int32.ofInt 1 := ⟨_, rfl⟩
            obtain ⟨hz112, ez112⟩ := inc_z (e := 1) (f := 8) h_9 qz112 (by decide)
            refine lv_iinc (v := z112) (lv' := [(4, .int z112), (0, .ref a0), (1, .int p0), (2, .int x94_2), (3, .int x94_3), (5, .int r77)]) hx hb dX10_covet_112 hl (k := 4) rfl (qz112.symm) (by decide) rfl (fun ls hl => ?_)
            refine lv_goto (tgt := 43) hx hb dX10_covet_115 (by decide) ?_
            exact ih43 x94_2 x94_3 z112 (ur109.2.1 0) _ _ ls (by have q := hn43; have := ez112; omega) hx94_2 hx94_3 (rg_w (c := 0) (d := 8) hz112 (by decide)) hP hD hS (lv_sub hl [1, 2, 3, 4, 0] rfl)
          refine lv_icmp_le (tgt := 94) hx hb dX10_covet_85 (by decide) (fun c85 => ?_) (fun c85 => ?_)
          · exact j94 x43_2 x43_3 _ _ ls hx43_2 hx43_3 hP hD hS (lv_sub hl [1, 2, 3, 4, 5, 0] rfl)
          · have h_16 : rg 0 62 x43_3 := r_lt_l_i (nle_i c85) hx43_3 p_11 (by decide)
            have h_17 : rg 1 63 r77 := r_lt_r_i (nle_i c85) hx43_3 p_11 (by decide)
            refine lv_iload hx hb dX10_covet_88 (lv_at hl 5 rfl) ?_
            refine lv_istore_n (lv' := [(2, .int x43_4), (5, .int r77), (0, .ref a0), (1, .int p0), (3, .int x43_3), (4, .int x43_4)]) hx hb dX10_covet_90 rfl hl (by decide) rfl (fun ls hl => ?_)
            refine lv_iload hx hb dX10_covet_91 (lv_at hl 1 rfl) ?_
            refine lv_istore_n (lv' := [(3, .int r77), (2, .int x43_4), (5, .int r77), (0, .ref a0), (1, .int p0), (4, .int x43_4)]) hx hb dX10_covet_93 rfl hl (by decide) rfl (fun ls hl => ?_)
            exact j94 x43_4 r77 _ _ ls (rg_w (c := (-1)) (d := 7) h_9 (by decide)) (rg_w (c := 0) (d := 63) h_17 (by decide)) hP hD hS (lv_sub hl [3, 4, 1, 0, 5, 2] rfl)
    exact j43 4294967296 ((-1) : Int32) r25 (0 : Int32) (ur37.2.1 0) _ _ ls (ms_e (0 : Int32)) (rg_w (c := (-1)) (d := 7) (rgn (-1) (x := (-1)) (by decide)) (by decide)) p_7 (rg_w (c := 0) (d := 8) (rgn 0 (x := 0) (by decide)) (by decide)) hP hD hS (lv_sub hl [3, 4, 2, 1, 0] rfl)
  · have h_18 : rg 0 0 r2 := r_eq_l_i (e := 0) (f := 0) c5 p_1 (rgn 0 (x := 0) (by decide)) (by decide)
    refine lv_bipush (v := (-2)) hx hb dX10_covet_8 (by decide) ?_
    exact W.iret (v := (-2)) hx hb hr (fun t ht hW => ⟨⟨(-2), (fun k => ([n82_1] : List Int32).getD k 0, fun k => ([f83] : List (Nat → Int32)).getD k (fun _ => 0), fun k => ([] : List (Nat → Int64)).getD k (fun _ => 0)), rfl, ⟨(rg_w (c := (-2)) (d := 7) (rgn (-2) (x := (-2)) (by decide)) (by decide)), (fun hq => absurd hq (rne (rgn (-2) (x := (-2)) (by decide)) (y := 0) (c := 0) (by decide) (by decide))), (fun hq => absurd hq (rne (rgn (-2) (x := (-2)) (by decide)) (y := (-1)) (c := (-1)) (by decide) (by decide))), (fun hq => absurd (req (rgn (-2) (x := (-2)) (by decide)) (y := (-2)) (by decide)) hq), (fun hq => absurd hq (rne (rgn (-2) (x := (-2)) (by decide)) (y := 0) (c := 0) (by decide) (by decide))), (fun hq => absurd hq (rne (rgn (-2) (x := (-2)) (by decide)) (y := (-1)) (c := (-1)) (by decide) (by decide))), (fun hq => absurd (req (rgn (-2) (x := (-2)) (by decide)) (y := (-2)) (by decide)) hq), hp_n82_1, trivial⟩, hp_at ht hP⟩, hS.F ht⟩) hS.2.2 dX10_covet_10

set_option maxHeartbeats 4000000 in
set_option maxRecDepth 100000 in
theorem a_X10_judge (l : Launch) (G : va_G) (ct : Nat → ClassId) (a0 : Nat) (a1 : Nat) (a3 : Nat) (a11 : Nat) (a25 : Nat) (a68 : Nat) (a69 : Nat) (a77 : Nat) (a82 : Nat) (a84 : Nat) (a88 : Nat) (a91 : Nat) (a12 : Nat) (a19 : Nat) (a24 : Nat) (n11_3 : Int32) (a13 : Nat) (a15 : Nat) (a16 : Nat) (a17 : Nat) (a18 : Nat) (n12_5 : Int32) (n12_6 : Int32) (a14 : Nat) (n13_1 : Int32) (f14 : Nat → Int32) (f16 : Nat → Int32) (f18 : Nat → Int32) (a20 : Nat) (a22 : Nat) (a23 : Nat) (n19_4 : Int32) (n19_5 : Int32) (n19_6 : Int32) (n19_7 : Int32) (a21 : Nat) (n20_1 : Int32) (a70 : Nat) (a75 : Nat) (a76 : Nat) (n69_3 : Int32) (rr : Nat → Nat) (f71 : Nat → Int64) (f72 : Nat → Int64) (f73 : Nat → Int64) (f74 : Nat → Int64) (f76 : Nat → Int32) (a78 : Nat) (a80 : Nat) (a81 : Nat) (n77_4 : Int32) (n77_5 : Int32) (n77_6 : Int32) (n77_7 : Int32) (a79 : Nat) (n78_1 : Int32) (f79 : Nat → Int32) (f80 : Nat → Int32) (f81 : Nat → Int32) (p0 : Int32) (hp_n13_1 : rg 0 8 n13_1) (hp_n20_1 : rg 0 8 n20_1) (hp_f76 : ar 0 60 f76) (hp_n78_1 : rg 0 8 n78_1) : Met l yX10_judge wsX10_judge ({ frames := 6, cells := 0, slots := 0, locals := 140 }) (va_Pc [.ref a0, .int p0] (wrP G ct [(a0, .inr (10, [.ref a1, .ref a3, .ref a11, .ref a25, .ref a68, .ref a69, .ref a77, .ref a82, .ref a84, .ref a88, .ref a91])), (a11, .inr (4, [.ref a12, .ref a19, .ref a24, .int n11_3])), (a12, .inr (9, [.ref a13, .ref a15, .ref a16, .ref a17, .ref a18, .int n12_5, .int n12_6])), (a13, .inr (0, [.ref a14, .int n13_1])), (a14, .inl (ct 0, 8, .inl f14)), (a16, .inl (ct 0, 8, .inl f16)), (a18, .inl (ct 0, 8, .inl f18)), (a19, .inr (2, [.ref a12, .ref a20, .ref a22, .ref a23, .int n19_4, .int n19_5, .int n19_6, .int n19_7])), (a20, .inr (0, [.ref a21, .int n20_1])), (a69, .inr (6, [.ref a70, .ref a75, .ref a76, .int n69_3])), (a70, .inl (ct 5, 4, .inr (.inr (.inr (.inr (fun i => if i < 4 then some (rr i) else none)))))), ((rr 0), .inl (ct 3, 60, .inr (.inl f71))), ((rr 1), .inl (ct 3, 60, .inr (.inl f72))), ((rr 2), .inl (ct 3, 60, .inr (.inl f73))), ((rr 3), .inl (ct 3, 60, .inr (.inl f74))), (a76, .inl (ct 0, 4, .inl f76)), (a77, .inr (2, [.ref a12, .ref a78, .ref a80, .ref a81, .int n77_4, .int n77_5, .int n77_6, .int n77_7])), (a78, .inr (0, [.ref a79, .int n78_1])), (a79, .inl (ct 0, 8, .inl f79)), (a80, .inl (ct 0, 8, .inl f80)), (a81, .inl (ct 0, 8, .inl f81))])) (va_Qi (fun (r : Int32) (u : SU) => rg (-6) 20 r ∧ (r = 0 → rg 0 3 p0) ∧ (¬ r = (-2) → rg 0 3 p0) ∧ (r = 0 → rg 1 2147483647 n12_5) ∧ (¬ r = (-2) → rg 1 2147483647 n12_5) ∧ rg 0 8 (u.1 4) ∧ True) (fun u t => va_P G vwCl ((fun u : SU => [(a0, .inr (10, [.ref a1, .ref a3, .ref a11, .ref a25, .ref a68, .ref a69, .ref a77, .ref a82, .ref a84, .ref a88, .ref a91])), (a11, .inr (4, [.ref a12, .ref a19, .ref a24, .int n11_3])), (a12, .inr (9, [.ref a13, .ref a15, .ref a16, .ref a17, .ref a18, .int n12_5, .int n12_6])), (a13, .inr (0, [.ref a14, .int n13_1])), (a14, .inl (ct 0, 8, .inl f14)), (a16, .inl (ct 0, 8, .inl f16)), (a18, .inl (ct 0, 8, .inl f18)), (a19, .inr (2, [.ref a12, .ref a20, .ref a22, .ref a23, .int n19_4, .int n19_5, .int n19_6, .int n19_7])), (a20, .inr (0, [.ref a21, .int n20_1])), (a69, .inr (6, [.ref a70, .ref a75, .ref a76, .int n69_3])), (a70, .inl (ct 5, 4, .inr (.inr (.inr (.inr (fun i => if i < 4 then some (rr i) else none)))))), ((rr 0), .inl (ct 3, 60, .inr (.inl f71))), ((rr 1), .inl (ct 3, 60, .inr (.inl f72))), ((rr 2), .inl (ct 3, 60, .inr (.inl f73))), ((rr 3), .inl (ct 3, 60, .inr (.inl f74))), (a76, .inl (ct 0, 4, .inl f76)), (a77, .inr (2, [.ref a12, .ref a78, .ref a80, .ref a81, .int (u.1 0), .int (u.1 1), .int (u.1 2), .int (u.1 3)])), (a78, .inr (0, [.ref a79, .int (u.1 4)])), (a79, .inl (ct 0, 8, .inl (u.2.1 0))), (a80, .inl (ct 0, 8, .inl (u.2.1 1))), (a81, .inl (ct 0, 8, .inl f81))]) u) t.heap) (aset [(a0, .inr (10, [.ref a1, .ref a3, .ref a11, .ref a25, .ref a68, .ref a69, .ref a77, .ref a82, .ref a84, .ref a88, .ref a91])), (a11, .inr (4, [.ref a12, .ref a19, .ref a24, .int n11_3])), (a12, .inr (9, [.ref a13, .ref a15, .ref a16, .ref a17, .ref a18, .int n12_5, .int n12_6])), (a13, .inr (0, [.ref a14, .int n13_1])), (a14, .inl (ct 0, 8, .inl f14)), (a16, .inl (ct 0, 8, .inl f16)), (a18, .inl (ct 0, 8, .inl f18)), (a19, .inr (2, [.ref a12, .ref a20, .ref a22, .ref a23, .int n19_4, .int n19_5, .int n19_6, .int n19_7])), (a20, .inr (0, [.ref a21, .int n20_1])), (a69, .inr (6, [.ref a70, .ref a75, .ref a76, .int n69_3])), (a70, .inl (ct 5, 4, .inr (.inr (.inr (.inr (fun i => if i < 4 then some (rr i) else none)))))), ((rr 0), .inl (ct 3, 60, .inr (.inl f71))), ((rr 1), .inl (ct 3, 60, .inr (.inl f72))), ((rr 2), .inl (ct 3, 60, .inr (.inl f73))), ((rr 3), .inl (ct 3, 60, .inr (.inl f74))), (a76, .inl (ct 0, 4, .inl f76)), (a77, .inr (2, [.ref a12, .ref a78, .ref a80, .ref a81, .int n77_4, .int n77_5, .int n77_6, .int n77_7])), (a78, .inr (0, [.ref a79, .int n78_1])), (a79, .inl (ct 0, 8, .inl f79)), (a80, .inl (ct 0, 8, .inl f80)), (a81, .inl (ct 0, 8, .inl f81))])) 0 0 (aset [(a0, .inr (10, [.ref a1, .ref a3, .ref a11, .ref a25, .ref a68, .ref a69, .ref a77, .ref a82, .ref a84, .ref a88, .ref a91])), (a11, .inr (4, [.ref a12, .ref a19, .ref a24, .int n11_3])), (a12, .inr (9, [.ref a13, .ref a15, .ref a16, .ref a17, .ref a18, .int n12_5, .int n12_6])), (a13, .inr (0, [.ref a14, .int n13_1])), (a14, .inl (ct 0, 8, .inl f14)), (a16, .inl (ct 0, 8, .inl f16)), (a18, .inl (ct 0, 8, .inl f18)), (a19, .inr (2, [.ref a12, .ref a20, .ref a22, .ref a23, .int n19_4, .int n19_5, .int n19_6, .int n19_7])), (a20, .inr (0, [.ref a21, .int n20_1])), (a69, .inr (6, [.ref a70, .ref a75, .ref a76, .int n69_3])), (a70, .inl (ct 5, 4, .inr (.inr (.inr (.inr (fun i => if i < 4 then some (rr i) else none)))))), ((rr 0), .inl (ct 3, 60, .inr (.inl f71))), ((rr 1), .inl (ct 3, 60, .inr (.inl f72))), ((rr 2), .inl (ct 3, 60, .inr (.inl f73))), ((rr 3), .inl (ct 3, 60, .inr (.inl f74))), (a76, .inl (ct 0, 4, .inl f76)), (a77, .inr (2, [.ref a12, .ref a78, .ref a80, .ref a81, .int n77_4, .int n77_5, .int n77_6, .int n77_7])), (a78, .inr (0, [.ref a79, .int n78_1])), (a79, .inl (ct 0, 8, .inl f79)), (a80, .inl (ct 0, 8, .inl f80)), (a81, .inl (ct 0, 8, .inl f81))]) := by
  refine Met.ofW (cc := cX10_judge) (maxL := 3) (ret := (some .int)) (by decide) rfl ?_
  intro p e s m args below meth c s₁ B hml hv
  obtain ⟨rfl, hP, hK, hD0⟩ := hv
  have hx := B.exec
  have hb := B.bytes
  have hr := B.returns
  have hts := atoms_spec (ws := wsX10_judge) B.pre
  have hown : s.vm.findClass RX10 = some m.cls := findClass_of_methodNamed B.named
  have hlocks := B.notSynchronized
  have hD := hD0.aself
  generalize hAe : aset [(a0, .inr (10, [.ref a1, .ref a3, .ref a11, .ref a25, .ref a68, .ref a69, .ref a77, .ref a82, .ref a84, .ref a88, .ref a91])), (a11, .inr (4, [.ref a12, .ref a19, .ref a24, .int n11_3])), (a12, .inr (9, [.ref a13, .ref a15, .ref a16, .ref a17, .ref a18, .int n12_5, .int n12_6])), (a13, .inr (0, [.ref a14, .int n13_1])), (a14, .inl (ct 0, 8, .inl f14)), (a16, .inl (ct 0, 8, .inl f16)), (a18, .inl (ct 0, 8, .inl f18)), (a19, .inr (2, [.ref a12, .ref a20, .ref a22, .ref a23, .int n19_4, .int n19_5, .int n19_6, .int n19_7])), (a20, .inr (0, [.ref a21, .int n20_1])), (a69, .inr (6, [.ref a70, .ref a75, .ref a76, .int n69_3])), (a70, .inl (ct 5, 4, .inr (.inr (.inr (.inr (fun i => if i < 4 then some (rr i) else none)))))), ((rr 0), .inl (ct 3, 60, .inr (.inl f71))), ((rr 1), .inl (ct 3, 60, .inr (.inl f72))), ((rr 2), .inl (ct 3, 60, .inr (.inl f73))), ((rr 3), .inl (ct 3, 60, .inr (.inl f74))), (a76, .inl (ct 0, 4, .inl f76)), (a77, .inr (2, [.ref a12, .ref a78, .ref a80, .ref a81, .int n77_4, .int n77_5, .int n77_6, .int n77_7])), (a78, .inr (0, [.ref a79, .int n78_1])), (a79, .inl (ct 0, 8, .inl f79)), (a80, .inl (ct 0, 8, .inl f80)), (a81, .inl (ct 0, 8, .inl f81))] = A at hD ⊢
  have hS : va_S A s.heap s.heap [] := va_S.rf
  have hl := lv_entry ([.ref a0, .int p0]) (n := 3) (Nat.le_of_ble_eq_true rfl)
  rw [lg_entry_eq]
  generalize (lg_sl ([.ref a0, .int p0]) ++ List.replicate (3 - (lg_sl ([.ref a0, .int p0])).length) Slot.unset).toArray = ls at hl ⊢
  have hl : lv_has ls 3 [(0, .ref a0), (1, .int p0)] := hl
  refine lv_aload_n hx hb dX10_judge_0 rfl (lv_at hl 0 rfl) ?_
  refine lv_iload_n hx hb dX10_judge_1 rfl (lv_at hl 1 rfl) ?_
  refine ro_calli (va_runV (As := [.int p0]) (rest := []) ⟨hx, hb, hml, hown, hts⟩ (a_X10_askingRowState l G ct a0 a1 a3 a11 a25 a68 a69 a77 a82 a84 a88 a91 a12 a19 a24 n11_3 a13 a15 a16 a17 a18 n12_5 n12_6 a20 a22 a23 n19_4 n19_5 n19_6 n19_7 a21 n20_1 a70 a75 a76 n69_3 rr f71 f72 f73 f74 f76 p0 hp_n20_1 hp_f76) (cwV 1 hts gX10_judge_X10_askingRowState rfl rfl rfl (by decide +kernel) ⟨Nat.le_of_ble_eq_true rfl, Nat.le_of_ble_eq_true rfl⟩) (ro_preV 10 0 hK (hP.sub [0, 1, 2, 7, 8, 9, 10, 11, 12, 13, 14, 15] rfl) rfl rfl) rfl rfl hl.1 rfl (lv_room (Nat.le_of_ble_eq_true rfl)) dX10_judge_2 ⟨Nat.zero_le _, Nat.zero_le _⟩) hS hP (fun r2 H locs wr2 hP hS => ?_)
  obtain ⟨p_1, p_2, p_3, p_4, p_5, -⟩ := wr2
  refine lv_istore_n (lv' := [(2, .int r2), (0, .ref a0), (1, .int p0)]) hx hb dX10_judge_5 rfl hl (by decide) rfl (fun ls hl => ?_)
  refine lv_iload_n hx hb dX10_judge_6 rfl (lv_at hl 0 rfl) ?_
  refine lv_if_eq (tgt := 14) hx hb dX10_judge_7 (by decide) (fun c7 => ?_) (fun c7 => ?_)
  · have h_6 : rg 0 0 r2 := r_eq_l_i (e := 0) (f := 0) c7 p_1 (rgn 0 (x := 0) (by decide)) (by decide)
    have h_7 : rg 0 3 p0 := (p_2 (req h_6 (y := 0) (by decide)))
    have h_8 : rg 1 2147483647 n12_5 := (p_4 (req h_6 (y := 0) (by decide)))
    refine lv_aload_n hx hb dX10_judge_14 rfl (lv_at hl 1 rfl) ?_
    refine lv_iload_n hx hb dX10_judge_15 rfl (lv_at hl 2 rfl) ?_
    refine wj_calli (wr := [(a11, .inr (4, [.ref a12, .ref a19, .ref a24, .int n11_3])), (a19, .inr (2, [.ref a12, .ref a20, .ref a22, .ref a23, .int n19_4, .int n19_5, .int n19_6, .int n19_7])), (a20, .inr (0, [.ref a21, .int n20_1]))]) (w1 := (fun u : SU => [(a0, .inr (10, [.ref a1, .ref a3, .ref a11, .ref a25, .ref a68, .ref a69, .ref a77, .ref a82, .ref a84, .ref a88, .ref a91])), (a12, .inr (9, [.ref a13, .ref a15, .ref a16, .ref a17, .ref a18, .int n12_5, .int n12_6])), (a13, .inr (0, [.ref a14, .int n13_1])), (a14, .inl (ct 0, 8, .inl f14)), (a16, .inl (ct 0, 8, .inl f16)), (a18, .inl (ct 0, 8, .inl f18)), (a69, .inr (6, [.ref a70, .ref a75, .ref a76, .int n69_3])), (a70, .inl (ct 5, 4, .inr (.inr (.inr (.inr (fun i => if i < 4 then some (rr i) else none)))))), ((rr 0), .inl (ct 3, 60, .inr (.inl f71))), ((rr 1), .inl (ct 3, 60, .inr (.inl f72))), ((rr 2), .inl (ct 3, 60, .inr (.inl f73))), ((rr 3), .inl (ct 3, 60, .inr (.inl f74))), (a76, .inl (ct 0, 4, .inl f76)), (a77, .inr (2, [.ref a12, .ref a78, .ref a80, .ref a81, .int (u.1 0), .int (u.1 1), .int (u.1 2), .int (u.1 3)])), (a78, .inr (0, [.ref a79, .int (u.1 4)])), (a79, .inl (ct 0, 8, .inl (u.2.1 0))), (a80, .inl (ct 0, 8, .inl (u.2.1 1))), (a81, .inl (ct 0, 8, .inl f81))])) (va_runV (As := [.int p0]) (rest := []) ⟨hx, hb, hml, hown, hts⟩ (a_X10_runTrial l G ct a0 a1 a3 a11 a25 a68 a69 a77 a82 a84 a88 a91 a12 a13 a15 a16 a17 a18 n12_5 n12_6 a14 n13_1 f14 f16 f18 a70 a75 a76 n69_3 rr f71 f72 f73 f74 f76 a78 a80 a81 n77_4 n77_5 n77_6 n77_7 a79 n78_1 f79 f80 f81 p0 hp_n13_1 hp_f76 hp_n78_1) (cwV 1 hts gX10_judge_X10_runTrial rfl rfl rfl (by decide +kernel) ⟨Nat.le_of_ble_eq_true rfl, Nat.le_of_ble_eq_true rfl⟩) (wr_preV 10 0 hK (hP.sub [0, 2, 3, 4, 5, 6, 9, 10, 11, 12, 13, 14, 15, 16, 17, 18, 19, 20] rfl) (hD.sub [0, 2, 3, 4, 5, 6, 9, 10, 11, 12, 13, 14, 15, 16, 17, 18, 19, 20] (by decide) rfl) rfl rfl) rfl rfl hl.1 rfl (lv_room (Nat.le_of_ble_eq_true rfl)) dX10_judge_16 ⟨Nat.zero_le _, Nat.zero_le _⟩) hS hP hD [0, 2, 3, 4, 5, 6, 9, 10, 11, 12, 13, 14, 15, 16, 17, 18, 19, 20] [1, 7, 8] rfl rfl (by decide) (fun _ => rfl) (fun r16 ur16 H locs wr16 hP hD hS => ?_)
    have hP : va_P G vwCl [(a0, .inr (10, [.ref a1, .ref a3, .ref a11, .ref a25, .ref a68, .ref a69, .ref a77, .ref a82, .ref a84, .ref a88, .ref a91])), (a11, .inr (4, [.ref a12, .ref a19, .ref a24, .int n11_3])), (a12, .inr (9, [.ref a13, .ref a15, .ref a16, .ref a17, .ref a18, .int n12_5, .int n12_6])), (a13, .inr (0, [.ref a14, .int n13_1])), (a14, .inl (ct 0, 8, .inl f14)), (a16, .inl (ct 0, 8, .inl f16)), (a18, .inl (ct 0, 8, .inl f18)), (a19, .inr (2, [.ref a12, .ref a20, .ref a22, .ref a23, .int n19_4, .int n19_5, .int n19_6, .int n19_7])), (a20, .inr (0, [.ref a21, .int n20_1])), (a69, .inr (6, [.ref a70, .ref a75, .ref a76, .int n69_3])), (a70, .inl (ct 5, 4, .inr (.inr (.inr (.inr (fun i => if i < 4 then some (rr i) else none)))))), ((rr 0), .inl (ct 3, 60, .inr (.inl f71))), ((rr 1), .inl (ct 3, 60, .inr (.inl f72))), ((rr 2), .inl (ct 3, 60, .inr (.inl f73))), ((rr 3), .inl (ct 3, 60, .inr (.inl f74))), (a76, .inl (ct 0, 4, .inl f76)), (a77, .inr (2, [.ref a12, .ref a78, .ref a80, .ref a81, .int (ur16.1 0), .int (ur16.1 1), .int (ur16.1 2), .int (ur16.1 3)])), (a78, .inr (0, [.ref a79, .int (ur16.1 4)])), (a79, .inl (ct 0, 8, .inl (ur16.2.1 0))), (a80, .inl (ct 0, 8, .inl (ur16.2.1 1))), (a81, .inl (ct 0, 8, .inl f81))] H := hP.sub [3, 0, 4, 5, 6, 7, 8, 1, 2, 9, 10, 11, 12, 13, 14, 15, 16, 17, 18, 19, 20] rfl
    have hD : va_D A [(a0, .inr (10, [.ref a1, .ref a3, .ref a11, .ref a25, .ref a68, .ref a69, .ref a77, .ref a82, .ref a84, .ref a88, .ref a91])), (a11, .inr (4, [.ref a12, .ref a19, .ref a24, .int n11_3])), (a12, .inr (9, [.ref a13, .ref a15, .ref a16, .ref a17, .ref a18, .int n12_5, .int n12_6])), (a13, .inr (0, [.ref a14, .int n13_1])), (a14, .inl (ct 0, 8, .inl f14)), (a16, .inl (ct 0, 8, .inl f16)), (a18, .inl (ct 0, 8, .inl f18)), (a19, .inr (2, [.ref a12, .ref a20, .ref a22, .ref a23, .int n19_4, .int n19_5, .int n19_6, .int n19_7])), (a20, .inr (0, [.ref a21, .int n20_1])), (a69, .inr (6, [.ref a70, .ref a75, .ref a76, .int n69_3])), (a70, .inl (ct 5, 4, .inr (.inr (.inr (.inr (fun i => if i < 4 then some (rr i) else none)))))), ((rr 0), .inl (ct 3, 60, .inr (.inl f71))), ((rr 1), .inl (ct 3, 60, .inr (.inl f72))), ((rr 2), .inl (ct 3, 60, .inr (.inl f73))), ((rr 3), .inl (ct 3, 60, .inr (.inl f74))), (a76, .inl (ct 0, 4, .inl f76)), (a77, .inr (2, [.ref a12, .ref a78, .ref a80, .ref a81, .int (ur16.1 0), .int (ur16.1 1), .int (ur16.1 2), .int (ur16.1 3)])), (a78, .inr (0, [.ref a79, .int (ur16.1 4)])), (a79, .inl (ct 0, 8, .inl (ur16.2.1 0))), (a80, .inl (ct 0, 8, .inl (ur16.2.1 1))), (a81, .inl (ct 0, 8, .inl f81))] := hD.sub [3, 0, 4, 5, 6, 7, 8, 1, 2, 9, 10, 11, 12, 13, 14, 15, 16, 17, 18, 19, 20] (by decide) rfl
    obtain ⟨p_9, p_10, p_11, p_12, -⟩ := wr16
    exact W.iret (v := r16) hx hb hr (fun t ht hW => ⟨⟨r16, (fun k => ([ur16.1 0, ur16.1 1, ur16.1 2, ur16.1 3, ur16.1 4] : List Int32).getD k 0, fun k => ([ur16.2.1 0, ur16.2.1 1] : List (Nat → Int32)).getD k (fun _ => 0), fun k => ([] : List (Nat → Int64)).getD k (fun _ => 0)), rfl, ⟨(rg_w (c := (-6)) (d := 20) p_9 (by decide)), (fun _ => h_7), (fun _ => h_7), (fun _ => h_8), (fun _ => h_8), p_12, trivial⟩, hp_at ht hP⟩, hS.F ht⟩) hS.2.2 dX10_judge_19
  · have h_13 : rg (-6) (-1) r2 := r_ne_hi_i c7 p_1 (by decide) (by decide)
    refine lv_iload_n hx hb dX10_judge_10 rfl (lv_at hl 0 rfl) ?_
    refine lv_goto (tgt := 19) hx hb dX10_judge_11 (by decide) ?_
    exact W.iret (v := r2) hx hb hr (fun t ht hW => ⟨⟨r2, (fun k => ([n77_4, n77_5, n77_6, n77_7, n78_1] : List Int32).getD k 0, fun k => ([f79, f80] : List (Nat → Int32)).getD k (fun _ => 0), fun k => ([] : List (Nat → Int64)).getD k (fun _ => 0)), rfl, ⟨(rg_w (c := (-6)) (d := 20) h_13 (by decide)), (fun hq => rg_w (p_2 hq) (by decide)), (fun hq => rg_w (p_3 hq) (by decide)), (fun hq => rg_w (p_4 hq) (by decide)), (fun hq => rg_w (p_5 hq) (by decide)), hp_n78_1, trivial⟩, hp_at ht hP⟩, hS.F ht⟩) hS.2.2 dX10_judge_19

set_option maxHeartbeats 4000000 in
set_option maxRecDepth 100000 in
theorem a_X10_freed (l : Launch) (G : va_G) (ct : Nat → ClassId) (a0 : Nat) (a1 : Nat) (a3 : Nat) (a11 : Nat) (a25 : Nat) (a68 : Nat) (a69 : Nat) (a77 : Nat) (a82 : Nat) (a84 : Nat) (a88 : Nat) (a91 : Nat) (a12 : Nat) (a19 : Nat) (a24 : Nat) (n11_3 : Int32) (a13 : Nat) (a15 : Nat) (a16 : Nat) (a17 : Nat) (a18 : Nat) (n12_5 : Int32) (n12_6 : Int32) (a14 : Nat) (n13_1 : Int32) (f14 : Nat → Int32) (f16 : Nat → Int32) (f18 : Nat → Int32) (a20 : Nat) (a22 : Nat) (a23 : Nat) (n19_4 : Int32) (n19_5 : Int32) (n19_6 : Int32) (n19_7 : Int32) (a21 : Nat) (n20_1 : Int32) (a70 : Nat) (a75 : Nat) (a76 : Nat) (n69_3 : Int32) (rr : Nat → Nat) (f71 : Nat → Int64) (f72 : Nat → Int64) (f73 : Nat → Int64) (f74 : Nat → Int64) (f76 : Nat → Int32) (a78 : Nat) (a80 : Nat) (a81 : Nat) (n77_4 : Int32) (n77_5 : Int32) (n77_6 : Int32) (n77_7 : Int32) (a79 : Nat) (n78_1 : Int32) (f79 : Nat → Int32) (f80 : Nat → Int32) (f81 : Nat → Int32) (p0 : Int32) (hp_n13_1 : rg 0 8 n13_1) (hp_n20_1 : rg 0 8 n20_1) (hp_f76 : ar 0 60 f76) (hp_n78_1 : rg 0 8 n78_1) : Met l yX10_freed wsX10_freed ({ frames := 6, cells := 0, slots := 0, locals := 140 }) (va_Pc [.ref a0, .int p0] (wrP G ct [(a0, .inr (10, [.ref a1, .ref a3, .ref a11, .ref a25, .ref a68, .ref a69, .ref a77, .ref a82, .ref a84, .ref a88, .ref a91])), (a11, .inr (4, [.ref a12, .ref a19, .ref a24, .int n11_3])), (a12, .inr (9, [.ref a13, .ref a15, .ref a16, .ref a17, .ref a18, .int n12_5, .int n12_6])), (a13, .inr (0, [.ref a14, .int n13_1])), (a14, .inl (ct 0, 8, .inl f14)), (a16, .inl (ct 0, 8, .inl f16)), (a18, .inl (ct 0, 8, .inl f18)), (a19, .inr (2, [.ref a12, .ref a20, .ref a22, .ref a23, .int n19_4, .int n19_5, .int n19_6, .int n19_7])), (a20, .inr (0, [.ref a21, .int n20_1])), (a69, .inr (6, [.ref a70, .ref a75, .ref a76, .int n69_3])), (a70, .inl (ct 5, 4, .inr (.inr (.inr (.inr (fun i => if i < 4 then some (rr i) else none)))))), ((rr 0), .inl (ct 3, 60, .inr (.inl f71))), ((rr 1), .inl (ct 3, 60, .inr (.inl f72))), ((rr 2), .inl (ct 3, 60, .inr (.inl f73))), ((rr 3), .inl (ct 3, 60, .inr (.inl f74))), (a76, .inl (ct 0, 4, .inl f76)), (a77, .inr (2, [.ref a12, .ref a78, .ref a80, .ref a81, .int n77_4, .int n77_5, .int n77_6, .int n77_7])), (a78, .inr (0, [.ref a79, .int n78_1])), (a79, .inl (ct 0, 8, .inl f79)), (a80, .inl (ct 0, 8, .inl f80)), (a81, .inl (ct 0, 8, .inl f81))])) (va_Qi (fun (r : Int32) (u : SU) => rg (-6) 255 r ∧ (r = 0 → rg 0 3 p0) ∧ (¬ r = (-2) → rg 0 3 p0) ∧ (r = 0 → rg 1 2147483647 n12_5) ∧ (¬ r = (-2) → rg 1 2147483647 n12_5) ∧ rg 0 8 (u.1 4) ∧ True) (fun u t => va_P G vwCl ((fun u : SU => [(a0, .inr (10, [.ref a1, .ref a3, .ref a11, .ref a25, .ref a68, .ref a69, .ref a77, .ref a82, .ref a84, .ref a88, .ref a91])), (a11, .inr (4, [.ref a12, .ref a19, .ref a24, .int n11_3])), (a12, .inr (9, [.ref a13, .ref a15, .ref a16, .ref a17, .ref a18, .int n12_5, .int n12_6])), (a13, .inr (0, [.ref a14, .int n13_1])), (a14, .inl (ct 0, 8, .inl f14)), (a16, .inl (ct 0, 8, .inl f16)), (a18, .inl (ct 0, 8, .inl f18)), (a19, .inr (2, [.ref a12, .ref a20, .ref a22, .ref a23, .int n19_4, .int n19_5, .int n19_6, .int n19_7])), (a20, .inr (0, [.ref a21, .int n20_1])), (a69, .inr (6, [.ref a70, .ref a75, .ref a76, .int n69_3])), (a70, .inl (ct 5, 4, .inr (.inr (.inr (.inr (fun i => if i < 4 then some (rr i) else none)))))), ((rr 0), .inl (ct 3, 60, .inr (.inl f71))), ((rr 1), .inl (ct 3, 60, .inr (.inl f72))), ((rr 2), .inl (ct 3, 60, .inr (.inl f73))), ((rr 3), .inl (ct 3, 60, .inr (.inl f74))), (a76, .inl (ct 0, 4, .inl f76)), (a77, .inr (2, [.ref a12, .ref a78, .ref a80, .ref a81, .int (u.1 0), .int (u.1 1), .int (u.1 2), .int (u.1 3)])), (a78, .inr (0, [.ref a79, .int (u.1 4)])), (a79, .inl (ct 0, 8, .inl (u.2.1 0))), (a80, .inl (ct 0, 8, .inl (u.2.1 1))), (a81, .inl (ct 0, 8, .inl f81))]) u) t.heap) (aset [(a0, .inr (10, [.ref a1, .ref a3, .ref a11, .ref a25, .ref a68, .ref a69, .ref a77, .ref a82, .ref a84, .ref a88, .ref a91])), (a11, .inr (4, [.ref a12, .ref a19, .ref a24, .int n11_3])), (a12, .inr (9, [.ref a13, .ref a15, .ref a16, .ref a17, .ref a18, .int n12_5, .int n12_6])), (a13, .inr (0, [.ref a14, .int n13_1])), (a14, .inl (ct 0, 8, .inl f14)), (a16, .inl (ct 0, 8, .inl f16)), (a18, .inl (ct 0, 8, .inl f18)), (a19, .inr (2, [.ref a12, .ref a20, .ref a22, .ref a23, .int n19_4, .int n19_5, .int n19_6, .int n19_7])), (a20, .inr (0, [.ref a21, .int n20_1])), (a69, .inr (6, [.ref a70, .ref a75, .ref a76, .int n69_3])), (a70, .inl (ct 5, 4, .inr (.inr (.inr (.inr (fun i => if i < 4 then some (rr i) else none)))))), ((rr 0), .inl (ct 3, 60, .inr (.inl f71))), ((rr 1), .inl (ct 3, 60, .inr (.inl f72))), ((rr 2), .inl (ct 3, 60, .inr (.inl f73))), ((rr 3), .inl (ct 3, 60, .inr (.inl f74))), (a76, .inl (ct 0, 4, .inl f76)), (a77, .inr (2, [.ref a12, .ref a78, .ref a80, .ref a81, .int n77_4, .int n77_5, .int n77_6, .int n77_7])), (a78, .inr (0, [.ref a79, .int n78_1])), (a79, .inl (ct 0, 8, .inl f79)), (a80, .inl (ct 0, 8, .inl f80)), (a81, .inl (ct 0, 8, .inl f81))])) 0 0 (aset [(a0, .inr (10, [.ref a1, .ref a3, .ref a11, .ref a25, .ref a68, .ref a69, .ref a77, .ref a82, .ref a84, .ref a88, .ref a91])), (a11, .inr (4, [.ref a12, .ref a19, .ref a24, .int n11_3])), (a12, .inr (9, [.ref a13, .ref a15, .ref a16, .ref a17, .ref a18, .int n12_5, .int n12_6])), (a13, .inr (0, [.ref a14, .int n13_1])), (a14, .inl (ct 0, 8, .inl f14)), (a16, .inl (ct 0, 8, .inl f16)), (a18, .inl (ct 0, 8, .inl f18)), (a19, .inr (2, [.ref a12, .ref a20, .ref a22, .ref a23, .int n19_4, .int n19_5, .int n19_6, .int n19_7])), (a20, .inr (0, [.ref a21, .int n20_1])), (a69, .inr (6, [.ref a70, .ref a75, .ref a76, .int n69_3])), (a70, .inl (ct 5, 4, .inr (.inr (.inr (.inr (fun i => if i < 4 then some (rr i) else none)))))), ((rr 0), .inl (ct 3, 60, .inr (.inl f71))), ((rr 1), .inl (ct 3, 60, .inr (.inl f72))), ((rr 2), .inl (ct 3, 60, .inr (.inl f73))), ((rr 3), .inl (ct 3, 60, .inr (.inl f74))), (a76, .inl (ct 0, 4, .inl f76)), (a77, .inr (2, [.ref a12, .ref a78, .ref a80, .ref a81, .int n77_4, .int n77_5, .int n77_6, .int n77_7])), (a78, .inr (0, [.ref a79, .int n78_1])), (a79, .inl (ct 0, 8, .inl f79)), (a80, .inl (ct 0, 8, .inl f80)), (a81, .inl (ct 0, 8, .inl f81))]) := by
  refine Met.ofW (cc := cX10_freed) (maxL := 3) (ret := (some .int)) (by decide) rfl ?_
  intro p e s m args below meth c s₁ B hml hv
  obtain ⟨rfl, hP, hK, hD0⟩ := hv
  have hx := B.exec
  have hb := B.bytes
  have hr := B.returns
  have hts := atoms_spec (ws := wsX10_freed) B.pre
  have hown : s.vm.findClass RX10 = some m.cls := findClass_of_methodNamed B.named
  have hlocks := B.notSynchronized
  have hD := hD0.aself
  generalize hAe : aset [(a0, .inr (10, [.ref a1, .ref a3, .ref a11, .ref a25, .ref a68, .ref a69, .ref a77, .ref a82, .ref a84, .ref a88, .ref a91])), (a11, .inr (4, [.ref a12, .ref a19, .ref a24, .int n11_3])), (a12, .inr (9, [.ref a13, .ref a15, .ref a16, .ref a17, .ref a18, .int n12_5, .int n12_6])), (a13, .inr (0, [.ref a14, .int n13_1])), (a14, .inl (ct 0, 8, .inl f14)), (a16, .inl (ct 0, 8, .inl f16)), (a18, .inl (ct 0, 8, .inl f18)), (a19, .inr (2, [.ref a12, .ref a20, .ref a22, .ref a23, .int n19_4, .int n19_5, .int n19_6, .int n19_7])), (a20, .inr (0, [.ref a21, .int n20_1])), (a69, .inr (6, [.ref a70, .ref a75, .ref a76, .int n69_3])), (a70, .inl (ct 5, 4, .inr (.inr (.inr (.inr (fun i => if i < 4 then some (rr i) else none)))))), ((rr 0), .inl (ct 3, 60, .inr (.inl f71))), ((rr 1), .inl (ct 3, 60, .inr (.inl f72))), ((rr 2), .inl (ct 3, 60, .inr (.inl f73))), ((rr 3), .inl (ct 3, 60, .inr (.inl f74))), (a76, .inl (ct 0, 4, .inl f76)), (a77, .inr (2, [.ref a12, .ref a78, .ref a80, .ref a81, .int n77_4, .int n77_5, .int n77_6, .int n77_7])), (a78, .inr (0, [.ref a79, .int n78_1])), (a79, .inl (ct 0, 8, .inl f79)), (a80, .inl (ct 0, 8, .inl f80)), (a81, .inl (ct 0, 8, .inl f81))] = A at hD ⊢
  have hS : va_S A s.heap s.heap [] := va_S.rf
  have hl := lv_entry ([.ref a0, .int p0]) (n := 3) (Nat.le_of_ble_eq_true rfl)
  rw [lg_entry_eq]
  generalize (lg_sl ([.ref a0, .int p0]) ++ List.replicate (3 - (lg_sl ([.ref a0, .int p0])).length) Slot.unset).toArray = ls at hl ⊢
  have hl : lv_has ls 3 [(0, .ref a0), (1, .int p0)] := hl
  refine lv_aload_n hx hb dX10_freed_0 rfl (lv_at hl 0 rfl) ?_
  refine lv_iload_n hx hb dX10_freed_1 rfl (lv_at hl 1 rfl) ?_
  refine ro_calli (va_runV (As := [.int p0]) (rest := []) ⟨hx, hb, hml, hown, hts⟩ (a_X10_askingRowState l G ct a0 a1 a3 a11 a25 a68 a69 a77 a82 a84 a88 a91 a12 a19 a24 n11_3 a13 a15 a16 a17 a18 n12_5 n12_6 a20 a22 a23 n19_4 n19_5 n19_6 n19_7 a21 n20_1 a70 a75 a76 n69_3 rr f71 f72 f73 f74 f76 p0 hp_n20_1 hp_f76) (cwV 1 hts gX10_freed_X10_askingRowState rfl rfl rfl (by decide +kernel) ⟨Nat.le_of_ble_eq_true rfl, Nat.le_of_ble_eq_true rfl⟩) (ro_preV 10 0 hK (hP.sub [0, 1, 2, 7, 8, 9, 10, 11, 12, 13, 14, 15] rfl) rfl rfl) rfl rfl hl.1 rfl (lv_room (Nat.le_of_ble_eq_true rfl)) dX10_freed_2 ⟨Nat.zero_le _, Nat.zero_le _⟩) hS hP (fun r2 H locs wr2 hP hS => ?_)
  obtain ⟨p_1, p_2, p_3, p_4, p_5, -⟩ := wr2
  refine lv_istore_n (lv' := [(2, .int r2), (0, .ref a0), (1, .int p0)]) hx hb dX10_freed_5 rfl hl (by decide) rfl (fun ls hl => ?_)
  refine lv_iload_n hx hb dX10_freed_6 rfl (lv_at hl 0 rfl) ?_
  refine lv_if_eq (tgt := 12) hx hb dX10_freed_7 (by decide) (fun c7 => ?_) (fun c7 => ?_)
  · have h_6 : rg 0 0 r2 := r_eq_l_i (e := 0) (f := 0) c7 p_1 (rgn 0 (x := 0) (by decide)) (by decide)
    have h_7 : rg 0 3 p0 := (p_2 (req h_6 (y := 0) (by decide)))
    have h_8 : rg 1 2147483647 n12_5 := (p_4 (req h_6 (y := 0) (by decide)))
    refine lv_aload_n hx hb dX10_freed_12 rfl (lv_at hl 1 rfl) ?_
    refine lv_iload_n hx hb dX10_freed_13 rfl (lv_at hl 2 rfl) ?_
    refine wj_calli (wr := [(a11, .inr (4, [.ref a12, .ref a19, .ref a24, .int n11_3])), (a19, .inr (2, [.ref a12, .ref a20, .ref a22, .ref a23, .int n19_4, .int n19_5, .int n19_6, .int n19_7])), (a20, .inr (0, [.ref a21, .int n20_1]))]) (w1 := (fun u : SU => [(a0, .inr (10, [.ref a1, .ref a3, .ref a11, .ref a25, .ref a68, .ref a69, .ref a77, .ref a82, .ref a84, .ref a88, .ref a91])), (a12, .inr (9, [.ref a13, .ref a15, .ref a16, .ref a17, .ref a18, .int n12_5, .int n12_6])), (a13, .inr (0, [.ref a14, .int n13_1])), (a14, .inl (ct 0, 8, .inl f14)), (a16, .inl (ct 0, 8, .inl f16)), (a18, .inl (ct 0, 8, .inl f18)), (a69, .inr (6, [.ref a70, .ref a75, .ref a76, .int n69_3])), (a70, .inl (ct 5, 4, .inr (.inr (.inr (.inr (fun i => if i < 4 then some (rr i) else none)))))), ((rr 0), .inl (ct 3, 60, .inr (.inl f71))), ((rr 1), .inl (ct 3, 60, .inr (.inl f72))), ((rr 2), .inl (ct 3, 60, .inr (.inl f73))), ((rr 3), .inl (ct 3, 60, .inr (.inl f74))), (a76, .inl (ct 0, 4, .inl f76)), (a77, .inr (2, [.ref a12, .ref a78, .ref a80, .ref a81, .int (u.1 0), .int (u.1 1), .int (u.1 2), .int (u.1 3)])), (a78, .inr (0, [.ref a79, .int (u.1 4)])), (a79, .inl (ct 0, 8, .inl (u.2.1 0))), (a80, .inl (ct 0, 8, .inl (u.2.1 1))), (a81, .inl (ct 0, 8, .inl f81))])) (va_runV (As := [.int p0]) (rest := []) ⟨hx, hb, hml, hown, hts⟩ (a_X10_runTrial l G ct a0 a1 a3 a11 a25 a68 a69 a77 a82 a84 a88 a91 a12 a13 a15 a16 a17 a18 n12_5 n12_6 a14 n13_1 f14 f16 f18 a70 a75 a76 n69_3 rr f71 f72 f73 f74 f76 a78 a80 a81 n77_4 n77_5 n77_6 n77_7 a79 n78_1 f79 f80 f81 p0 hp_n13_1 hp_f76 hp_n78_1) (cwV 1 hts gX10_freed_X10_runTrial rfl rfl rfl (by decide +kernel) ⟨Nat.le_of_ble_eq_true rfl, Nat.le_of_ble_eq_true rfl⟩) (wr_preV 10 0 hK (hP.sub [0, 2, 3, 4, 5, 6, 9, 10, 11, 12, 13, 14, 15, 16, 17, 18, 19, 20] rfl) (hD.sub [0, 2, 3, 4, 5, 6, 9, 10, 11, 12, 13, 14, 15, 16, 17, 18, 19, 20] (by decide) rfl) rfl rfl) rfl rfl hl.1 rfl (lv_room (Nat.le_of_ble_eq_true rfl)) dX10_freed_14 ⟨Nat.zero_le _, Nat.zero_le _⟩) hS hP hD [0, 2, 3, 4, 5, 6, 9, 10, 11, 12, 13, 14, 15, 16, 17, 18, 19, 20] [1, 7, 8] rfl rfl (by decide) (fun _ => rfl) (fun r14 ur14 H locs wr14 hP hD hS => ?_)
    have hP : va_P G vwCl [(a0, .inr (10, [.ref a1, .ref a3, .ref a11, .ref a25, .ref a68, .ref a69, .ref a77, .ref a82, .ref a84, .ref a88, .ref a91])), (a11, .inr (4, [.ref a12, .ref a19, .ref a24, .int n11_3])), (a12, .inr (9, [.ref a13, .ref a15, .ref a16, .ref a17, .ref a18, .int n12_5, .int n12_6])), (a13, .inr (0, [.ref a14, .int n13_1])), (a14, .inl (ct 0, 8, .inl f14)), (a16, .inl (ct 0, 8, .inl f16)), (a18, .inl (ct 0, 8, .inl f18)), (a19, .inr (2, [.ref a12, .ref a20, .ref a22, .ref a23, .int n19_4, .int n19_5, .int n19_6, .int n19_7])), (a20, .inr (0, [.ref a21, .int n20_1])), (a69, .inr (6, [.ref a70, .ref a75, .ref a76, .int n69_3])), (a70, .inl (ct 5, 4, .inr (.inr (.inr (.inr (fun i => if i < 4 then some (rr i) else none)))))), ((rr 0), .inl (ct 3, 60, .inr (.inl f71))), ((rr 1), .inl (ct 3, 60, .inr (.inl f72))), ((rr 2), .inl (ct 3, 60, .inr (.inl f73))), ((rr 3), .inl (ct 3, 60, .inr (.inl f74))), (a76, .inl (ct 0, 4, .inl f76)), (a77, .inr (2, [.ref a12, .ref a78, .ref a80, .ref a81, .int (ur14.1 0), .int (ur14.1 1), .int (ur14.1 2), .int (ur14.1 3)])), (a78, .inr (0, [.ref a79, .int (ur14.1 4)])), (a79, .inl (ct 0, 8, .inl (ur14.2.1 0))), (a80, .inl (ct 0, 8, .inl (ur14.2.1 1))), (a81, .inl (ct 0, 8, .inl f81))] H := hP.sub [3, 0, 4, 5, 6, 7, 8, 1, 2, 9, 10, 11, 12, 13, 14, 15, 16, 17, 18, 19, 20] rfl
    have hD : va_D A [(a0, .inr (10, [.ref a1, .ref a3, .ref a11, .ref a25, .ref a68, .ref a69, .ref a77, .ref a82, .ref a84, .ref a88, .ref a91])), (a11, .inr (4, [.ref a12, .ref a19, .ref a24, .int n11_3])), (a12, .inr (9, [.ref a13, .ref a15, .ref a16, .ref a17, .ref a18, .int n12_5, .int n12_6])), (a13, .inr (0, [.ref a14, .int n13_1])), (a14, .inl (ct 0, 8, .inl f14)), (a16, .inl (ct 0, 8, .inl f16)), (a18, .inl (ct 0, 8, .inl f18)), (a19, .inr (2, [.ref a12, .ref a20, .ref a22, .ref a23, .int n19_4, .int n19_5, .int n19_6, .int n19_7])), (a20, .inr (0, [.ref a21, .int n20_1])), (a69, .inr (6, [.ref a70, .ref a75, .ref a76, .int n69_3])), (a70, .inl (ct 5, 4, .inr (.inr (.inr (.inr (fun i => if i < 4 then some (rr i) else none)))))), ((rr 0), .inl (ct 3, 60, .inr (.inl f71))), ((rr 1), .inl (ct 3, 60, .inr (.inl f72))), ((rr 2), .inl (ct 3, 60, .inr (.inl f73))), ((rr 3), .inl (ct 3, 60, .inr (.inl f74))), (a76, .inl (ct 0, 4, .inl f76)), (a77, .inr (2, [.ref a12, .ref a78, .ref a80, .ref a81, .int (ur14.1 0), .int (ur14.1 1), .int (ur14.1 2), .int (ur14.1 3)])), (a78, .inr (0, [.ref a79, .int (ur14.1 4)])), (a79, .inl (ct 0, 8, .inl (ur14.2.1 0))), (a80, .inl (ct 0, 8, .inl (ur14.2.1 1))), (a81, .inl (ct 0, 8, .inl f81))] := hD.sub [3, 0, 4, 5, 6, 7, 8, 1, 2, 9, 10, 11, 12, 13, 14, 15, 16, 17, 18, 19, 20] (by decide) rfl
    obtain ⟨p_9, p_10, p_11, p_12, -⟩ := wr14
    refine lv_pop hx hb dX10_freed_17 rfl ?_
    refine lv_aload_n hx hb dX10_freed_18 rfl (lv_at hl 1 rfl) ?_
    refine va_get (D := G) (ci := 10) (v := .ref a77) (C := RX10) (T := TX10) (N := 11) hx hb hts (by decide +kernel) hown hK.1 hP 0 rfl rfl 6 (by decide) (hts (.fieldLink RX10 56 "CardHolder" "trial" "LCardHolder$Hands;") (by decide +kernel)) (fun _ h9 => h9) rfl dX10_freed_19 ?_
    refine va_get (D := G) (ci := 2) (v := .ref a78) (C := RX2) (T := TX2) (N := 8) hx hb hts (by decide +kernel) hown hK.1 hP 16 rfl rfl 1 (by decide) (hts (.fieldLink RX10 366 "CardHolder$Hands" "bonds" "LCardHolder$Bonds;") (by decide +kernel)) (fun _ h9 => h9) rfl dX10_freed_22 ?_
    refine ro_calli (va_runV (As := []) (rest := []) ⟨hx, hb, hml, hown, hts⟩ (a_X0_freeOnes l G ct a78 a79 (ur14.1 4) (ur14.2.1 0) p_12) (cwV 0 hts gX10_freed_X0_freeOnes rfl rfl rfl (by decide +kernel) ⟨Nat.le_of_ble_eq_true rfl, Nat.le_of_ble_eq_true rfl⟩) (ro_preV 0 0 hK (hP.sub [17, 18] rfl) rfl rfl) rfl rfl hl.1 rfl (lv_room (Nat.le_of_ble_eq_true rfl)) dX10_freed_25 ⟨Nat.zero_le _, Nat.zero_le _⟩) hS hP (fun r25 H locs wr25 hP hS => ?_)
    obtain ⟨p_13, -⟩ := wr25
    exact W.iret (v := r25) hx hb hr (fun t ht hW => ⟨⟨r25, (fun k => ([ur14.1 0, ur14.1 1, ur14.1 2, ur14.1 3, ur14.1 4] : List Int32).getD k 0, fun k => ([ur14.2.1 0, ur14.2.1 1] : List (Nat → Int32)).getD k (fun _ => 0), fun k => ([] : List (Nat → Int64)).getD k (fun _ => 0)), rfl, ⟨(rg_w (c := (-6)) (d := 255) p_13 (by decide)), (fun _ => h_7), (fun _ => h_7), (fun _ => h_8), (fun _ => h_8), p_12, trivial⟩, hp_at ht hP⟩, hS.F ht⟩) hS.2.2 dX10_freed_28
  · have h_14 : rg (-6) (-1) r2 := r_ne_hi_i c7 p_1 (by decide) (by decide)
    refine lv_iload_n hx hb dX10_freed_10 rfl (lv_at hl 0 rfl) ?_
    exact W.iret (v := r2) hx hb hr (fun t ht hW => ⟨⟨r2, (fun k => ([n77_4, n77_5, n77_6, n77_7, n78_1] : List Int32).getD k 0, fun k => ([f79, f80] : List (Nat → Int32)).getD k (fun _ => 0), fun k => ([] : List (Nat → Int64)).getD k (fun _ => 0)), rfl, ⟨(rg_w (c := (-6)) (d := 255) h_14 (by decide)), (fun hq => rg_w (p_2 hq) (by decide)), (fun hq => rg_w (p_3 hq) (by decide)), (fun hq => rg_w (p_4 hq) (by decide)), (fun hq => rg_w (p_5 hq) (by decide)), hp_n78_1, trivial⟩, hp_at ht hP⟩, hS.F ht⟩) hS.2.2 dX10_freed_11

set_option maxHeartbeats 4000000 in
set_option maxRecDepth 100000 in
theorem a_X10_drawn (l : Launch) (G : va_G) (ct : Nat → ClassId) (a0 : Nat) (a1 : Nat) (a3 : Nat) (a11 : Nat) (a25 : Nat) (a68 : Nat) (a69 : Nat) (a77 : Nat) (a82 : Nat) (a84 : Nat) (a88 : Nat) (a91 : Nat) (a12 : Nat) (a19 : Nat) (a24 : Nat) (n11_3 : Int32) (a20 : Nat) (a22 : Nat) (a23 : Nat) (n19_4 : Int32) (n19_5 : Int32) (n19_6 : Int32) (n19_7 : Int32) (a21 : Nat) (n20_1 : Int32) (a85 : Nat) (a87 : Nat) (l84_2 : Int64) (a86 : Nat) (n85_1 : Int32) (f86 : Nat → Int32) (f87 : Nat → Int32) (p0 : Int32) (p1 : Int32) (hp_n20_1 : rg 0 8 n20_1) (hp_n85_1 : rg 0 8 n85_1) : Met l yX10_drawn wsX10_drawn ({ frames := 3, cells := 0, slots := 0, locals := 85 }) (va_Pc [.ref a0, .int p0, .int p1] (wrP G ct [(a0, .inr (10, [.ref a1, .ref a3, .ref a11, .ref a25, .ref a68, .ref a69, .ref a77, .ref a82, .ref a84, .ref a88, .ref a91])), (a11, .inr (4, [.ref a12, .ref a19, .ref a24, .int n11_3])), (a19, .inr (2, [.ref a12, .ref a20, .ref a22, .ref a23, .int n19_4, .int n19_5, .int n19_6, .int n19_7])), (a20, .inr (0, [.ref a21, .int n20_1])), (a84, .inr (7, [.ref a85, .ref a87, .long l84_2])), (a85, .inr (0, [.ref a86, .int n85_1])), (a86, .inl (ct 0, 8, .inl f86)), (a87, .inl (ct 0, 8, .inl f87))])) (va_Qi (fun (r : Int32) (u : SU) => (r = 0 → rg 0 2000000000 p0) ∧ (r = (-1) → rg 0 2000000000 p0) ∧ (¬ r = (-2) → rg 0 2000000000 p0) ∧ (r = 0 → rg 0 7 p1) ∧ (r = (-1) → rg 0 7 p1) ∧ (¬ r = (-2) → rg 0 7 p1) ∧ (r = 0 → rg 1 8 n20_1) ∧ (r = (-1) → rg 1 8 n20_1) ∧ (¬ r = (-2) → rg 1 8 n20_1) ∧ rg 0 8 (u.1 0) ∧ True) (fun u t => va_P G vwCl ((fun u : SU => [(a0, .inr (10, [.ref a1, .ref a3, .ref a11, .ref a25, .ref a68, .ref a69, .ref a77, .ref a82, .ref a84, .ref a88, .ref a91])), (a11, .inr (4, [.ref a12, .ref a19, .ref a24, .int n11_3])), (a19, .inr (2, [.ref a12, .ref a20, .ref a22, .ref a23, .int n19_4, .int n19_5, .int n19_6, .int n19_7])), (a20, .inr (0, [.ref a21, .int n20_1])), (a84, .inr (7, [.ref a85, .ref a87, .long (u.2.2 0 0)])), (a85, .inr (0, [.ref a86, .int (u.1 0)])), (a86, .inl (ct 0, 8, .inl (u.2.1 0))), (a87, .inl (ct 0, 8, .inl (u.2.1 1)))]) u) t.heap) (aset [(a0, .inr (10, [.ref a1, .ref a3, .ref a11, .ref a25, .ref a68, .ref a69, .ref a77, .ref a82, .ref a84, .ref a88, .ref a91])), (a11, .inr (4, [.ref a12, .ref a19, .ref a24, .int n11_3])), (a19, .inr (2, [.ref a12, .ref a20, .ref a22, .ref a23, .int n19_4, .int n19_5, .int n19_6, .int n19_7])), (a20, .inr (0, [.ref a21, .int n20_1])), (a84, .inr (7, [.ref a85, .ref a87, .long l84_2])), (a85, .inr (0, [.ref a86, .int n85_1])), (a86, .inl (ct 0, 8, .inl f86)), (a87, .inl (ct 0, 8, .inl f87))])) 0 0 (aset [(a0, .inr (10, [.ref a1, .ref a3, .ref a11, .ref a25, .ref a68, .ref a69, .ref a77, .ref a82, .ref a84, .ref a88, .ref a91])), (a11, .inr (4, [.ref a12, .ref a19, .ref a24, .int n11_3])), (a19, .inr (2, [.ref a12, .ref a20, .ref a22, .ref a23, .int n19_4, .int n19_5, .int n19_6, .int n19_7])), (a20, .inr (0, [.ref a21, .int n20_1])), (a84, .inr (7, [.ref a85, .ref a87, .long l84_2])), (a85, .inr (0, [.ref a86, .int n85_1])), (a86, .inl (ct 0, 8, .inl f86)), (a87, .inl (ct 0, 8, .inl f87))]) := by
  refine Met.ofW (cc := cX10_drawn) (maxL := 3) (ret := (some .int)) (by decide) rfl ?_
  intro p e s m args below meth c s₁ B hml hv
  obtain ⟨rfl, hP, hK, hD0⟩ := hv
  have hx := B.exec
  have hb := B.bytes
  have hr := B.returns
  have hts := atoms_spec (ws := wsX10_drawn) B.pre
  have hown : s.vm.findClass RX10 = some m.cls := findClass_of_methodNamed B.named
  have hlocks := B.notSynchronized
  have hD := hD0.aself
  generalize hAe : aset [(a0, .inr (10, [.ref a1, .ref a3, .ref a11, .ref a25, .ref a68, .ref a69, .ref a77, .ref a82, .ref a84, .ref a88, .ref a91])), (a11, .inr (4, [.ref a12, .ref a19, .ref a24, .int n11_3])), (a19, .inr (2, [.ref a12, .ref a20, .ref a22, .ref a23, .int n19_4, .int n19_5, .int n19_6, .int n19_7])), (a20, .inr (0, [.ref a21, .int n20_1])), (a84, .inr (7, [.ref a85, .ref a87, .long l84_2])), (a85, .inr (0, [.ref a86, .int n85_1])), (a86, .inl (ct 0, 8, .inl f86)), (a87, .inl (ct 0, 8, .inl f87))] = A at hD ⊢
  have hS : va_S A s.heap s.heap [] := va_S.rf
  have hl := lv_entry ([.ref a0, .int p0, .int p1]) (n := 3) (Nat.le_of_ble_eq_true rfl)
  rw [lg_entry_eq]
  generalize (lg_sl ([.ref a0, .int p0, .int p1]) ++ List.replicate (3 - (lg_sl ([.ref a0, .int p0, .int p1])).length) Slot.unset).toArray = ls at hl ⊢
  have hl : lv_has ls 3 [(0, .ref a0), (1, .int p0), (2, .int p1)] := hl
  refine lv_iload_n hx hb dX10_drawn_0 rfl (lv_at hl 1 rfl) ?_
  refine ro_calli (va_runS (As := [.int p0]) (rest := []) ⟨hx, hb, hml, hown, hts⟩ (a_X10_isSeed l G ct p0) (va_cwS 1 hts gX10_drawn_X10_isSeed rfl rfl rfl (by decide +kernel) ⟨Nat.le_of_ble_eq_true rfl, Nat.le_of_ble_eq_true rfl⟩) (ro_pre hK (hP.sub [] rfl)) rfl rfl hl.1 rfl (lv_room (Nat.le_of_ble_eq_true rfl)) dX10_drawn_1 ⟨Nat.zero_le _, Nat.zero_le _⟩) hS hP (fun r1 H locs wr1 hP hS => ?_)
  obtain ⟨p_1, p_2, -⟩ := wr1
  refine lv_if_eq (tgt := 15) hx hb dX10_drawn_4 (by decide) (fun c4 => ?_) (fun c4 => ?_)
  · have h_3 : rg 0 0 r1 := r_eq_l_i (e := 0) (f := 0) c4 p_1 (rgn 0 (x := 0) (by decide)) (by decide)
    refine lv_bipush (v := (-2)) hx hb dX10_drawn_15 (by decide) ?_
    exact W.iret (v := (-2)) hx hb hr (fun t ht hW => ⟨⟨(-2), (fun k => ([n85_1] : List Int32).getD k 0, fun k => ([f86, f87] : List (Nat → Int32)).getD k (fun _ => 0), fun k => ([fun _ => l84_2] : List (Nat → Int64)).getD k (fun _ => 0)), rfl, ⟨(fun hq => absurd hq (rne (rgn (-2) (x := (-2)) (by decide)) (y := 0) (c := 0) (by decide) (by decide))), (fun hq => absurd hq (rne (rgn (-2) (x := (-2)) (by decide)) (y := (-1)) (c := (-1)) (by decide) (by decide))), (fun hq => absurd (req (rgn (-2) (x := (-2)) (by decide)) (y := (-2)) (by decide)) hq), (fun hq => absurd hq (rne (rgn (-2) (x := (-2)) (by decide)) (y := 0) (c := 0) (by decide) (by decide))), (fun hq => absurd hq (rne (rgn (-2) (x := (-2)) (by decide)) (y := (-1)) (c := (-1)) (by decide) (by decide))), (fun hq => absurd (req (rgn (-2) (x := (-2)) (by decide)) (y := (-2)) (by decide)) hq), (fun hq => absurd hq (rne (rgn (-2) (x := (-2)) (by decide)) (y := 0) (c := 0) (by decide) (by decide))), (fun hq => absurd hq (rne (rgn (-2) (x := (-2)) (by decide)) (y := (-1)) (c := (-1)) (by decide) (by decide))), (fun hq => absurd (req (rgn (-2) (x := (-2)) (by decide)) (y := (-2)) (by decide)) hq), hp_n85_1, trivial⟩, hp_at ht hP⟩, hS.F ht⟩) hS.2.2 dX10_drawn_17
  · have h_4 : rg 1 1 r1 := r_ne_lo_i c4 p_1 (by decide) (by decide)
    have h_5 : rg 0 2000000000 p0 := (p_2 (rne h_4 (y := 0) (c := 0) (by decide) (by decide)))
    refine lv_aload_n hx hb dX10_drawn_7 rfl (lv_at hl 0 rfl) ?_
    refine lv_iload_n hx hb dX10_drawn_8 rfl (lv_at hl 2 rfl) ?_
    refine ro_calli (va_runV (As := [.int p1]) (rest := []) ⟨hx, hb, hml, hown, hts⟩ (a_X10_isPerson l G ct a0 a1 a3 a11 a25 a68 a69 a77 a82 a84 a88 a91 a12 a19 a24 n11_3 a20 a22 a23 n19_4 n19_5 n19_6 n19_7 a21 n20_1 p1 hp_n20_1) (cwV 1 hts gX10_drawn_X10_isPerson rfl rfl rfl (by decide +kernel) ⟨Nat.le_of_ble_eq_true rfl, Nat.le_of_ble_eq_true rfl⟩) (ro_preV 10 0 hK (hP.sub [0, 1, 2, 3] rfl) rfl rfl) rfl rfl hl.1 rfl (lv_room (Nat.le_of_ble_eq_true rfl)) dX10_drawn_9 ⟨Nat.zero_le _, Nat.zero_le _⟩) hS hP (fun r9 H locs wr9 hP hS => ?_)
    obtain ⟨p_6, p_7, p_8, -⟩ := wr9
    refine lv_if_ne (tgt := 18) hx hb dX10_drawn_12 (by decide) (fun c12 => ?_) (fun c12 => ?_)
    · have h_9 : rg 1 1 r9 := r_ne_lo_i c12 p_6 (by decide) (by decide)
      have h_10 : rg 0 7 p1 := (p_7 (rne h_9 (y := 0) (c := 0) (by decide) (by decide)))
      have h_11 : rg 1 8 n20_1 := (p_8 (rne h_9 (y := 0) (c := 0) (by decide) (by decide)))
      refine lv_aload_n hx hb dX10_drawn_18 rfl (lv_at hl 0 rfl) ?_
      refine va_get (D := G) (ci := 10) (v := .ref a84) (C := RX10) (T := TX10) (N := 11) hx hb hts (by decide +kernel) hown hK.1 hP 0 rfl rfl 8 (by decide) (hts (.fieldLink RX10 70 "CardHolder" "square" "LCardHolder$Square;") (by decide +kernel)) (fun _ h9 => h9) rfl dX10_drawn_19 ?_
      refine lv_iload_n hx hb dX10_drawn_22 rfl (lv_at hl 1 rfl) ?_
      refine lv_aload_n hx hb dX10_drawn_23 rfl (lv_at hl 0 rfl) ?_
      refine ro_callr (va_runV (As := []) (rest := [.int p0, .ref a84]) ⟨hx, hb, hml, hown, hts⟩ (a_X10_bonds l G ct a0 a1 a3 a11 a25 a68 a69 a77 a82 a84 a88 a91 a12 a19 a24 n11_3 a20 a22 a23 n19_4 n19_5 n19_6 n19_7) (cwV 0 hts gX10_drawn_X10_bonds rfl rfl rfl (by decide +kernel) ⟨Nat.le_of_ble_eq_true rfl, Nat.le_of_ble_eq_true rfl⟩) (ro_preV 10 0 hK (hP.sub [0, 1, 2] rfl) rfl rfl) rfl rfl hl.1 rfl (lv_room (Nat.le_of_ble_eq_true rfl)) dX10_drawn_24 ⟨Nat.zero_le _, Nat.zero_le _⟩) hS hP (fun H locs hP hS => ?_)
      refine va_get (D := G) (ci := 0) (v := .int n20_1) (C := RX0) (T := TX0) (N := 2) hx hb hts (by decide +kernel) hown hK.1 hP 3 rfl rfl 1 (by decide) (hts (.fieldLink RX10 238 "CardHolder$Bonds" "persons" "I") (by decide +kernel)) (fun _ h9 => h9) rfl dX10_drawn_27 ?_
      refine wj_callv (wr := [(a0, .inr (10, [.ref a1, .ref a3, .ref a11, .ref a25, .ref a68, .ref a69, .ref a77, .ref a82, .ref a84, .ref a88, .ref a91])), (a11, .inr (4, [.ref a12, .ref a19, .ref a24, .int n11_3])), (a19, .inr (2, [.ref a12, .ref a20, .ref a22, .ref a23, .int n19_4, .int n19_5, .int n19_6, .int n19_7])), (a20, .inr (0, [.ref a21, .int n20_1]))]) (w1 := (fun u : SU => [(a84, .inr (7, [.ref a85, .ref a87, .long (u.2.2 0 0)])), (a85, .inr (0, [.ref a86, .int (u.1 0)])), (a86, .inl (ct 0, 8, .inl (u.2.1 0))), (a87, .inl (ct 0, 8, .inl (u.2.1 1)))])) (va_runV (As := [.int p0, .int n20_1]) (rest := []) ⟨hx, hb, hml, hown, hts⟩ (a_X7_deal l G ct a84 a85 a87 l84_2 a86 n85_1 f86 f87 p0 n20_1 hp_n85_1 (rg_w (c := 0) (d := 8) h_11 (by decide))) (cwV 2 hts gX10_drawn_X7_deal rfl rfl rfl (by decide +kernel) ⟨Nat.le_of_ble_eq_true rfl, Nat.le_of_ble_eq_true rfl⟩) (wr_preV 7 0 hK (hP.sub [4, 5, 6, 7] rfl) (hD.sub [4, 5, 6, 7] (by decide) rfl) rfl rfl) rfl rfl hl.1 rfl (lv_room (Nat.le_of_ble_eq_true rfl)) dX10_drawn_30 ⟨Nat.zero_le _, Nat.zero_le _⟩) hS hP hD [4, 5, 6, 7] [0, 1, 2, 3] rfl rfl (by decide) (fun _ => rfl) (fun ur30 H locs wr30 hP hD hS => ?_)
      have hP : va_P G vwCl [(a0, .inr (10, [.ref a1, .ref a3, .ref a11, .ref a25, .ref a68, .ref a69, .ref a77, .ref a82, .ref a84, .ref a88, .ref a91])), (a11, .inr (4, [.ref a12, .ref a19, .ref a24, .int n11_3])), (a19, .inr (2, [.ref a12, .ref a20, .ref a22, .ref a23, .int n19_4, .int n19_5, .int n19_6, .int n19_7])), (a20, .inr (0, [.ref a21, .int n20_1])), (a84, .inr (7, [.ref a85, .ref a87, .long (ur30.2.2 0 0)])), (a85, .inr (0, [.ref a86, .int (ur30.1 0)])), (a86, .inl (ct 0, 8, .inl (ur30.2.1 0))), (a87, .inl (ct 0, 8, .inl (ur30.2.1 1)))] H := hP.sub [0, 1, 2, 3, 4, 5, 6, 7] rfl
      have hD : va_D A [(a0, .inr (10, [.ref a1, .ref a3, .ref a11, .ref a25, .ref a68, .ref a69, .ref a77, .ref a82, .ref a84, .ref a88, .ref a91])), (a11, .inr (4, [.ref a12, .ref a19, .ref a24, .int n11_3])), (a19, .inr (2, [.ref a12, .ref a20, .ref a22, .ref a23, .int n19_4, .int n19_5, .int n19_6, .int n19_7])), (a20, .inr (0, [.ref a21, .int n20_1])), (a84, .inr (7, [.ref a85, .ref a87, .long (ur30.2.2 0 0)])), (a85, .inr (0, [.ref a86, .int (ur30.1 0)])), (a86, .inl (ct 0, 8, .inl (ur30.2.1 0))), (a87, .inl (ct 0, 8, .inl (ur30.2.1 1)))] := hD.sub [0, 1, 2, 3, 4, 5, 6, 7] (by decide) rfl
      obtain ⟨p_12, p_13, -⟩ := wr30
      refine lv_aload_n hx hb dX10_drawn_33 rfl (lv_at hl 0 rfl) ?_
      refine va_get (D := G) (ci := 10) (v := .ref a84) (C := RX10) (T := TX10) (N := 11) hx hb hts (by decide +kernel) hown hK.1 hP 0 rfl rfl 8 (by decide) (hts (.fieldLink RX10 70 "CardHolder" "square" "LCardHolder$Square;") (by decide +kernel)) (fun _ h9 => h9) rfl dX10_drawn_34 ?_
      refine va_get (D := G) (ci := 7) (v := .ref a85) (C := RX7) (T := TX7) (N := 3) hx hb hts (by decide +kernel) hown hK.1 hP 4 rfl rfl 0 (by decide) (hts (.fieldLink RX10 374 "CardHolder$Square" "dealt" "LCardHolder$Bonds;") (by decide +kernel)) (fun _ h9 => h9) rfl dX10_drawn_37 ?_
      refine lv_iload_n hx hb dX10_drawn_40 rfl (lv_at hl 2 rfl) ?_
      refine ro_calli (va_runV (As := [.int p1]) (rest := []) ⟨hx, hb, hml, hown, hts⟩ (a_X0_holderOf l G ct a85 a86 (ur30.1 0) (ur30.2.1 0) p1 p_13) (cwV 1 hts gX10_drawn_X0_holderOf rfl rfl rfl (by decide +kernel) ⟨Nat.le_of_ble_eq_true rfl, Nat.le_of_ble_eq_true rfl⟩) (ro_preV 0 0 hK (hP.sub [5, 6] rfl) rfl rfl) rfl rfl hl.1 rfl (lv_room (Nat.le_of_ble_eq_true rfl)) dX10_drawn_41 ⟨Nat.zero_le _, Nat.zero_le _⟩) hS hP (fun r41 H locs wr41 hP hS => ?_)
      obtain ⟨p_14, p_15, p_16, p_17, -⟩ := wr41
      exact W.iret (v := r41) hx hb hr (fun t ht hW => ⟨⟨r41, (fun k => ([ur30.1 0] : List Int32).getD k 0, fun k => ([ur30.2.1 0, ur30.2.1 1] : List (Nat → Int32)).getD k (fun _ => 0), fun k => ([fun _ => ur30.2.2 0 0] : List (Nat → Int64)).getD k (fun _ => 0)), rfl, ⟨(fun _ => h_5), (fun _ => h_5), (fun _ => h_5), (fun _ => h_10), (fun _ => h_10), (fun _ => h_10), (fun _ => h_11), (fun _ => h_11), (fun _ => h_11), p_13, trivial⟩, hp_at ht hP⟩, hS.F ht⟩) hS.2.2 dX10_drawn_44
    · have h_18 : rg 0 0 r9 := r_eq_l_i (e := 0) (f := 0) c12 p_6 (rgn 0 (x := 0) (by decide)) (by decide)
      refine lv_bipush (v := (-2)) hx hb dX10_drawn_15 (by decide) ?_
      exact W.iret (v := (-2)) hx hb hr (fun t ht hW => ⟨⟨(-2), (fun k => ([n85_1] : List Int32).getD k 0, fun k => ([f86, f87] : List (Nat → Int32)).getD k (fun _ => 0), fun k => ([fun _ => l84_2] : List (Nat → Int64)).getD k (fun _ => 0)), rfl, ⟨(fun _ => h_5), (fun _ => h_5), (fun _ => h_5), (fun hq => absurd hq (rne (rgn (-2) (x := (-2)) (by decide)) (y := 0) (c := 0) (by decide) (by decide))), (fun hq => absurd hq (rne (rgn (-2) (x := (-2)) (by decide)) (y := (-1)) (c := (-1)) (by decide) (by decide))), (fun hq => absurd (req (rgn (-2) (x := (-2)) (by decide)) (y := (-2)) (by decide)) hq), (fun hq => absurd hq (rne (rgn (-2) (x := (-2)) (by decide)) (y := 0) (c := 0) (by decide) (by decide))), (fun hq => absurd hq (rne (rgn (-2) (x := (-2)) (by decide)) (y := (-1)) (c := (-1)) (by decide) (by decide))), (fun hq => absurd (req (rgn (-2) (x := (-2)) (by decide)) (y := (-2)) (by decide)) hq), hp_n85_1, trivial⟩, hp_at ht hP⟩, hS.F ht⟩) hS.2.2 dX10_drawn_17

set_option maxHeartbeats 4000000 in
set_option maxRecDepth 100000 in
theorem a_X10_luck (l : Launch) (G : va_G) (ct : Nat → ClassId) (a0 : Nat) (a1 : Nat) (a3 : Nat) (a11 : Nat) (a25 : Nat) (a68 : Nat) (a69 : Nat) (a77 : Nat) (a82 : Nat) (a84 : Nat) (a88 : Nat) (a91 : Nat) (a12 : Nat) (a19 : Nat) (a24 : Nat) (n11_3 : Int32) (a20 : Nat) (a22 : Nat) (a23 : Nat) (n19_4 : Int32) (n19_5 : Int32) (n19_6 : Int32) (n19_7 : Int32) (a21 : Nat) (n20_1 : Int32) (a85 : Nat) (a87 : Nat) (l84_2 : Int64) (a86 : Nat) (n85_1 : Int32) (f86 : Nat → Int32) (f87 : Nat → Int32) (p0 : Int32) (p1 : Int32) (p2 : Int32) (hp_n20_1 : rg 0 8 n20_1) (hp_n85_1 : rg 0 8 n85_1) : Met l yX10_luck wsX10_luck ({ frames := 3, cells := 0, slots := 0, locals := 85 }) (va_Pc [.ref a0, .int p0, .int p1, .int p2] (wrP G ct [(a0, .inr (10, [.ref a1, .ref a3, .ref a11, .ref a25, .ref a68, .ref a69, .ref a77, .ref a82, .ref a84, .ref a88, .ref a91])), (a11, .inr (4, [.ref a12, .ref a19, .ref a24, .int n11_3])), (a19, .inr (2, [.ref a12, .ref a20, .ref a22, .ref a23, .int n19_4, .int n19_5, .int n19_6, .int n19_7])), (a20, .inr (0, [.ref a21, .int n20_1])), (a84, .inr (7, [.ref a85, .ref a87, .long l84_2])), (a85, .inr (0, [.ref a86, .int n85_1])), (a86, .inl (ct 0, 8, .inl f86)), (a87, .inl (ct 0, 8, .inl f87))])) (va_Qi (fun (r : Int32) (u : SU) => (r = 0 → rg 0 2000000000 p0) ∧ (r = (-1) → rg 0 2000000000 p0) ∧ (¬ r = (-2) → rg 0 2000000000 p0) ∧ (r = 0 → rg 1 20 p1) ∧ (r = (-1) → rg 1 20 p1) ∧ (¬ r = (-2) → rg 1 20 p1) ∧ (r = 0 → rg 0 7 p2) ∧ (r = (-1) → rg 0 7 p2) ∧ (¬ r = (-2) → rg 0 7 p2) ∧ (r = 0 → rg 1 8 n20_1) ∧ (r = (-1) → rg 1 8 n20_1) ∧ (¬ r = (-2) → rg 1 8 n20_1) ∧ rg 0 8 (u.1 0) ∧ True) (fun u t => va_P G vwCl ((fun u : SU => [(a0, .inr (10, [.ref a1, .ref a3, .ref a11, .ref a25, .ref a68, .ref a69, .ref a77, .ref a82, .ref a84, .ref a88, .ref a91])), (a11, .inr (4, [.ref a12, .ref a19, .ref a24, .int n11_3])), (a19, .inr (2, [.ref a12, .ref a20, .ref a22, .ref a23, .int n19_4, .int n19_5, .int n19_6, .int n19_7])), (a20, .inr (0, [.ref a21, .int n20_1])), (a84, .inr (7, [.ref a85, .ref a87, .long (u.2.2 0 0)])), (a85, .inr (0, [.ref a86, .int (u.1 0)])), (a86, .inl (ct 0, 8, .inl (u.2.1 0))), (a87, .inl (ct 0, 8, .inl (u.2.1 1)))]) u) t.heap) (aset [(a0, .inr (10, [.ref a1, .ref a3, .ref a11, .ref a25, .ref a68, .ref a69, .ref a77, .ref a82, .ref a84, .ref a88, .ref a91])), (a11, .inr (4, [.ref a12, .ref a19, .ref a24, .int n11_3])), (a19, .inr (2, [.ref a12, .ref a20, .ref a22, .ref a23, .int n19_4, .int n19_5, .int n19_6, .int n19_7])), (a20, .inr (0, [.ref a21, .int n20_1])), (a84, .inr (7, [.ref a85, .ref a87, .long l84_2])), (a85, .inr (0, [.ref a86, .int n85_1])), (a86, .inl (ct 0, 8, .inl f86)), (a87, .inl (ct 0, 8, .inl f87))])) 0 0 (aset [(a0, .inr (10, [.ref a1, .ref a3, .ref a11, .ref a25, .ref a68, .ref a69, .ref a77, .ref a82, .ref a84, .ref a88, .ref a91])), (a11, .inr (4, [.ref a12, .ref a19, .ref a24, .int n11_3])), (a19, .inr (2, [.ref a12, .ref a20, .ref a22, .ref a23, .int n19_4, .int n19_5, .int n19_6, .int n19_7])), (a20, .inr (0, [.ref a21, .int n20_1])), (a84, .inr (7, [.ref a85, .ref a87, .long l84_2])), (a85, .inr (0, [.ref a86, .int n85_1])), (a86, .inl (ct 0, 8, .inl f86)), (a87, .inl (ct 0, 8, .inl f87))]) := by
  refine Met.ofW (cc := cX10_luck) (maxL := 6) (ret := (some .int)) (by decide) rfl ?_
  intro p e s m args below meth c s₁ B hml hv
  obtain ⟨rfl, hP, hK, hD0⟩ := hv
  have hx := B.exec
  have hb := B.bytes
  have hr := B.returns
  have hts := atoms_spec (ws := wsX10_luck) B.pre
  have hown : s.vm.findClass RX10 = some m.cls := findClass_of_methodNamed B.named
  have hlocks := B.notSynchronized
  have hD := hD0.aself
  generalize hAe : aset [(a0, .inr (10, [.ref a1, .ref a3, .ref a11, .ref a25, .ref a68, .ref a69, .ref a77, .ref a82, .ref a84, .ref a88, .ref a91])), (a11, .inr (4, [.ref a12, .ref a19, .ref a24, .int n11_3])), (a19, .inr (2, [.ref a12, .ref a20, .ref a22, .ref a23, .int n19_4, .int n19_5, .int n19_6, .int n19_7])), (a20, .inr (0, [.ref a21, .int n20_1])), (a84, .inr (7, [.ref a85, .ref a87, .long l84_2])), (a85, .inr (0, [.ref a86, .int n85_1])), (a86, .inl (ct 0, 8, .inl f86)), (a87, .inl (ct 0, 8, .inl f87))] = A at hD ⊢
  have hS : va_S A s.heap s.heap [] := va_S.rf
  have hl := lv_entry ([.ref a0, .int p0, .int p1, .int p2]) (n := 6) (Nat.le_of_ble_eq_true rfl)
  rw [lg_entry_eq]
  generalize (lg_sl ([.ref a0, .int p0, .int p1, .int p2]) ++ List.replicate (6 - (lg_sl ([.ref a0, .int p0, .int p1, .int p2])).length) Slot.unset).toArray = ls at hl ⊢
  have hl : lv_has ls 6 [(0, .ref a0), (1, .int p0), (2, .int p1), (3, .int p2)] := hl
  refine lv_iload_n hx hb dX10_luck_0 rfl (lv_at hl 1 rfl) ?_
  refine ro_calli (va_runS (As := [.int p0]) (rest := []) ⟨hx, hb, hml, hown, hts⟩ (a_X10_isSeed l G ct p0) (va_cwS 1 hts gX10_luck_X10_isSeed rfl rfl rfl (by decide +kernel) ⟨Nat.le_of_ble_eq_true rfl, Nat.le_of_ble_eq_true rfl⟩) (ro_pre hK (hP.sub [] rfl)) rfl rfl hl.1 rfl (lv_room (Nat.le_of_ble_eq_true rfl)) dX10_luck_1 ⟨Nat.zero_le _, Nat.zero_le _⟩) hS hP (fun r1 H locs wr1 hP hS => ?_)
  obtain ⟨p_1, p_2, -⟩ := wr1
  refine lv_if_eq (tgt := 22) hx hb dX10_luck_4 (by decide) (fun c4 => ?_) (fun c4 => ?_)
  · have h_3 : rg 0 0 r1 := r_eq_l_i (e := 0) (f := 0) c4 p_1 (rgn 0 (x := 0) (by decide)) (by decide)
    refine lv_bipush (v := (-2)) hx hb dX10_luck_22 (by decide) ?_
    exact W.iret (v := (-2)) hx hb hr (fun t ht hW => ⟨⟨(-2), (fun k => ([n85_1] : List Int32).getD k 0, fun k => ([f86, f87] : List (Nat → Int32)).getD k (fun _ => 0), fun k => ([fun _ => l84_2] : List (Nat → Int64)).getD k (fun _ => 0)), rfl, ⟨(fun hq => absurd hq (rne (rgn (-2) (x := (-2)) (by decide)) (y := 0) (c := 0) (by decide) (by decide))), (fun hq => absurd hq (rne (rgn (-2) (x := (-2)) (by decide)) (y := (-1)) (c := (-1)) (by decide) (by decide))), (fun hq => absurd (req (rgn (-2) (x := (-2)) (by decide)) (y := (-2)) (by decide)) hq), (fun hq => absurd hq (rne (rgn (-2) (x := (-2)) (by decide)) (y := 0) (c := 0) (by decide) (by decide))), (fun hq => absurd hq (rne (rgn (-2) (x := (-2)) (by decide)) (y := (-1)) (c := (-1)) (by decide) (by decide))), (fun hq => absurd (req (rgn (-2) (x := (-2)) (by decide)) (y := (-2)) (by decide)) hq), (fun hq => absurd hq (rne (rgn (-2) (x := (-2)) (by decide)) (y := 0) (c := 0) (by decide) (by decide))), (fun hq => absurd hq (rne (rgn (-2) (x := (-2)) (by decide)) (y := (-1)) (c := (-1)) (by decide) (by decide))), (fun hq => absurd (req (rgn (-2) (x := (-2)) (by decide)) (y := (-2)) (by decide)) hq), (fun hq => absurd hq (rne (rgn (-2) (x := (-2)) (by decide)) (y := 0) (c := 0) (by decide) (by decide))), (fun hq => absurd hq (rne (rgn (-2) (x := (-2)) (by decide)) (y := (-1)) (c := (-1)) (by decide) (by decide))), (fun hq => absurd (req (rgn (-2) (x := (-2)) (by decide)) (y := (-2)) (by decide)) hq), hp_n85_1, trivial⟩, hp_at ht hP⟩, hS.F ht⟩) hS.2.2 dX10_luck_24
  · have h_4 : rg 1 1 r1 := r_ne_lo_i c4 p_1 (by decide) (by decide)
    have h_5 : rg 0 2000000000 p0 := (p_2 (rne h_4 (y := 0) (c := 0) (by decide) (by decide)))
    refine lv_iload_n hx hb dX10_luck_7 rfl (lv_at hl 2 rfl) ?_
    refine ro_calli (va_runS (As := [.int p1]) (rest := []) ⟨hx, hb, hml, hown, hts⟩ (a_X10_isSquareNumber l G ct p1) (va_cwS 1 hts gX10_luck_X10_isSquareNumber rfl rfl rfl (by decide +kernel) ⟨Nat.le_of_ble_eq_true rfl, Nat.le_of_ble_eq_true rfl⟩) (ro_pre hK (hP.sub [] rfl)) rfl rfl hl.1 rfl (lv_room (Nat.le_of_ble_eq_true rfl)) dX10_luck_8 ⟨Nat.zero_le _, Nat.zero_le _⟩) hS hP (fun r8 H locs wr8 hP hS => ?_)
    obtain ⟨p_6, p_7, -⟩ := wr8
    refine lv_if_eq (tgt := 22) hx hb dX10_luck_11 (by decide) (fun c11 => ?_) (fun c11 => ?_)
    · have h_8 : rg 0 0 r8 := r_eq_l_i (e := 0) (f := 0) c11 p_6 (rgn 0 (x := 0) (by decide)) (by decide)
      refine lv_bipush (v := (-2)) hx hb dX10_luck_22 (by decide) ?_
      exact W.iret (v := (-2)) hx hb hr (fun t ht hW => ⟨⟨(-2), (fun k => ([n85_1] : List Int32).getD k 0, fun k => ([f86, f87] : List (Nat → Int32)).getD k (fun _ => 0), fun k => ([fun _ => l84_2] : List (Nat → Int64)).getD k (fun _ => 0)), rfl, ⟨(fun _ => h_5), (fun _ => h_5), (fun _ => h_5), (fun hq => absurd hq (rne (rgn (-2) (x := (-2)) (by decide)) (y := 0) (c := 0) (by decide) (by decide))), (fun hq => absurd hq (rne (rgn (-2) (x := (-2)) (by decide)) (y := (-1)) (c := (-1)) (by decide) (by decide))), (fun hq => absurd (req (rgn (-2) (x := (-2)) (by decide)) (y := (-2)) (by decide)) hq), (fun hq => absurd hq (rne (rgn (-2) (x := (-2)) (by decide)) (y := 0) (c := 0) (by decide) (by decide))), (fun hq => absurd hq (rne (rgn (-2) (x := (-2)) (by decide)) (y := (-1)) (c := (-1)) (by decide) (by decide))), (fun hq => absurd (req (rgn (-2) (x := (-2)) (by decide)) (y := (-2)) (by decide)) hq), (fun hq => absurd hq (rne (rgn (-2) (x := (-2)) (by decide)) (y := 0) (c := 0) (by decide) (by decide))), (fun hq => absurd hq (rne (rgn (-2) (x := (-2)) (by decide)) (y := (-1)) (c := (-1)) (by decide) (by decide))), (fun hq => absurd (req (rgn (-2) (x := (-2)) (by decide)) (y := (-2)) (by decide)) hq), hp_n85_1, trivial⟩, hp_at ht hP⟩, hS.F ht⟩) hS.2.2 dX10_luck_24
    · have h_9 : rg 1 1 r8 := r_ne_lo_i c11 p_6 (by decide) (by decide)
      have h_10 : rg 1 20 p1 := (p_7 (rne h_9 (y := 0) (c := 0) (by decide) (by decide)))
      refine lv_aload_n hx hb dX10_luck_14 rfl (lv_at hl 0 rfl) ?_
      refine lv_iload_n hx hb dX10_luck_15 rfl (lv_at hl 3 rfl) ?_
      refine ro_calli (va_runV (As := [.int p2]) (rest := []) ⟨hx, hb, hml, hown, hts⟩ (a_X10_isPerson l G ct a0 a1 a3 a11 a25 a68 a69 a77 a82 a84 a88 a91 a12 a19 a24 n11_3 a20 a22 a23 n19_4 n19_5 n19_6 n19_7 a21 n20_1 p2 hp_n20_1) (cwV 1 hts gX10_luck_X10_isPerson rfl rfl rfl (by decide +kernel) ⟨Nat.le_of_ble_eq_true rfl, Nat.le_of_ble_eq_true rfl⟩) (ro_preV 10 0 hK (hP.sub [0, 1, 2, 3] rfl) rfl rfl) rfl rfl hl.1 rfl (lv_room (Nat.le_of_ble_eq_true rfl)) dX10_luck_16 ⟨Nat.zero_le _, Nat.zero_le _⟩) hS hP (fun r16 H locs wr16 hP hS => ?_)
      obtain ⟨p_11, p_12, p_13, -⟩ := wr16
      refine lv_if_ne (tgt := 25) hx hb dX10_luck_19 (by decide) (fun c19 => ?_) (fun c19 => ?_)
      · have h_14 : rg 1 1 r16 := r_ne_lo_i c19 p_11 (by decide) (by decide)
        have h_15 : rg 0 7 p2 := (p_12 (rne h_14 (y := 0) (c := 0) (by decide) (by decide)))
        have h_16 : rg 1 8 n20_1 := (p_13 (rne h_14 (y := 0) (c := 0) (by decide) (by decide)))
        refine lv_iconst (v := 0) hx hb dX10_luck_25 (by decide) ?_
        refine lv_istore (lv' := [(4, .int 0), (0, .ref a0), (1, .int p0), (2, .int p1), (3, .int p2)]) hx hb dX10_luck_26 hl (by decide) rfl (fun ls hl => ?_)
        refine lv_iconst (v := 0) hx hb dX10_luck_28 (by decide) ?_
        refine lv_istore (lv' := [(5, .int 0), (4, .int 0), (0, .ref a0), (1, .int p0), (2, .int p1), (3, .int p2)]) hx hb dX10_luck_29 hl (by decide) rfl (fun ls hl => ?_)
        have j31 : ∀ (n : Nat) (x31_4 : Int32) (x31_5 : Int32) (v31_4_2 : Int64) (v31_5_1 : Int32) (f31_6 : Nat → Int32) (f31_7 : Nat → Int32) (H : Heap) (locs : List Loc) (ls : Array Slot), 2147483648 ≤ x31_5.toInt + (n : Int) → rg 0 20 x31_5 → rg 0 8 v31_5_1 → va_P G vwCl [(a0, .inr (10, [.ref a1, .ref a3, .ref a11, .ref a25, .ref a68, .ref a69, .ref a77, .ref a82, .ref a84, .ref a88, .ref a91])), (a11, .inr (4, [.ref a12, .ref a19, .ref a24, .int n11_3])), (a19, .inr (2, [.ref a12, .ref a20, .ref a22, .ref a23, .int n19_4, .int n19_5, .int n19_6, .int n19_7])), (a20, .inr (0, [.ref a21, .int n20_1])), (a84, .inr (7, [.ref a85, .ref a87, .long v31_4_2])), (a85, .inr (0, [.ref a86, .int v31_5_1])), (a86, .inl (ct 0, 8, .inl f31_6)), (a87, .inl (ct 0, 8, .inl f31_7))] H → va_D A [(a0, .inr (10, [.ref a1, .ref a3, .ref a11, .ref a25, .ref a68, .ref a69, .ref a77, .ref a82, .ref a84, .ref a88, .ref a91])), (a11, .inr (4, [.ref a12, .ref a19, .ref a24, .int n11_3])), (a19, .inr (2, [.ref a12, .ref a20, .ref a22, .ref a23, .int n19_4, .int n19_5, .int n19_6, .int n19_7])), (a20, .inr (0, [.ref a21, .int n20_1])), (a84, .inr (7, [.ref a85, .ref a87, .long v31_4_2])), (a85, .inr (0, [.ref a86, .int v31_5_1])), (a86, .inl (ct 0, 8, .inl f31_6)), (a87, .inl (ct 0, 8, .inl f31_7))] → va_S A s.heap H locs → lv_has ls 6 [(0, .ref a0), (1, .int p0), (2, .int p1), (3, .int p2), (4, .int x31_4), (5, .int x31_5)] → W p l e (headSpec wsX10_luck ({ frames := 3, cells := 0, slots := 0, locals := 85 })).room s m ([.ref a0, .int p0, .int p1, .int p2] : List Value).toArray below meth c H locs 0 0 (MQ below (va_Qi (fun (r : Int32) (u : SU) => (r = 0 → rg 0 2000000000 p0) ∧ (r = (-1) → rg 0 2000000000 p0) ∧ (¬ r = (-2) → rg 0 2000000000 p0) ∧ (r = 0 → rg 1 20 p1) ∧ (r = (-1) → rg 1 20 p1) ∧ (¬ r = (-2) → rg 1 20 p1) ∧ (r = 0 → rg 0 7 p2) ∧ (r = (-1) → rg 0 7 p2) ∧ (¬ r = (-2) → rg 0 7 p2) ∧ (r = 0 → rg 1 8 n20_1) ∧ (r = (-1) → rg 1 8 n20_1) ∧ (¬ r = (-2) → rg 1 8 n20_1) ∧ rg 0 8 (u.1 0) ∧ True) (fun u t => va_P G vwCl ((fun u : SU => [(a0, .inr (10, [.ref a1, .ref a3, .ref a11, .ref a25, .ref a68, .ref a69, .ref a77, .ref a82, .ref a84, .ref a88, .ref a91])), (a11, .inr (4, [.ref a12, .ref a19, .ref a24, .int n11_3])), (a19, .inr (2, [.ref a12, .ref a20, .ref a22, .ref a23, .int n19_4, .int n19_5, .int n19_6, .int n19_7])), (a20, .inr (0, [.ref a21, .int n20_1])), (a84, .inr (7, [.ref a85, .ref a87, .long (u.2.2 0 0)])), (a85, .inr (0, [.ref a86, .int (u.1 0)])), (a86, .inl (ct 0, 8, .inl (u.2.1 0))), (a87, .inl (ct 0, 8, .inl (u.2.1 1)))]) u) t.heap) A) ([.ref a0, .int p0, .int p1, .int p2] : List Value).toArray s 0 0 A) (F0 m 31 ls []) := by
          intro n
          induction n with
          | zero => intro x31_4 x31_5 v31_4_2 v31_5_1 f31_6 f31_7 H locs ls hn31 hx31_5 hv31_5_1 hP hD hS hl; exact absurd hn31 (by have := Int32.toInt_lt x31_5; have := Int32.le_toInt x31_5; omega)
          | succ n ih31 =>
            intro x31_4 x31_5 v31_4_2 v31_5_1 f31_6 f31_7 H locs ls hn31 hx31_5 hv31_5_1 hP hD hS hl
            refine lv_iload hx hb dX10_luck_31 (lv_at hl 5 rfl) ?_
            refine lv_iload_n hx hb dX10_luck_33 rfl (lv_at hl 2 rfl) ?_
            refine lv_icmp_ge (tgt := 79) hx hb dX10_luck_34 (by decide) (fun c34 => ?_) (fun c34 => ?_)
            · have h_17 : rg 1 20 x31_5 := r_le_r_i c34 h_10 hx31_5
              refine lv_iload hx hb dX10_luck_79 (lv_at hl 4 rfl) ?_
              exact W.iret (v := x31_4) hx hb hr (fun t ht hW => ⟨⟨x31_4, (fun k => ([v31_5_1] : List Int32).getD k 0, fun k => ([f31_6, f31_7] : List (Nat → Int32)).getD k (fun _ => 0), fun k => ([fun _ => v31_4_2] : List (Nat → Int64)).getD k (fun _ => 0)), rfl, ⟨(fun _ => h_5), (fun _ => h_5), (fun _ => h_5), (fun _ => h_10), (fun _ => h_10), (fun _ => h_10), (fun _ => h_15), (fun _ => h_15), (fun _ => h_15), (fun _ => h_16), (fun _ => h_16), (fun _ => h_16), hv31_5_1, trivial⟩, hp_at ht hP⟩, hS.F ht⟩) hS.2.2 dX10_luck_81
            · have h_18 : rg 0 19 x31_5 := r_lt_l_i (nle_i c34) hx31_5 h_10 (by decide)
              refine lv_aload_n hx hb dX10_luck_37 rfl (lv_at hl 0 rfl) ?_
              refine va_get (D := G) (ci := 10) (v := .ref a84) (C := RX10) (T := TX10) (N := 11) hx hb hts (by decide +kernel) hown hK.1 hP 0 rfl rfl 8 (by decide) (hts (.fieldLink RX10 70 "CardHolder" "square" "LCardHolder$Square;") (by decide +kernel)) (fun _ h9 => h9) rfl dX10_luck_38 ?_
              refine lv_iload_n hx hb dX10_luck_41 rfl (lv_at hl 1 rfl) ?_
              refine lv_iload hx hb dX10_luck_42 (lv_at hl 5 rfl) ?_
              refine lv_iadd hx hb dX10_luck_44 ?_
              refine nm_add (e1 := 0) (f := 2000000019) h_5 h_18 (by decide) (fun z44 hz44 ez44 => ?_)
              refine lv_aload_n hx hb dX10_luck_45 rfl (lv_at hl 0 rfl) ?_
              refine ro_callr (va_runV (As := []) (rest := [.int z44, .ref a84]) ⟨hx, hb, hml, hown, hts⟩ (a_X10_bonds l G ct a0 a1 a3 a11 a25 a68 a69 a77 a82 a84 a88 a91 a12 a19 a24 n11_3 a20 a22 a23 n19_4 n19_5 n19_6 n19_7) (cwV 0 hts gX10_luck_X10_bonds rfl rfl rfl (by decide +kernel) ⟨Nat.le_of_ble_eq_true rfl, Nat.le_of_ble_eq_true rfl⟩) (ro_preV 10 0 hK (hP.sub [0, 1, 2] rfl) rfl rfl) rfl rfl hl.1 rfl (lv_room (Nat.le_of_ble_eq_true rfl)) dX10_luck_46 ⟨Nat.zero_le _, Nat.zero_le _⟩) hS hP (fun H locs hP hS => ?_)
              refine va_get (D := G) (ci := 0) (v := .int n20_1) (C := RX0) (T := TX0) (N := 2) hx hb hts (by decide +kernel) hown hK.1 hP 3 rfl rfl 1 (by decide) (hts (.fieldLink RX10 238 "CardHolder$Bonds" "persons" "I") (by decide +kernel)) (fun _ h9 => h9) rfl dX10_luck_49 ?_
              refine wj_callv (wr := [(a0, .inr (10, [.ref a1, .ref a3, .ref a11, .ref a25, .ref a68, .ref a69, .ref a77, .ref a82, .ref a84, .ref a88, .ref a91])), (a11, .inr (4, [.ref a12, .ref a19, .ref a24, .int n11_3])), (a19, .inr (2, [.ref a12, .ref a20, .ref a22, .ref a23, .int n19_4, .int n19_5, .int n19_6, .int n19_7])), (a20, .inr (0, [.ref a21, .int n20_1]))]) (w1 := (fun u : SU => [(a84, .inr (7, [.ref a85, .ref a87, .long (u.2.2 0 0)])), (a85, .inr (0, [.ref a86, .int (u.1 0)])), (a86, .inl (ct 0, 8, .inl (u.2.1 0))), (a87, .inl (ct 0, 8, .inl (u.2.1 1)))])) (va_runV (As := [.int z44, .int n20_1]) (rest := []) ⟨hx, hb, hml, hown, hts⟩ (a_X7_deal l G ct a84 a85 a87 v31_4_2 a86 v31_5_1 f31_6 f31_7 z44 n20_1 hv31_5_1 (rg_w (c := 0) (d := 8) h_16 (by decide))) (cwV 2 hts gX10_luck_X7_deal rfl rfl rfl (by decide +kernel) ⟨Nat.le_of_ble_eq_true rfl, Nat.le_of_ble_eq_true rfl⟩) (wr_preV 7 0 hK (hP.sub [4, 5, 6, 7] rfl) (hD.sub [4, 5, 6, 7] (by decide) rfl) rfl rfl) rfl rfl hl.1 rfl (lv_room (Nat.le_of_ble_eq_true rfl)) dX10_luck_52 ⟨Nat.zero_le _, Nat.zero_le _⟩) hS hP hD [4, 5, 6, 7] [0, 1, 2, 3] rfl rfl (by decide) (fun _ => rfl) (fun ur52 H locs wr52 hP hD hS => ?_)
              have hP : va_P G vwCl [(a0, .inr (10, [.ref a1, .ref a3, .ref a11, .ref a25, .ref a68, .ref a69, .ref a77, .ref a82, .ref a84, .ref a88, .ref a91])), (a11, .inr (4, [.ref a12, .ref a19, .ref a24, .int n11_3])), (a19, .inr (2, [.ref a12, .ref a20, .ref a22, .ref a23, .int n19_4, .int n19_5, .int n19_6, .int n19_7])), (a20, .inr (0, [.ref a21, .int n20_1])), (a84, .inr (7, [.ref a85, .ref a87, .long (ur52.2.2 0 0)])), (a85, .inr (0, [.ref a86, .int (ur52.1 0)])), (a86, .inl (ct 0, 8, .inl (ur52.2.1 0))), (a87, .inl (ct 0, 8, .inl (ur52.2.1 1)))] H := hP.sub [0, 1, 2, 3, 4, 5, 6, 7] rfl
              have hD : va_D A [(a0, .inr (10, [.ref a1, .ref a3, .ref a11, .ref a25, .ref a68, .ref a69, .ref a77, .ref a82, .ref a84, .ref a88, .ref a91])), (a11, .inr (4, [.ref a12, .ref a19, .ref a24, .int n11_3])), (a19, .inr (2, [.ref a12, .ref a20, .ref a22, .ref a23, .int n19_4, .int n19_5, .int n19_6, .int n19_7])), (a20, .inr (0, [.ref a21, .int n20_1])), (a84, .inr (7, [.ref a85, .ref a87, .long (ur52.2.2 0 0)])), (a85, .inr (0, [.ref a86, .int (ur52.1 0)])), (a86, .inl (ct 0, 8, .inl (ur52.2.1 0))), (a87, .inl (ct 0, 8, .inl (ur52.2.1 1)))] := hD.sub [0, 1, 2, 3, 4, 5, 6, 7] (by decide) rfl
              obtain ⟨p_19, p_20, -⟩ := wr52
              refine lv_aload_n hx hb dX10_luck_55 rfl (lv_at hl 0 rfl) ?_
              refine va_get (D := G) (ci := 10) (v := .ref a84) (C := RX10) (T := TX10) (N := 11) hx hb hts (by decide +kernel) hown hK.1 hP 0 rfl rfl 8 (by decide) (hts (.fieldLink RX10 70 "CardHolder" "square" "LCardHolder$Square;") (by decide +kernel)) (fun _ h9 => h9) rfl dX10_luck_56 ?_
              refine va_get (D := G) (ci := 7) (v := .ref a85) (C := RX7) (T := TX7) (N := 3) hx hb hts (by decide +kernel) hown hK.1 hP 4 rfl rfl 0 (by decide) (hts (.fieldLink RX10 374 "CardHolder$Square" "dealt" "LCardHolder$Bonds;") (by decide +kernel)) (fun _ h9 => h9) rfl dX10_luck_59 ?_
              refine lv_iload_n hx hb dX10_luck_62 rfl (lv_at hl 3 rfl) ?_
              refine ro_calli (va_runV (As := [.int p2]) (rest := []) ⟨hx, hb, hml, hown, hts⟩ (a_X0_holderOf l G ct a85 a86 (ur52.1 0) (ur52.2.1 0) p2 p_20) (cwV 1 hts gX10_luck_X0_holderOf rfl rfl rfl (by decide +kernel) ⟨Nat.le_of_ble_eq_true rfl, Nat.le_of_ble_eq_true rfl⟩) (ro_preV 0 0 hK (hP.sub [5, 6] rfl) rfl rfl) rfl rfl hl.1 rfl (lv_room (Nat.le_of_ble_eq_true rfl)) dX10_luck_63 ⟨Nat.zero_le _, Nat.zero_le _⟩) hS hP (fun r63 H locs wr63 hP hS => ?_)
              obtain ⟨p_21, p_22, p_23, p_24, -⟩ := wr63
              refine lv_iload_n hx hb dX10_luck_66 rfl (lv_at hl 3 rfl) ?_
              have j73 : ∀ (x73_4 : Int32) (H : Heap) (locs : List Loc) (ls : Array Slot), va_P G vwCl [(a0, .inr (10, [.ref a1, .ref a3, .ref a11, .ref a25, .ref a68, .ref a69, .ref a77, .ref a82, .ref a84, .ref a88, .ref a91])), (a11, .inr (4, [.ref a12, .ref a19, .ref a24, .int n11_3])), (a19, .inr (2, [.ref a12, .ref a20, .ref a22, .ref a23, .int n19_4, .int n19_5, .int n19_6, .int n19_7])), (a20, .inr (0, [.ref a21, .int n20_1])), (a84, .inr (7, [.ref a85, .ref a87, .long (ur52.2.2 0 0)])), (a85, .inr (0, [.ref a86, .int (ur52.1 0)])), (a86, .inl (ct 0, 8, .inl (ur52.2.1 0))), (a87, .inl (ct 0, 8, .inl (ur52.2.1 1)))] H → va_D A [(a0, .inr (10, [.ref a1, .ref a3, .ref a11, .ref a25, .ref a68, .ref a69, .ref a77, .ref a82, .ref a84, .ref a88, .ref a91])), (a11, .inr (4, [.ref a12, .ref a19, .ref a24, .int n11_3])), (a19, .inr (2, [.ref a12, .ref a20, .ref a22, .ref a23, .int n19_4, .int n19_5, .int n19_6, .int n19_7])), (a20, .inr (0, [.ref a21, .int n20_1])), (a84, .inr (7, [.ref a85, .ref a87, .long (ur52.2.2 0 0)])), (a85, .inr (0, [.ref a86, .int (ur52.1 0)])), (a86, .inl (ct 0, 8, .inl (ur52.2.1 0))), (a87, .inl (ct 0, 8, .inl (ur52.2.1 1)))] → va_S A s.heap H locs → lv_has ls 6 [(0, .ref a0), (1, .int p0), (2, .int p1), (3, .int p2), (4, .int x73_4), (5, .int x31_5)] → W p l e (headSpec wsX10_luck ({ frames := 3, cells := 0, slots := 0, locals := 85 })).room s m ([.ref a0, .int p0, .int p1, .int p2] : List Value).toArray below meth c H locs 0 0 (MQ below (va_Qi (fun (r : Int32) (u : SU) => (r = 0 → rg 0 2000000000 p0) ∧ (r = (-1) → rg 0 2000000000 p0) ∧ (¬ r = (-2) → rg 0 2000000000 p0) ∧ (r = 0 → rg 1 20 p1) ∧ (r = (-1) → rg 1 20 p1) ∧ (¬ r = (-2) → rg 1 20 p1) ∧ (r = 0 → rg 0 7 p2) ∧ (r = (-1) → rg 0 7 p2) ∧ (¬ r = (-2) → rg 0 7 p2) ∧ (r = 0 → rg 1 8 n20_1) ∧ (r = (-1) → rg 1 8 n20_1) ∧ (¬ r = (-2) → rg 1 8 n20_1) ∧ rg 0 8 (u.1 0) ∧ True) (fun u t => va_P G vwCl ((fun u : SU => [(a0, .inr (10, [.ref a1, .ref a3, .ref a11, .ref a25, .ref a68, .ref a69, .ref a77, .ref a82, .ref a84, .ref a88, .ref a91])), (a11, .inr (4, [.ref a12, .ref a19, .ref a24, .int n11_3])), (a19, .inr (2, [.ref a12, .ref a20, .ref a22, .ref a23, .int n19_4, .int n19_5, .int n19_6, .int n19_7])), (a20, .inr (0, [.ref a21, .int n20_1])), (a84, .inr (7, [.ref a85, .ref a87, .long (u.2.2 0 0)])), (a85, .inr (0, [.ref a86, .int (u.1 0)])), (a86, .inl (ct 0, 8, .inl (u.2.1 0))), (a87, .inl (ct 0, 8, .inl (u.2.1 1)))]) u) t.heap) A) ([.ref a0, .int p0, .int p1, .int p2] : List Value).toArray s 0 0 A) (F0 m 73 ls []) := by
                intro x73_4 H locs ls  hP hD hS hl
                obtain ⟨z73, qz73⟩ : ∃ y : Int32, y = x31_5 + Int32.ofInt 1 := ⟨_, rfl⟩
                obtain ⟨hz73, ez73⟩ := inc_z (e := 1) (f := 20) h_18 qz73 (by decide)
                refine lv_iinc (v := z73) (lv' := [(5, .int z73), (0, .ref a0), (1, .int p0), (2, .int p1), (3, .int p2), (4, .int x73_4)]) hx hb dX10_luck_73 hl (k := 5) rfl (qz73.symm) (by decide) rfl (fun ls hl => ?_)
                refine lv_goto (tgt := 31) hx hb dX10_luck_76 (by decide) ?_
                exact ih31 x73_4 z73 (ur52.2.2 0 0) (ur52.1 0) (ur52.2.1 0) (ur52.2.1 1) _ _ ls (by have q := hn31; have := ez73; omega) (rg_w (c := 0) (d := 20) hz73 (by decide)) p_20 hP hD hS (lv_sub hl [1, 2, 3, 4, 5, 0] rfl)
              refine lv_icmp_ne (tgt := 73) hx hb dX10_luck_67 (by decide) (fun c67 => ?_) (fun c67 => ?_)
              · exact j73 x31_4 _ _ ls hP hD hS (lv_sub hl [0, 1, 2, 3, 4, 5] rfl)
              · have h_25 : rg 0 7 r63 := r_eq_l_i (e := 0) (f := 7) c67 (rg_t r63) h_15 (by decide)
                have h_26 : rg 1 8 (ur52.1 0) := (p_24 (rne h_25 (y := (-1)) (c := (-1)) (by decide) (by decide)))
                obtain ⟨z70, qz70⟩ : ∃ y : Int32, y = x31_4 + Int32.ofInt 1 := ⟨_, rfl⟩
                refine lv_iinc (v := z70) (lv' := [(4, .int z70), (0, .ref a0), (1, .int p0), (2, .int p1), (3, .int p2), (5, .int x31_5)]) hx hb dX10_luck_70 hl (k := 4) rfl (qz70.symm) (by decide) rfl (fun ls hl => ?_)
                exact j73 z70 _ _ ls hP hD hS (lv_sub hl [1, 2, 3, 4, 0, 5] rfl)
        exact j31 4294967296 (0 : Int32) (0 : Int32) l84_2 n85_1 f86 f87 _ _ ls (ms_e (0 : Int32)) (rg_w (c := 0) (d := 20) (rgn 0 (x := 0) (by decide)) (by decide)) hp_n85_1 hP hD hS (lv_sub hl [2, 3, 4, 5, 1, 0] rfl)
      · have h_27 : rg 0 0 r16 := r_eq_l_i (e := 0) (f := 0) c19 p_11 (rgn 0 (x := 0) (by decide)) (by decide)
        refine lv_bipush (v := (-2)) hx hb dX10_luck_22 (by decide) ?_
        exact W.iret (v := (-2)) hx hb hr (fun t ht hW => ⟨⟨(-2), (fun k => ([n85_1] : List Int32).getD k 0, fun k => ([f86, f87] : List (Nat → Int32)).getD k (fun _ => 0), fun k => ([fun _ => l84_2] : List (Nat → Int64)).getD k (fun _ => 0)), rfl, ⟨(fun _ => h_5), (fun _ => h_5), (fun _ => h_5), (fun _ => h_10), (fun _ => h_10), (fun _ => h_10), (fun hq => absurd hq (rne (rgn (-2) (x := (-2)) (by decide)) (y := 0) (c := 0) (by decide) (by decide))), (fun hq => absurd hq (rne (rgn (-2) (x := (-2)) (by decide)) (y := (-1)) (c := (-1)) (by decide) (by decide))), (fun hq => absurd (req (rgn (-2) (x := (-2)) (by decide)) (y := (-2)) (by decide)) hq), (fun hq => absurd hq (rne (rgn (-2) (x := (-2)) (by decide)) (y := 0) (c := 0) (by decide) (by decide))), (fun hq => absurd hq (rne (rgn (-2) (x := (-2)) (by decide)) (y := (-1)) (c := (-1)) (by decide) (by decide))), (fun hq => absurd (req (rgn (-2) (x := (-2)) (by decide)) (y := (-2)) (by decide)) hq), hp_n85_1, trivial⟩, hp_at ht hP⟩, hS.F ht⟩) hS.2.2 dX10_luck_24

set_option maxHeartbeats 4000000 in
set_option maxRecDepth 100000 in
theorem a_X10_winds (l : Launch) (G : va_G) (ct : Nat → ClassId) (a0 : Nat) (a1 : Nat) (a3 : Nat) (a11 : Nat) (a25 : Nat) (a68 : Nat) (a69 : Nat) (a77 : Nat) (a82 : Nat) (a84 : Nat) (a88 : Nat) (a91 : Nat) (a12 : Nat) (a19 : Nat) (a24 : Nat) (n11_3 : Int32) (a13 : Nat) (a15 : Nat) (a16 : Nat) (a17 : Nat) (a18 : Nat) (n12_5 : Int32) (n12_6 : Int32) (a20 : Nat) (a22 : Nat) (a23 : Nat) (n19_4 : Int32) (n19_5 : Int32) (n19_6 : Int32) (n19_7 : Int32) (a21 : Nat) (n20_1 : Int32) (a85 : Nat) (a87 : Nat) (l84_2 : Int64) (a86 : Nat) (n85_1 : Int32) (f86 : Nat → Int32) (f87 : Nat → Int32) (p0 : Int32) (p1 : Int32) (hp_n20_1 : rg 0 8 n20_1) (hp_n85_1 : rg 0 8 n85_1) : Met l yX10_winds wsX10_winds ({ frames := 6, cells := 0, slots := 0, locals := 133 }) (va_Pc [.ref a0, .int p0, .int p1] (wrP G ct [(a0, .inr (10, [.ref a1, .ref a3, .ref a11, .ref a25, .ref a68, .ref a69, .ref a77, .ref a82, .ref a84, .ref a88, .ref a91])), (a11, .inr (4, [.ref a12, .ref a19, .ref a24, .int n11_3])), (a12, .inr (9, [.ref a13, .ref a15, .ref a16, .ref a17, .ref a18, .int n12_5, .int n12_6])), (a19, .inr (2, [.ref a12, .ref a20, .ref a22, .ref a23, .int n19_4, .int n19_5, .int n19_6, .int n19_7])), (a20, .inr (0, [.ref a21, .int n20_1])), (a84, .inr (7, [.ref a85, .ref a87, .long l84_2])), (a85, .inr (0, [.ref a86, .int n85_1])), (a86, .inl (ct 0, 8, .inl f86)), (a87, .inl (ct 0, 8, .inl f87))])) (va_Qi (fun (r : Int32) (u : SU) => (r = 0 → rg 0 2000000000 p0) ∧ (r = (-1) → rg 0 2000000000 p0) ∧ (¬ r = (-2) → rg 0 2000000000 p0) ∧ (r = 0 → rg 1 20 p1) ∧ (r = (-1) → rg 1 20 p1) ∧ (¬ r = (-2) → rg 1 20 p1) ∧ (r = 0 → rg 1 2147483647 n12_5) ∧ (r = (-1) → rg 1 2147483647 n12_5) ∧ (¬ r = (-2) → rg 1 2147483647 n12_5) ∧ rg 0 8 (u.1 0) ∧ True) (fun u t => va_P G vwCl ((fun u : SU => [(a0, .inr (10, [.ref a1, .ref a3, .ref a11, .ref a25, .ref a68, .ref a69, .ref a77, .ref a82, .ref a84, .ref a88, .ref a91])), (a11, .inr (4, [.ref a12, .ref a19, .ref a24, .int n11_3])), (a12, .inr (9, [.ref a13, .ref a15, .ref a16, .ref a17, .ref a18, .int n12_5, .int n12_6])), (a19, .inr (2, [.ref a12, .ref a20, .ref a22, .ref a23, .int n19_4, .int n19_5, .int n19_6, .int n19_7])), (a20, .inr (0, [.ref a21, .int n20_1])), (a84, .inr (7, [.ref a85, .ref a87, .long (u.2.2 0 0)])), (a85, .inr (0, [.ref a86, .int (u.1 0)])), (a86, .inl (ct 0, 8, .inl (u.2.1 0))), (a87, .inl (ct 0, 8, .inl (u.2.1 1)))]) u) t.heap) (aset [(a0, .inr (10, [.ref a1, .ref a3, .ref a11, .ref a25, .ref a68, .ref a69, .ref a77, .ref a82, .ref a84, .ref a88, .ref a91])), (a11, .inr (4, [.ref a12, .ref a19, .ref a24, .int n11_3])), (a12, .inr (9, [.ref a13, .ref a15, .ref a16, .ref a17, .ref a18, .int n12_5, .int n12_6])), (a19, .inr (2, [.ref a12, .ref a20, .ref a22, .ref a23, .int n19_4, .int n19_5, .int n19_6, .int n19_7])), (a20, .inr (0, [.ref a21, .int n20_1])), (a84, .inr (7, [.ref a85, .ref a87, .long l84_2])), (a85, .inr (0, [.ref a86, .int n85_1])), (a86, .inl (ct 0, 8, .inl f86)), (a87, .inl (ct 0, 8, .inl f87))])) 0 0 (aset [(a0, .inr (10, [.ref a1, .ref a3, .ref a11, .ref a25, .ref a68, .ref a69, .ref a77, .ref a82, .ref a84, .ref a88, .ref a91])), (a11, .inr (4, [.ref a12, .ref a19, .ref a24, .int n11_3])), (a12, .inr (9, [.ref a13, .ref a15, .ref a16, .ref a17, .ref a18, .int n12_5, .int n12_6])), (a19, .inr (2, [.ref a12, .ref a20, .ref a22, .ref a23, .int n19_4, .int n19_5, .int n19_6, .int n19_7])), (a20, .inr (0, [.ref a21, .int n20_1])), (a84, .inr (7, [.ref a85, .ref a87, .long l84_2])), (a85, .inr (0, [.ref a86, .int n85_1])), (a86, .inl (ct 0, 8, .inl f86)), (a87, .inl (ct 0, 8, .inl f87))]) := by
  refine Met.ofW (cc := cX10_winds) (maxL := 5) (ret := (some .int)) (by decide) rfl ?_
  intro p e s m args below meth c s₁ B hml hv
  obtain ⟨rfl, hP, hK, hD0⟩ := hv
  have hx := B.exec
  have hb := B.bytes
  have hr := B.returns
  have hts := atoms_spec (ws := wsX10_winds) B.pre
  have hown : s.vm.findClass RX10 = some m.cls := findClass_of_methodNamed B.named
  have hlocks := B.notSynchronized
  have hD := hD0.aself
  generalize hAe : aset [(a0, .inr (10, [.ref a1, .ref a3, .ref a11, .ref a25, .ref a68, .ref a69, .ref a77, .ref a82, .ref a84, .ref a88, .ref a91])), (a11, .inr (4, [.ref a12, .ref a19, .ref a24, .int n11_3])), (a12, .inr (9, [.ref a13, .ref a15, .ref a16, .ref a17, .ref a18, .int n12_5, .int n12_6])), (a19, .inr (2, [.ref a12, .ref a20, .ref a22, .ref a23, .int n19_4, .int n19_5, .int n19_6, .int n19_7])), (a20, .inr (0, [.ref a21, .int n20_1])), (a84, .inr (7, [.ref a85, .ref a87, .long l84_2])), (a85, .inr (0, [.ref a86, .int n85_1])), (a86, .inl (ct 0, 8, .inl f86)), (a87, .inl (ct 0, 8, .inl f87))] = A at hD ⊢
  have hS : va_S A s.heap s.heap [] := va_S.rf
  have hl := lv_entry ([.ref a0, .int p0, .int p1]) (n := 5) (Nat.le_of_ble_eq_true rfl)
  rw [lg_entry_eq]
  generalize (lg_sl ([.ref a0, .int p0, .int p1]) ++ List.replicate (5 - (lg_sl ([.ref a0, .int p0, .int p1])).length) Slot.unset).toArray = ls at hl ⊢
  have hl : lv_has ls 5 [(0, .ref a0), (1, .int p0), (2, .int p1)] := hl
  refine lv_aload_n hx hb dX10_winds_0 rfl (lv_at hl 0 rfl) ?_
  refine ro_calli (va_runV (As := []) (rest := []) ⟨hx, hb, hml, hown, hts⟩ (a_X10_hasCity l G ct a0 a1 a3 a11 a25 a68 a69 a77 a82 a84 a88 a91 a12 a19 a24 n11_3 a13 a15 a16 a17 a18 n12_5 n12_6) (cwV 0 hts gX10_winds_X10_hasCity rfl rfl rfl (by decide +kernel) ⟨Nat.le_of_ble_eq_true rfl, Nat.le_of_ble_eq_true rfl⟩) (ro_preV 10 0 hK (hP.sub [0, 1, 2] rfl) rfl rfl) rfl rfl hl.1 rfl (lv_room (Nat.le_of_ble_eq_true rfl)) dX10_winds_1 ⟨Nat.zero_le _, Nat.zero_le _⟩) hS hP (fun r1 H locs wr1 hP hS => ?_)
  obtain ⟨p_1, p_2, p_3, -⟩ := wr1
  refine lv_if_eq (tgt := 21) hx hb dX10_winds_4 (by decide) (fun c4 => ?_) (fun c4 => ?_)
  · have h_4 : rg 0 0 r1 := r_eq_l_i (e := 0) (f := 0) c4 p_1 (rgn 0 (x := 0) (by decide)) (by decide)
    have h_5 : rg (-2147483648) 0 n12_5 := (p_3 (req h_4 (y := 0) (by decide)))
    refine lv_bipush (v := (-2)) hx hb dX10_winds_21 (by decide) ?_
    exact W.iret (v := (-2)) hx hb hr (fun t ht hW => ⟨⟨(-2), (fun k => ([n85_1] : List Int32).getD k 0, fun k => ([f86, f87] : List (Nat → Int32)).getD k (fun _ => 0), fun k => ([fun _ => l84_2] : List (Nat → Int64)).getD k (fun _ => 0)), rfl, ⟨(fun hq => absurd hq (rne (rgn (-2) (x := (-2)) (by decide)) (y := 0) (c := 0) (by decide) (by decide))), (fun hq => absurd hq (rne (rgn (-2) (x := (-2)) (by decide)) (y := (-1)) (c := (-1)) (by decide) (by decide))), (fun hq => absurd (req (rgn (-2) (x := (-2)) (by decide)) (y := (-2)) (by decide)) hq), (fun hq => absurd hq (rne (rgn (-2) (x := (-2)) (by decide)) (y := 0) (c := 0) (by decide) (by decide))), (fun hq => absurd hq (rne (rgn (-2) (x := (-2)) (by decide)) (y := (-1)) (c := (-1)) (by decide) (by decide))), (fun hq => absurd (req (rgn (-2) (x := (-2)) (by decide)) (y := (-2)) (by decide)) hq), (fun hq => absurd hq (rne (rgn (-2) (x := (-2)) (by decide)) (y := 0) (c := 0) (by decide) (by decide))), (fun hq => absurd hq (rne (rgn (-2) (x := (-2)) (by decide)) (y := (-1)) (c := (-1)) (by decide) (by decide))), (fun hq => absurd (req (rgn (-2) (x := (-2)) (by decide)) (y := (-2)) (by decide)) hq), hp_n85_1, trivial⟩, hp_at ht hP⟩, hS.F ht⟩) hS.2.2 dX10_winds_23
  · have h_6 : rg 1 1 r1 := r_ne_lo_i c4 p_1 (by decide) (by decide)
    have h_7 : rg 1 2147483647 n12_5 := (p_2 (rne h_6 (y := 0) (c := 0) (by decide) (by decide)))
    refine lv_iload_n hx hb dX10_winds_7 rfl (lv_at hl 1 rfl) ?_
    refine ro_calli (va_runS (As := [.int p0]) (rest := []) ⟨hx, hb, hml, hown, hts⟩ (a_X10_isSeed l G ct p0) (va_cwS 1 hts gX10_winds_X10_isSeed rfl rfl rfl (by decide +kernel) ⟨Nat.le_of_ble_eq_true rfl, Nat.le_of_ble_eq_true rfl⟩) (ro_pre hK (hP.sub [] rfl)) rfl rfl hl.1 rfl (lv_room (Nat.le_of_ble_eq_true rfl)) dX10_winds_8 ⟨Nat.zero_le _, Nat.zero_le _⟩) hS hP (fun r8 H locs wr8 hP hS => ?_)
    obtain ⟨p_8, p_9, -⟩ := wr8
    refine lv_if_eq (tgt := 21) hx hb dX10_winds_11 (by decide) (fun c11 => ?_) (fun c11 => ?_)
    · have h_10 : rg 0 0 r8 := r_eq_l_i (e := 0) (f := 0) c11 p_8 (rgn 0 (x := 0) (by decide)) (by decide)
      refine lv_bipush (v := (-2)) hx hb dX10_winds_21 (by decide) ?_
      exact W.iret (v := (-2)) hx hb hr (fun t ht hW => ⟨⟨(-2), (fun k => ([n85_1] : List Int32).getD k 0, fun k => ([f86, f87] : List (Nat → Int32)).getD k (fun _ => 0), fun k => ([fun _ => l84_2] : List (Nat → Int64)).getD k (fun _ => 0)), rfl, ⟨(fun hq => absurd hq (rne (rgn (-2) (x := (-2)) (by decide)) (y := 0) (c := 0) (by decide) (by decide))), (fun hq => absurd hq (rne (rgn (-2) (x := (-2)) (by decide)) (y := (-1)) (c := (-1)) (by decide) (by decide))), (fun hq => absurd (req (rgn (-2) (x := (-2)) (by decide)) (y := (-2)) (by decide)) hq), (fun hq => absurd hq (rne (rgn (-2) (x := (-2)) (by decide)) (y := 0) (c := 0) (by decide) (by decide))), (fun hq => absurd hq (rne (rgn (-2) (x := (-2)) (by decide)) (y := (-1)) (c := (-1)) (by decide) (by decide))), (fun hq => absurd (req (rgn (-2) (x := (-2)) (by decide)) (y := (-2)) (by decide)) hq), (fun _ => h_7), (fun _ => h_7), (fun _ => h_7), hp_n85_1, trivial⟩, hp_at ht hP⟩, hS.F ht⟩) hS.2.2 dX10_winds_23
    · have h_11 : rg 1 1 r8 := r_ne_lo_i c11 p_8 (by decide) (by decide)
      have h_12 : rg 0 2000000000 p0 := (p_9 (rne h_11 (y := 0) (c := 0) (by decide) (by decide)))
      refine lv_iload_n hx hb dX10_winds_14 rfl (lv_at hl 2 rfl) ?_
      refine ro_calli (va_runS (As := [.int p1]) (rest := []) ⟨hx, hb, hml, hown, hts⟩ (a_X10_isSquareNumber l G ct p1) (va_cwS 1 hts gX10_winds_X10_isSquareNumber rfl rfl rfl (by decide +kernel) ⟨Nat.le_of_ble_eq_true rfl, Nat.le_of_ble_eq_true rfl⟩) (ro_pre hK (hP.sub [] rfl)) rfl rfl hl.1 rfl (lv_room (Nat.le_of_ble_eq_true rfl)) dX10_winds_15 ⟨Nat.zero_le _, Nat.zero_le _⟩) hS hP (fun r15 H locs wr15 hP hS => ?_)
      obtain ⟨p_13, p_14, -⟩ := wr15
      refine lv_if_ne (tgt := 24) hx hb dX10_winds_18 (by decide) (fun c18 => ?_) (fun c18 => ?_)
      · have h_15 : rg 1 1 r15 := r_ne_lo_i c18 p_13 (by decide) (by decide)
        have h_16 : rg 1 20 p1 := (p_14 (rne h_15 (y := 0) (c := 0) (by decide) (by decide)))
        refine lv_iconst (v := 0) hx hb dX10_winds_24 (by decide) ?_
        refine lv_istore_n (lv' := [(3, .int 0), (0, .ref a0), (1, .int p0), (2, .int p1)]) hx hb dX10_winds_25 rfl hl (by decide) rfl (fun ls hl => ?_)
        refine lv_iconst (v := 0) hx hb dX10_winds_26 (by decide) ?_
        refine lv_istore (lv' := [(4, .int 0), (3, .int 0), (0, .ref a0), (1, .int p0), (2, .int p1)]) hx hb dX10_winds_27 hl (by decide) rfl (fun ls hl => ?_)
        have j29 : ∀ (n : Nat) (x29_3 : Int32) (x29_4 : Int32) (v29_5_2 : Int64) (v29_6_1 : Int32) (f29_7 : Nat → Int32) (f29_8 : Nat → Int32) (H : Heap) (locs : List Loc) (ls : Array Slot), 2147483648 ≤ x29_4.toInt + (n : Int) → rg 0 20 x29_4 → rg 0 8 v29_6_1 → va_P G vwCl [(a0, .inr (10, [.ref a1, .ref a3, .ref a11, .ref a25, .ref a68, .ref a69, .ref a77, .ref a82, .ref a84, .ref a88, .ref a91])), (a11, .inr (4, [.ref a12, .ref a19, .ref a24, .int n11_3])), (a12, .inr (9, [.ref a13, .ref a15, .ref a16, .ref a17, .ref a18, .int n12_5, .int n12_6])), (a19, .inr (2, [.ref a12, .ref a20, .ref a22, .ref a23, .int n19_4, .int n19_5, .int n19_6, .int n19_7])), (a20, .inr (0, [.ref a21, .int n20_1])), (a84, .inr (7, [.ref a85, .ref a87, .long v29_5_2])), (a85, .inr (0, [.ref a86, .int v29_6_1])), (a86, .inl (ct 0, 8, .inl f29_7)), (a87, .inl (ct 0, 8, .inl f29_8))] H → va_D A [(a0, .inr (10, [.ref a1, .ref a3, .ref a11, .ref a25, .ref a68, .ref a69, .ref a77, .ref a82, .ref a84, .ref a88, .ref a91])), (a11, .inr (4, [.ref a12, .ref a19, .ref a24, .int n11_3])), (a12, .inr (9, [.ref a13, .ref a15, .ref a16, .ref a17, .ref a18, .int n12_5, .int n12_6])), (a19, .inr (2, [.ref a12, .ref a20, .ref a22, .ref a23, .int n19_4, .int n19_5, .int n19_6, .int n19_7])), (a20, .inr (0, [.ref a21, .int n20_1])), (a84, .inr (7, [.ref a85, .ref a87, .long v29_5_2])), (a85, .inr (0, [.ref a86, .int v29_6_1])), (a86, .inl (ct 0, 8, .inl f29_7)), (a87, .inl (ct 0, 8, .inl f29_8))] → va_S A s.heap H locs → lv_has ls 5 [(0, .ref a0), (1, .int p0), (2, .int p1), (3, .int x29_3), (4, .int x29_4)] → W p l e (headSpec wsX10_winds ({ frames := 6, cells := 0, slots := 0, locals := 133 })).room s m ([.ref a0, .int p0, .int p1] : List Value).toArray below meth c H locs 0 0 (MQ below (va_Qi (fun (r : Int32) (u : SU) => (r = 0 → rg 0 2000000000 p0) ∧ (r = (-1) → rg 0 2000000000 p0) ∧ (¬ r = (-2) → rg 0 2000000000 p0) ∧ (r = 0 → rg 1 20 p1) ∧ (r = (-1) → rg 1 20 p1) ∧ (¬ r = (-2) → rg 1 20 p1) ∧ (r = 0 → rg 1 2147483647 n12_5) ∧ (r = (-1) → rg 1 2147483647 n12_5) ∧ (¬ r = (-2) → rg 1 2147483647 n12_5) ∧ rg 0 8 (u.1 0) ∧ True) (fun u t => va_P G vwCl ((fun u : SU => [(a0, .inr (10, [.ref a1, .ref a3, .ref a11, .ref a25, .ref a68, .ref a69, .ref a77, .ref a82, .ref a84, .ref a88, .ref a91])), (a11, .inr (4, [.ref a12, .ref a19, .ref a24, .int n11_3])), (a12, .inr (9, [.ref a13, .ref a15, .ref a16, .ref a17, .ref a18, .int n12_5, .int n12_6])), (a19, .inr (2, [.ref a12, .ref a20, .ref a22, .ref a23, .int n19_4, .int n19_5, .int n19_6, .int n19_7])), (a20, .inr (0, [.ref a21, .int n20_1])), (a84, .inr (7, [.ref a85, .ref a87, .long (u.2.2 0 0)])), (a85, .inr (0, [.ref a86, .int (u.1 0)])), (a86, .inl (ct 0, 8, .inl (u.2.1 0))), (a87, .inl (ct 0, 8, .inl (u.2.1 1)))]) u) t.heap) A) ([.ref a0, .int p0, .int p1] : List Value).toArray s 0 0 A) (F0 m 29 ls []) := by
          intro n
          induction n with
          | zero => intro x29_3 x29_4 v29_5_2 v29_6_1 f29_7 f29_8 H locs ls hn29 hx29_4 hv29_6_1 hP hD hS hl; exact absurd hn29 (by have := Int32.toInt_lt x29_4; have := Int32.le_toInt x29_4; omega)
          | succ n ih29 =>
            intro x29_3 x29_4 v29_5_2 v29_6_1 f29_7 f29_8 H locs ls hn29 hx29_4 hv29_6_1 hP hD hS hl
            refine lv_iload hx hb dX10_winds_29 (lv_at hl 4 rfl) ?_
            refine lv_iload_n hx hb dX10_winds_31 rfl (lv_at hl 2 rfl) ?_
            refine lv_icmp_ge (tgt := 72) hx hb dX10_winds_32 (by decide) (fun c32 => ?_) (fun c32 => ?_)
            · have h_17 : rg 1 20 x29_4 := r_le_r_i c32 h_16 hx29_4
              refine lv_iload_n hx hb dX10_winds_72 rfl (lv_at hl 3 rfl) ?_
              exact W.iret (v := x29_3) hx hb hr (fun t ht hW => ⟨⟨x29_3, (fun k => ([v29_6_1] : List Int32).getD k 0, fun k => ([f29_7, f29_8] : List (Nat → Int32)).getD k (fun _ => 0), fun k => ([fun _ => v29_5_2] : List (Nat → Int64)).getD k (fun _ => 0)), rfl, ⟨(fun _ => h_12), (fun _ => h_12), (fun _ => h_12), (fun _ => h_16), (fun _ => h_16), (fun _ => h_16), (fun _ => h_7), (fun _ => h_7), (fun _ => h_7), hv29_6_1, trivial⟩, hp_at ht hP⟩, hS.F ht⟩) hS.2.2 dX10_winds_73
            · have h_18 : rg 0 19 x29_4 := r_lt_l_i (nle_i c32) hx29_4 h_16 (by decide)
              refine lv_aload_n hx hb dX10_winds_35 rfl (lv_at hl 0 rfl) ?_
              refine va_get (D := G) (ci := 10) (v := .ref a84) (C := RX10) (T := TX10) (N := 11) hx hb hts (by decide +kernel) hown hK.1 hP 0 rfl rfl 8 (by decide) (hts (.fieldLink RX10 70 "CardHolder" "square" "LCardHolder$Square;") (by decide +kernel)) (fun _ h9 => h9) rfl dX10_winds_36 ?_
              refine lv_iload_n hx hb dX10_winds_39 rfl (lv_at hl 1 rfl) ?_
              refine lv_iload hx hb dX10_winds_40 (lv_at hl 4 rfl) ?_
              refine lv_iadd hx hb dX10_winds_42 ?_
              refine nm_add (e1 := 0) (f := 2000000019) h_12 h_18 (by decide) (fun z42 hz42 ez42 => ?_)
              refine lv_aload_n hx hb dX10_winds_43 rfl (lv_at hl 0 rfl) ?_
              refine ro_callr (va_runV (As := []) (rest := [.int z42, .ref a84]) ⟨hx, hb, hml, hown, hts⟩ (a_X10_bonds l G ct a0 a1 a3 a11 a25 a68 a69 a77 a82 a84 a88 a91 a12 a19 a24 n11_3 a20 a22 a23 n19_4 n19_5 n19_6 n19_7) (cwV 0 hts gX10_winds_X10_bonds rfl rfl rfl (by decide +kernel) ⟨Nat.le_of_ble_eq_true rfl, Nat.le_of_ble_eq_true rfl⟩) (ro_preV 10 0 hK (hP.sub [0, 1, 3] rfl) rfl rfl) rfl rfl hl.1 rfl (lv_room (Nat.le_of_ble_eq_true rfl)) dX10_winds_44 ⟨Nat.zero_le _, Nat.zero_le _⟩) hS hP (fun H locs hP hS => ?_)
              refine va_get (D := G) (ci := 0) (v := .int n20_1) (C := RX0) (T := TX0) (N := 2) hx hb hts (by decide +kernel) hown hK.1 hP 4 rfl rfl 1 (by decide) (hts (.fieldLink RX10 238 "CardHolder$Bonds" "persons" "I") (by decide +kernel)) (fun _ h9 => h9) rfl dX10_winds_47 ?_
              refine wj_callv (wr := [(a0, .inr (10, [.ref a1, .ref a3, .ref a11, .ref a25, .ref a68, .ref a69, .ref a77, .ref a82, .ref a84, .ref a88, .ref a91])), (a11, .inr (4, [.ref a12, .ref a19, .ref a24, .int n11_3])), (a12, .inr (9, [.ref a13, .ref a15, .ref a16, .ref a17, .ref a18, .int n12_5, .int n12_6])), (a19, .inr (2, [.ref a12, .ref a20, .ref a22, .ref a23, .int n19_4, .int n19_5, .int n19_6, .int n19_7])), (a20, .inr (0, [.ref a21, .int n20_1]))]) (w1 := (fun u : SU => [(a84, .inr (7, [.ref a85, .ref a87, .long (u.2.2 0 0)])), (a85, .inr (0, [.ref a86, .int (u.1 0)])), (a86, .inl (ct 0, 8, .inl (u.2.1 0))), (a87, .inl (ct 0, 8, .inl (u.2.1 1)))])) (va_runV (As := [.int z42, .int n20_1]) (rest := []) ⟨hx, hb, hml, hown, hts⟩ (a_X7_deal l G ct a84 a85 a87 v29_5_2 a86 v29_6_1 f29_7 f29_8 z42 n20_1 hv29_6_1 hp_n20_1) (cwV 2 hts gX10_winds_X7_deal rfl rfl rfl (by decide +kernel) ⟨Nat.le_of_ble_eq_true rfl, Nat.le_of_ble_eq_true rfl⟩) (wr_preV 7 0 hK (hP.sub [5, 6, 7, 8] rfl) (hD.sub [5, 6, 7, 8] (by decide) rfl) rfl rfl) rfl rfl hl.1 rfl (lv_room (Nat.le_of_ble_eq_true rfl)) dX10_winds_50 ⟨Nat.zero_le _, Nat.zero_le _⟩) hS hP hD [5, 6, 7, 8] [0, 1, 2, 3, 4] rfl rfl (by decide) (fun _ => rfl) (fun ur50 H locs wr50 hP hD hS => ?_)
              have hP : va_P G vwCl [(a0, .inr (10, [.ref a1, .ref a3, .ref a11, .ref a25, .ref a68, .ref a69, .ref a77, .ref a82, .ref a84, .ref a88, .ref a91])), (a11, .inr (4, [.ref a12, .ref a19, .ref a24, .int n11_3])), (a12, .inr (9, [.ref a13, .ref a15, .ref a16, .ref a17, .ref a18, .int n12_5, .int n12_6])), (a19, .inr (2, [.ref a12, .ref a20, .ref a22, .ref a23, .int n19_4, .int n19_5, .int n19_6, .int n19_7])), (a20, .inr (0, [.ref a21, .int n20_1])), (a84, .inr (7, [.ref a85, .ref a87, .long (ur50.2.2 0 0)])), (a85, .inr (0, [.ref a86, .int (ur50.1 0)])), (a86, .inl (ct 0, 8, .inl (ur50.2.1 0))), (a87, .inl (ct 0, 8, .inl (ur50.2.1 1)))] H := hP.sub [0, 1, 2, 3, 4, 5, 6, 7, 8] rfl
              have hD : va_D A [(a0, .inr (10, [.ref a1, .ref a3, .ref a11, .ref a25, .ref a68, .ref a69, .ref a77, .ref a82, .ref a84, .ref a88, .ref a91])), (a11, .inr (4, [.ref a12, .ref a19, .ref a24, .int n11_3])), (a12, .inr (9, [.ref a13, .ref a15, .ref a16, .ref a17, .ref a18, .int n12_5, .int n12_6])), (a19, .inr (2, [.ref a12, .ref a20, .ref a22, .ref a23, .int n19_4, .int n19_5, .int n19_6, .int n19_7])), (a20, .inr (0, [.ref a21, .int n20_1])), (a84, .inr (7, [.ref a85, .ref a87, .long (ur50.2.2 0 0)])), (a85, .inr (0, [.ref a86, .int (ur50.1 0)])), (a86, .inl (ct 0, 8, .inl (ur50.2.1 0))), (a87, .inl (ct 0, 8, .inl (ur50.2.1 1)))] := hD.sub [0, 1, 2, 3, 4, 5, 6, 7, 8] (by decide) rfl
              obtain ⟨p_19, p_20, -⟩ := wr50
              refine lv_iload_n hx hb dX10_winds_53 rfl (lv_at hl 3 rfl) ?_
              refine lv_aload_n hx hb dX10_winds_54 rfl (lv_at hl 0 rfl) ?_
              refine va_get (D := G) (ci := 10) (v := .ref a84) (C := RX10) (T := TX10) (N := 11) hx hb hts (by decide +kernel) hown hK.1 hP 0 rfl rfl 8 (by decide) (hts (.fieldLink RX10 70 "CardHolder" "square" "LCardHolder$Square;") (by decide +kernel)) (fun _ h9 => h9) rfl dX10_winds_55 ?_
              refine va_get (D := G) (ci := 7) (v := .ref a85) (C := RX7) (T := TX7) (N := 3) hx hb hts (by decide +kernel) hown hK.1 hP 5 rfl rfl 0 (by decide) (hts (.fieldLink RX10 374 "CardHolder$Square" "dealt" "LCardHolder$Bonds;") (by decide +kernel)) (fun _ h9 => h9) rfl dX10_winds_58 ?_
              refine ro_calli (va_runV (As := []) (rest := [.int x29_3]) ⟨hx, hb, hml, hown, hts⟩ (a_X0_ringCount l G ct a85 a86 (ur50.1 0) (ur50.2.1 0) p_20) (cwV 0 hts gX10_winds_X0_ringCount rfl rfl rfl (by decide +kernel) ⟨Nat.le_of_ble_eq_true rfl, Nat.le_of_ble_eq_true rfl⟩) (ro_preV 0 0 hK (hP.sub [6, 7] rfl) rfl rfl) rfl rfl hl.1 rfl (lv_room (Nat.le_of_ble_eq_true rfl)) dX10_winds_61 ⟨Nat.zero_le _, Nat.zero_le _⟩) hS hP (fun r61 H locs wr61 hP hS => ?_)
              refine lv_iadd hx hb dX10_winds_64 ?_
              refine nm_0 (fun z64 => ?_)
              refine lv_istore_n (lv' := [(3, .int z64), (0, .ref a0), (1, .int p0), (2, .int p1), (4, .int x29_4)]) hx hb dX10_winds_65 rfl hl (by decide) rfl (fun ls hl => ?_)
              obtain ⟨z66, qz66⟩ : ∃ y : Int32, y = x29_4 + Int32.ofInt 1 := ⟨_, rfl⟩
              obtain ⟨hz66, ez66⟩ := inc_z (e := 1) (f := 20) h_18 qz66 (by decide)
              refine lv_iinc (v := z66) (lv' := [(4, .int z66), (3, .int z64), (0, .ref a0), (1, .int p0), (2, .int p1)]) hx hb dX10_winds_66 hl (k := 4) rfl (qz66.symm) (by decide) rfl (fun ls hl => ?_)
              refine lv_goto (tgt := 29) hx hb dX10_winds_69 (by decide) ?_
              exact ih29 z64 z66 (ur50.2.2 0 0) (ur50.1 0) (ur50.2.1 0) (ur50.2.1 1) _ _ ls (by have q := hn29; have := ez66; omega) (rg_w (c := 0) (d := 20) hz66 (by decide)) p_20 hP hD hS (lv_sub hl [2, 3, 4, 1, 0] rfl)
        exact j29 4294967296 (0 : Int32) (0 : Int32) l84_2 n85_1 f86 f87 _ _ ls (ms_e (0 : Int32)) (rg_w (c := 0) (d := 20) (rgn 0 (x := 0) (by decide)) (by decide)) hp_n85_1 hP hD hS (lv_sub hl [2, 3, 4, 1, 0] rfl)
      · have h_21 : rg 0 0 r15 := r_eq_l_i (e := 0) (f := 0) c18 p_13 (rgn 0 (x := 0) (by decide)) (by decide)
        refine lv_bipush (v := (-2)) hx hb dX10_winds_21 (by decide) ?_
        exact W.iret (v := (-2)) hx hb hr (fun t ht hW => ⟨⟨(-2), (fun k => ([n85_1] : List Int32).getD k 0, fun k => ([f86, f87] : List (Nat → Int32)).getD k (fun _ => 0), fun k => ([fun _ => l84_2] : List (Nat → Int64)).getD k (fun _ => 0)), rfl, ⟨(fun _ => h_12), (fun _ => h_12), (fun _ => h_12), (fun hq => absurd hq (rne (rgn (-2) (x := (-2)) (by decide)) (y := 0) (c := 0) (by decide) (by decide))), (fun hq => absurd hq (rne (rgn (-2) (x := (-2)) (by decide)) (y := (-1)) (c := (-1)) (by decide) (by decide))), (fun hq => absurd (req (rgn (-2) (x := (-2)) (by decide)) (y := (-2)) (by decide)) hq), (fun _ => h_7), (fun _ => h_7), (fun _ => h_7), hp_n85_1, trivial⟩, hp_at ht hP⟩, hS.F ht⟩) hS.2.2 dX10_winds_23

set_option maxHeartbeats 4000000 in
set_option maxRecDepth 100000 in
theorem a_X10_rate (l : Launch) (G : va_G) (ct : Nat → ClassId) (a0 : Nat) (a1 : Nat) (a3 : Nat) (a11 : Nat) (a25 : Nat) (a68 : Nat) (a69 : Nat) (a77 : Nat) (a82 : Nat) (a84 : Nat) (a88 : Nat) (a91 : Nat) (a12 : Nat) (a19 : Nat) (a24 : Nat) (n11_3 : Int32) (a13 : Nat) (a15 : Nat) (a16 : Nat) (a17 : Nat) (a18 : Nat) (n12_5 : Int32) (n12_6 : Int32) (a14 : Nat) (n13_1 : Int32) (f15 : Nat → Int32) (a20 : Nat) (a22 : Nat) (a23 : Nat) (n19_4 : Int32) (n19_5 : Int32) (n19_6 : Int32) (n19_7 : Int32) (a21 : Nat) (n20_1 : Int32) (p0 : Int32) (p1 : Int32) (hp_n13_1 : rg 0 8 n13_1) (hp_n20_1 : rg 0 8 n20_1) : Met l yX10_rate wsX10_rate ({ frames := 2, cells := 0, slots := 0, locals := 42 }) (va_Pc [.ref a0, .int p0, .int p1] (wrP G ct [(a0, .inr (10, [.ref a1, .ref a3, .ref a11, .ref a25, .ref a68, .ref a69, .ref a77, .ref a82, .ref a84, .ref a88, .ref a91])), (a11, .inr (4, [.ref a12, .ref a19, .ref a24, .int n11_3])), (a12, .inr (9, [.ref a13, .ref a15, .ref a16, .ref a17, .ref a18, .int n12_5, .int n12_6])), (a13, .inr (0, [.ref a14, .int n13_1])), (a15, .inl (ct 0, 8, .inl f15)), (a19, .inr (2, [.ref a12, .ref a20, .ref a22, .ref a23, .int n19_4, .int n19_5, .int n19_6, .int n19_7])), (a20, .inr (0, [.ref a21, .int n20_1]))])) (va_Qi (fun (r : Int32) (u : SU) => (r = 0 → rg 0 7 p0) ∧ (r = (-1) → rg 0 7 p0) ∧ (¬ r = (-2) → rg 0 7 p0) ∧ (r = 0 → rg 1 999 p1) ∧ (r = (-1) → rg 1 999 p1) ∧ (¬ r = (-2) → rg 1 999 p1) ∧ (r = 0 → rg (-2147483648) 0 n11_3) ∧ (r = (-1) → rg (-2147483648) 0 n11_3) ∧ (r = (-1) → rg 1 8 n13_1) ∧ (r = 0 → rg 1 8 n20_1) ∧ (r = (-1) → rg 1 8 n20_1) ∧ (¬ r = (-2) → rg 1 8 n20_1) ∧ True) (fun u t => va_P G vwCl ((fun u : SU => [(a0, .inr (10, [.ref a1, .ref a3, .ref a11, .ref a25, .ref a68, .ref a69, .ref a77, .ref a82, .ref a84, .ref a88, .ref a91])), (a11, .inr (4, [.ref a12, .ref a19, .ref a24, .int n11_3])), (a12, .inr (9, [.ref a13, .ref a15, .ref a16, .ref a17, .ref a18, .int n12_5, .int n12_6])), (a13, .inr (0, [.ref a14, .int n13_1])), (a15, .inl (ct 0, 8, .inl (u.2.1 0))), (a19, .inr (2, [.ref a12, .ref a20, .ref a22, .ref a23, .int n19_4, .int n19_5, .int n19_6, .int n19_7])), (a20, .inr (0, [.ref a21, .int n20_1]))]) u) t.heap) (aset [(a0, .inr (10, [.ref a1, .ref a3, .ref a11, .ref a25, .ref a68, .ref a69, .ref a77, .ref a82, .ref a84, .ref a88, .ref a91])), (a11, .inr (4, [.ref a12, .ref a19, .ref a24, .int n11_3])), (a12, .inr (9, [.ref a13, .ref a15, .ref a16, .ref a17, .ref a18, .int n12_5, .int n12_6])), (a13, .inr (0, [.ref a14, .int n13_1])), (a15, .inl (ct 0, 8, .inl f15)), (a19, .inr (2, [.ref a12, .ref a20, .ref a22, .ref a23, .int n19_4, .int n19_5, .int n19_6, .int n19_7])), (a20, .inr (0, [.ref a21, .int n20_1]))])) 0 0 (aset [(a0, .inr (10, [.ref a1, .ref a3, .ref a11, .ref a25, .ref a68, .ref a69, .ref a77, .ref a82, .ref a84, .ref a88, .ref a91])), (a11, .inr (4, [.ref a12, .ref a19, .ref a24, .int n11_3])), (a12, .inr (9, [.ref a13, .ref a15, .ref a16, .ref a17, .ref a18, .int n12_5, .int n12_6])), (a13, .inr (0, [.ref a14, .int n13_1])), (a15, .inl (ct 0, 8, .inl f15)), (a19, .inr (2, [.ref a12, .ref a20, .ref a22, .ref a23, .int n19_4, .int n19_5, .int n19_6, .int n19_7])), (a20, .inr (0, [.ref a21, .int n20_1]))]) := by
  refine Met.ofW (cc := cX10_rate) (maxL := 4) (ret := (some .int)) (by decide) rfl ?_
  intro p e s m args below meth c s₁ B hml hv
  obtain ⟨rfl, hP, hK, hD0⟩ := hv
  have hx := B.exec
  have hb := B.bytes
  have hr := B.returns
  have hts := atoms_spec (ws := wsX10_rate) B.pre
  have hown : s.vm.findClass RX10 = some m.cls := findClass_of_methodNamed B.named
  have hlocks := B.notSynchronized
  have hD := hD0.aself
  generalize hAe : aset [(a0, .inr (10, [.ref a1, .ref a3, .ref a11, .ref a25, .ref a68, .ref a69, .ref a77, .ref a82, .ref a84, .ref a88, .ref a91])), (a11, .inr (4, [.ref a12, .ref a19, .ref a24, .int n11_3])), (a12, .inr (9, [.ref a13, .ref a15, .ref a16, .ref a17, .ref a18, .int n12_5, .int n12_6])), (a13, .inr (0, [.ref a14, .int n13_1])), (a15, .inl (ct 0, 8, .inl f15)), (a19, .inr (2, [.ref a12, .ref a20, .ref a22, .ref a23, .int n19_4, .int n19_5, .int n19_6, .int n19_7])), (a20, .inr (0, [.ref a21, .int n20_1]))] = A at hD ⊢
  have hS : va_S A s.heap s.heap [] := va_S.rf
  have hl := lv_entry ([.ref a0, .int p0, .int p1]) (n := 4) (Nat.le_of_ble_eq_true rfl)
  rw [lg_entry_eq]
  generalize (lg_sl ([.ref a0, .int p0, .int p1]) ++ List.replicate (4 - (lg_sl ([.ref a0, .int p0, .int p1])).length) Slot.unset).toArray = ls at hl ⊢
  have hl : lv_has ls 4 [(0, .ref a0), (1, .int p0), (2, .int p1)] := hl
  refine lv_aload_n hx hb dX10_rate_0 rfl (lv_at hl 0 rfl) ?_
  refine lv_iload_n hx hb dX10_rate_1 rfl (lv_at hl 1 rfl) ?_
  refine ro_calli (va_runV (As := [.int p0]) (rest := []) ⟨hx, hb, hml, hown, hts⟩ (a_X10_isPerson l G ct a0 a1 a3 a11 a25 a68 a69 a77 a82 a84 a88 a91 a12 a19 a24 n11_3 a20 a22 a23 n19_4 n19_5 n19_6 n19_7 a21 n20_1 p0 hp_n20_1) (cwV 1 hts gX10_rate_X10_isPerson rfl rfl rfl (by decide +kernel) ⟨Nat.le_of_ble_eq_true rfl, Nat.le_of_ble_eq_true rfl⟩) (ro_preV 10 0 hK (hP.sub [0, 1, 5, 6] rfl) rfl rfl) rfl rfl hl.1 rfl (lv_room (Nat.le_of_ble_eq_true rfl)) dX10_rate_2 ⟨Nat.zero_le _, Nat.zero_le _⟩) hS hP (fun r2 H locs wr2 hP hS => ?_)
  obtain ⟨p_1, p_2, p_3, -⟩ := wr2
  refine lv_if_eq (tgt := 20) hx hb dX10_rate_5 (by decide) (fun c5 => ?_) (fun c5 => ?_)
  · have h_4 : rg 0 0 r2 := r_eq_l_i (e := 0) (f := 0) c5 p_1 (rgn 0 (x := 0) (by decide)) (by decide)
    refine lv_bipush (v := (-2)) hx hb dX10_rate_20 (by decide) ?_
    exact W.iret (v := (-2)) hx hb hr (fun t ht hW => ⟨⟨(-2), (fun k => ([] : List Int32).getD k 0, fun k => ([f15] : List (Nat → Int32)).getD k (fun _ => 0), fun k => ([] : List (Nat → Int64)).getD k (fun _ => 0)), rfl, ⟨(fun hq => absurd hq (rne (rgn (-2) (x := (-2)) (by decide)) (y := 0) (c := 0) (by decide) (by decide))), (fun hq => absurd hq (rne (rgn (-2) (x := (-2)) (by decide)) (y := (-1)) (c := (-1)) (by decide) (by decide))), (fun hq => absurd (req (rgn (-2) (x := (-2)) (by decide)) (y := (-2)) (by decide)) hq), (fun hq => absurd hq (rne (rgn (-2) (x := (-2)) (by decide)) (y := 0) (c := 0) (by decide) (by decide))), (fun hq => absurd hq (rne (rgn (-2) (x := (-2)) (by decide)) (y := (-1)) (c := (-1)) (by decide) (by decide))), (fun hq => absurd (req (rgn (-2) (x := (-2)) (by decide)) (y := (-2)) (by decide)) hq), (fun hq => absurd hq (rne (rgn (-2) (x := (-2)) (by decide)) (y := 0) (c := 0) (by decide) (by decide))), (fun hq => absurd hq (rne (rgn (-2) (x := (-2)) (by decide)) (y := (-1)) (c := (-1)) (by decide) (by decide))), (fun hq => absurd hq (rne (rgn (-2) (x := (-2)) (by decide)) (y := (-1)) (c := (-1)) (by decide) (by decide))), (fun hq => absurd hq (rne (rgn (-2) (x := (-2)) (by decide)) (y := 0) (c := 0) (by decide) (by decide))), (fun hq => absurd hq (rne (rgn (-2) (x := (-2)) (by decide)) (y := (-1)) (c := (-1)) (by decide) (by decide))), (fun hq => absurd (req (rgn (-2) (x := (-2)) (by decide)) (y := (-2)) (by decide)) hq), trivial⟩, hp_at ht hP⟩, hS.F ht⟩) hS.2.2 dX10_rate_22
  · have h_5 : rg 1 1 r2 := r_ne_lo_i c5 p_1 (by decide) (by decide)
    have h_6 : rg 0 7 p0 := (p_2 (rne h_5 (y := 0) (c := 0) (by decide) (by decide)))
    have h_7 : rg 1 8 n20_1 := (p_3 (rne h_5 (y := 0) (c := 0) (by decide) (by decide)))
    refine lv_iload_n hx hb dX10_rate_8 rfl (lv_at hl 2 rfl) ?_
    refine lv_iconst (v := 1) hx hb dX10_rate_9 (by decide) ?_
    refine lv_icmp_lt (tgt := 20) hx hb dX10_rate_10 (by decide) (fun c10 => ?_) (fun c10 => ?_)
    · have h_8 : rg (-2147483648) 0 p1 := r_lt_l_i c10 (rg_t p1) (rgn 1 (x := 1) (by decide)) (by decide)
      refine lv_bipush (v := (-2)) hx hb dX10_rate_20 (by decide) ?_
      exact W.iret (v := (-2)) hx hb hr (fun t ht hW => ⟨⟨(-2), (fun k => ([] : List Int32).getD k 0, fun k => ([f15] : List (Nat → Int32)).getD k (fun _ => 0), fun k => ([] : List (Nat → Int64)).getD k (fun _ => 0)), rfl, ⟨(fun _ => h_6), (fun _ => h_6), (fun _ => h_6), (fun hq => absurd hq (rne (rgn (-2) (x := (-2)) (by decide)) (y := 0) (c := 0) (by decide) (by decide))), (fun hq => absurd hq (rne (rgn (-2) (x := (-2)) (by decide)) (y := (-1)) (c := (-1)) (by decide) (by decide))), (fun hq => absurd (req (rgn (-2) (x := (-2)) (by decide)) (y := (-2)) (by decide)) hq), (fun hq => absurd hq (rne (rgn (-2) (x := (-2)) (by decide)) (y := 0) (c := 0) (by decide) (by decide))), (fun hq => absurd hq (rne (rgn (-2) (x := (-2)) (by decide)) (y := (-1)) (c := (-1)) (by decide) (by decide))), (fun hq => absurd hq (rne (rgn (-2) (x := (-2)) (by decide)) (y := (-1)) (c := (-1)) (by decide) (by decide))), (fun _ => h_7), (fun _ => h_7), (fun _ => h_7), trivial⟩, hp_at ht hP⟩, hS.F ht⟩) hS.2.2 dX10_rate_22
    · have h_9 : rg 1 2147483647 p1 := r_le_r_i (nlt_i c10) (rgn 1 (x := 1) (by decide)) (rg_t p1)
      refine lv_iload_n hx hb dX10_rate_13 rfl (lv_at hl 2 rfl) ?_
      refine lv_sipush (v := 999) hx hb dX10_rate_14 (by decide) ?_
      refine lv_icmp_le (tgt := 23) hx hb dX10_rate_17 (by decide) (fun c17 => ?_) (fun c17 => ?_)
      · have h_10 : rg 1 999 p1 := r_le_l_i c17 h_9 (rgn 999 (x := 999) (by decide))
        refine lv_aload_n hx hb dX10_rate_23 rfl (lv_at hl 0 rfl) ?_
        refine va_get (D := G) (ci := 10) (v := .ref a11) (C := RX10) (T := TX10) (N := 11) hx hb hts (by decide +kernel) hown hK.1 hP 0 rfl rfl 2 (by decide) (hts (.fieldLink RX10 28 "CardHolder" "play" "LCardHolder$Play;") (by decide +kernel)) (fun _ h9 => h9) rfl dX10_rate_24 ?_
        refine va_get (D := G) (ci := 4) (v := .int n11_3) (C := RX4) (T := TX4) (N := 4) hx hb hts (by decide +kernel) hown hK.1 hP 1 rfl rfl 3 (by decide) (hts (.fieldLink RX10 226 "CardHolder$Play" "acts" "I") (by decide +kernel)) (fun _ h9 => h9) rfl dX10_rate_27 ?_
        refine lv_if_le (tgt := 36) hx hb dX10_rate_30 (by decide) (fun c30 => ?_) (fun c30 => ?_)
        · have h_11 : rg (-2147483648) 0 n11_3 := r_le_l_i c30 (rg_t n11_3) (rgn 0 (x := 0) (by decide))
          refine lv_aload_n hx hb dX10_rate_36 rfl (lv_at hl 0 rfl) ?_
          refine va_get (D := G) (ci := 10) (v := .ref a11) (C := RX10) (T := TX10) (N := 11) hx hb hts (by decide +kernel) hown hK.1 hP 0 rfl rfl 2 (by decide) (hts (.fieldLink RX10 28 "CardHolder" "play" "LCardHolder$Play;") (by decide +kernel)) (fun _ h9 => h9) rfl dX10_rate_37 ?_
          refine va_get (D := G) (ci := 4) (v := .ref a12) (C := RX4) (T := TX4) (N := 4) hx hb hts (by decide +kernel) hown hK.1 hP 1 rfl rfl 0 (by decide) (hts (.fieldLink RX10 49 "CardHolder$Play" "town" "LCardHolder$Town;") (by decide +kernel)) (fun _ h9 => h9) rfl dX10_rate_40 ?_
          refine lv_iload_n hx hb dX10_rate_43 rfl (lv_at hl 1 rfl) ?_
          refine ro_calli (va_runV (As := [.int p0]) (rest := []) ⟨hx, hb, hml, hown, hts⟩ (a_X9_worthOf l G ct a12 a13 a15 a16 a17 a18 n12_5 n12_6 a14 n13_1 f15 p0 hp_n13_1) (cwV 1 hts gX10_rate_X9_worthOf rfl rfl rfl (by decide +kernel) ⟨Nat.le_of_ble_eq_true rfl, Nat.le_of_ble_eq_true rfl⟩) (ro_preV 9 0 hK (hP.sub [2, 3, 4] rfl) rfl rfl) rfl rfl hl.1 rfl (lv_room (Nat.le_of_ble_eq_true rfl)) dX10_rate_44 ⟨Nat.zero_le _, Nat.zero_le _⟩) hS hP (fun r44 H locs wr44 hP hS => ?_)
          obtain ⟨p_12, p_13, p_14, p_15, -⟩ := wr44
          refine lv_istore_n (lv' := [(3, .int r44), (0, .ref a0), (1, .int p0), (2, .int p1)]) hx hb dX10_rate_47 rfl hl (by decide) rfl (fun ls hl => ?_)
          refine lv_aload_n hx hb dX10_rate_48 rfl (lv_at hl 1 rfl) ?_
          refine va_get (D := G) (ci := 10) (v := .ref a11) (C := RX10) (T := TX10) (N := 11) hx hb hts (by decide +kernel) hown hK.1 hP 0 rfl rfl 2 (by decide) (hts (.fieldLink RX10 28 "CardHolder" "play" "LCardHolder$Play;") (by decide +kernel)) (fun _ h9 => h9) rfl dX10_rate_49 ?_
          refine va_get (D := G) (ci := 4) (v := .ref a12) (C := RX4) (T := TX4) (N := 4) hx hb hts (by decide +kernel) hown hK.1 hP 1 rfl rfl 0 (by decide) (hts (.fieldLink RX10 49 "CardHolder$Play" "town" "LCardHolder$Town;") (by decide +kernel)) (fun _ h9 => h9) rfl dX10_rate_52 ?_
          refine va_get (D := G) (ci := 9) (v := .ref a15) (C := RX9) (T := TX9) (N := 7) hx hb hts (by decide +kernel) hown hK.1 hP 2 rfl rfl 1 (by decide) (hts (.fieldLink RX10 380 "CardHolder$Town" "worths" "[I") (by decide +kernel)) (fun _ h9 => h9) rfl dX10_rate_55 ?_
          refine lv_iload_n hx hb dX10_rate_58 rfl (lv_at hl 2 rfl) ?_
          refine lv_iload_n hx hb dX10_rate_59 rfl (lv_at hl 3 rfl) ?_
          refine va_iast hx hb hK.1 hP hD hS 4 0 rfl rfl (in_rg h_6 (by decide)) dX10_rate_60 (fun H locs hP hD hS => ?_)
          refine lv_iload_n hx hb dX10_rate_61 rfl (lv_at hl 0 rfl) ?_
          exact W.iret (v := r44) hx hb hr (fun t ht hW => ⟨⟨r44, (fun k => ([] : List Int32).getD k 0, fun k => ([upd f15 p0.toNatClampNeg p1] : List (Nat → Int32)).getD k (fun _ => 0), fun k => ([] : List (Nat → Int64)).getD k (fun _ => 0)), rfl, ⟨(fun _ => h_6), (fun _ => h_6), (fun _ => h_6), (fun _ => h_10), (fun _ => h_10), (fun _ => h_10), (fun _ => h_11), (fun _ => h_11), (fun hq => rg_w (p_15 hq) (by decide)), (fun _ => h_7), (fun _ => h_7), (fun _ => h_7), trivial⟩, hp_at ht hP⟩, hS.F ht⟩) hS.2.2 dX10_rate_62
        · have h_16 : rg 1 2147483647 n11_3 := r_lt_r_i (nle_i c30) (rgn 0 (x := 0) (by decide)) (rg_t n11_3) (by decide)
          refine lv_bipush (v := (-5)) hx hb dX10_rate_33 (by decide) ?_
          exact W.iret (v := (-5)) hx hb hr (fun t ht hW => ⟨⟨(-5), (fun k => ([] : List Int32).getD k 0, fun k => ([f15] : List (Nat → Int32)).getD k (fun _ => 0), fun k => ([] : List (Nat → Int64)).getD k (fun _ => 0)), rfl, ⟨(fun _ => h_6), (fun _ => h_6), (fun _ => h_6), (fun _ => h_10), (fun _ => h_10), (fun _ => h_10), (fun hq => absurd hq (rne (rgn (-5) (x := (-5)) (by decide)) (y := 0) (c := 0) (by decide) (by decide))), (fun hq => absurd hq (rne (rgn (-5) (x := (-5)) (by decide)) (y := (-1)) (c := (-1)) (by decide) (by decide))), (fun hq => absurd hq (rne (rgn (-5) (x := (-5)) (by decide)) (y := (-1)) (c := (-1)) (by decide) (by decide))), (fun _ => h_7), (fun _ => h_7), (fun _ => h_7), trivial⟩, hp_at ht hP⟩, hS.F ht⟩) hS.2.2 dX10_rate_35
      · have h_17 : rg 1000 2147483647 p1 := r_lt_r_i (nle_i c17) (rgn 999 (x := 999) (by decide)) h_9 (by decide)
        refine lv_bipush (v := (-2)) hx hb dX10_rate_20 (by decide) ?_
        exact W.iret (v := (-2)) hx hb hr (fun t ht hW => ⟨⟨(-2), (fun k => ([] : List Int32).getD k 0, fun k => ([f15] : List (Nat → Int32)).getD k (fun _ => 0), fun k => ([] : List (Nat → Int64)).getD k (fun _ => 0)), rfl, ⟨(fun _ => h_6), (fun _ => h_6), (fun _ => h_6), (fun hq => absurd hq (rne (rgn (-2) (x := (-2)) (by decide)) (y := 0) (c := 0) (by decide) (by decide))), (fun hq => absurd hq (rne (rgn (-2) (x := (-2)) (by decide)) (y := (-1)) (c := (-1)) (by decide) (by decide))), (fun hq => absurd (req (rgn (-2) (x := (-2)) (by decide)) (y := (-2)) (by decide)) hq), (fun hq => absurd hq (rne (rgn (-2) (x := (-2)) (by decide)) (y := 0) (c := 0) (by decide) (by decide))), (fun hq => absurd hq (rne (rgn (-2) (x := (-2)) (by decide)) (y := (-1)) (c := (-1)) (by decide) (by decide))), (fun hq => absurd hq (rne (rgn (-2) (x := (-2)) (by decide)) (y := (-1)) (c := (-1)) (by decide) (by decide))), (fun _ => h_7), (fun _ => h_7), (fun _ => h_7), trivial⟩, hp_at ht hP⟩, hS.F ht⟩) hS.2.2 dX10_rate_22

set_option maxHeartbeats 4000000 in
set_option maxRecDepth 100000 in
theorem a_X10_forge (l : Launch) (G : va_G) (ct : Nat → ClassId) (a0 : Nat) (a1 : Nat) (a3 : Nat) (a11 : Nat) (a25 : Nat) (a68 : Nat) (a69 : Nat) (a77 : Nat) (a82 : Nat) (a84 : Nat) (a88 : Nat) (a91 : Nat) (a12 : Nat) (a19 : Nat) (a24 : Nat) (n11_3 : Int32) (a13 : Nat) (a15 : Nat) (a16 : Nat) (a17 : Nat) (a18 : Nat) (n12_5 : Int32) (n12_6 : Int32) (a14 : Nat) (n13_1 : Int32) (f18 : Nat → Int32) (a20 : Nat) (a22 : Nat) (a23 : Nat) (n19_4 : Int32) (n19_5 : Int32) (n19_6 : Int32) (n19_7 : Int32) (a21 : Nat) (n20_1 : Int32) (p0 : Int32) (p1 : Int32) (hp_n13_1 : rg 0 8 n13_1) (hp_n20_1 : rg 0 8 n20_1) : Met l yX10_forge wsX10_forge ({ frames := 2, cells := 0, slots := 0, locals := 42 }) (va_Pc [.ref a0, .int p0, .int p1] (wrP G ct [(a0, .inr (10, [.ref a1, .ref a3, .ref a11, .ref a25, .ref a68, .ref a69, .ref a77, .ref a82, .ref a84, .ref a88, .ref a91])), (a11, .inr (4, [.ref a12, .ref a19, .ref a24, .int n11_3])), (a12, .inr (9, [.ref a13, .ref a15, .ref a16, .ref a17, .ref a18, .int n12_5, .int n12_6])), (a13, .inr (0, [.ref a14, .int n13_1])), (a18, .inl (ct 0, 8, .inl f18)), (a19, .inr (2, [.ref a12, .ref a20, .ref a22, .ref a23, .int n19_4, .int n19_5, .int n19_6, .int n19_7])), (a20, .inr (0, [.ref a21, .int n20_1]))])) (va_Qi (fun (r : Int32) (u : SU) => (r = 0 → rg 0 7 p0) ∧ (r = (-1) → rg 0 7 p0) ∧ (¬ r = (-2) → rg 0 7 p0) ∧ (r = 0 → rg 0 1 p1) ∧ (r = (-1) → rg 0 1 p1) ∧ (¬ r = (-2) → rg 0 1 p1) ∧ (r = 0 → rg (-2147483648) 0 n11_3) ∧ (r = (-1) → rg (-2147483648) 0 n11_3) ∧ (r = (-1) → rg 1 8 n13_1) ∧ (r = 0 → rg 1 8 n20_1) ∧ (r = (-1) → rg 1 8 n20_1) ∧ (¬ r = (-2) → rg 1 8 n20_1) ∧ True) (fun u t => va_P G vwCl ((fun u : SU => [(a0, .inr (10, [.ref a1, .ref a3, .ref a11, .ref a25, .ref a68, .ref a69, .ref a77, .ref a82, .ref a84, .ref a88, .ref a91])), (a11, .inr (4, [.ref a12, .ref a19, .ref a24, .int n11_3])), (a12, .inr (9, [.ref a13, .ref a15, .ref a16, .ref a17, .ref a18, .int n12_5, .int n12_6])), (a13, .inr (0, [.ref a14, .int n13_1])), (a18, .inl (ct 0, 8, .inl (u.2.1 0))), (a19, .inr (2, [.ref a12, .ref a20, .ref a22, .ref a23, .int n19_4, .int n19_5, .int n19_6, .int n19_7])), (a20, .inr (0, [.ref a21, .int n20_1]))]) u) t.heap) (aset [(a0, .inr (10, [.ref a1, .ref a3, .ref a11, .ref a25, .ref a68, .ref a69, .ref a77, .ref a82, .ref a84, .ref a88, .ref a91])), (a11, .inr (4, [.ref a12, .ref a19, .ref a24, .int n11_3])), (a12, .inr (9, [.ref a13, .ref a15, .ref a16, .ref a17, .ref a18, .int n12_5, .int n12_6])), (a13, .inr (0, [.ref a14, .int n13_1])), (a18, .inl (ct 0, 8, .inl f18)), (a19, .inr (2, [.ref a12, .ref a20, .ref a22, .ref a23, .int n19_4, .int n19_5, .int n19_6, .int n19_7])), (a20, .inr (0, [.ref a21, .int n20_1]))])) 0 0 (aset [(a0, .inr (10, [.ref a1, .ref a3, .ref a11, .ref a25, .ref a68, .ref a69, .ref a77, .ref a82, .ref a84, .ref a88, .ref a91])), (a11, .inr (4, [.ref a12, .ref a19, .ref a24, .int n11_3])), (a12, .inr (9, [.ref a13, .ref a15, .ref a16, .ref a17, .ref a18, .int n12_5, .int n12_6])), (a13, .inr (0, [.ref a14, .int n13_1])), (a18, .inl (ct 0, 8, .inl f18)), (a19, .inr (2, [.ref a12, .ref a20, .ref a22, .ref a23, .int n19_4, .int n19_5, .int n19_6, .int n19_7])), (a20, .inr (0, [.ref a21, .int n20_1]))]) := by
  refine Met.ofW (cc := cX10_forge) (maxL := 4) (ret := (some .int)) (by decide) rfl ?_
  intro p e s m args below meth c s₁ B hml hv
  obtain ⟨rfl, hP, hK, hD0⟩ := hv
  have hx := B.exec
  have hb := B.bytes
  have hr := B.returns
  have hts := atoms_spec (ws := wsX10_forge) B.pre
  have hown : s.vm.findClass RX10 = some m.cls := findClass_of_methodNamed B.named
  have hlocks := B.notSynchronized
  have hD := hD0.aself
  generalize hAe : aset [(a0, .inr (10, [.ref a1, .ref a3, .ref a11, .ref a25, .ref a68, .ref a69, .ref a77, .ref a82, .ref a84, .ref a88, .ref a91])), (a11, .inr (4, [.ref a12, .ref a19, .ref a24, .int n11_3])), (a12, .inr (9, [.ref a13, .ref a15, .ref a16, .ref a17, .ref a18, .int n12_5, .int n12_6])), (a13, .inr (0, [.ref a14, .int n13_1])), (a18, .inl (ct 0, 8, .inl f18)), (a19, .inr (2, [.ref a12, .ref a20, .ref a22, .ref a23, .int n19_4, .int n19_5, .int n19_6, .int n19_7])), (a20, .inr (0, [.ref a21, .int n20_1]))] = A at hD ⊢
  have hS : va_S A s.heap s.heap [] := va_S.rf
  have hl := lv_entry ([.ref a0, .int p0, .int p1]) (n := 4) (Nat.le_of_ble_eq_true rfl)
  rw [lg_entry_eq]
  generalize (lg_sl ([.ref a0, .int p0, .int p1]) ++ List.replicate (4 - (lg_sl ([.ref a0, .int p0, .int p1])).length) Slot.unset).toArray = ls at hl ⊢
  have hl : lv_has ls 4 [(0, .ref a0), (1, .int p0), (2, .int p1)] := hl
  refine lv_aload_n hx hb dX10_forge_0 rfl (lv_at hl 0 rfl) ?_
  refine lv_iload_n hx hb dX10_forge_1 rfl (lv_at hl 1 rfl) ?_
  refine ro_calli (va_runV (As := [.int p0]) (rest := []) ⟨hx, hb, hml, hown, hts⟩ (a_X10_isPerson l G ct a0 a1 a3 a11 a25 a68 a69 a77 a82 a84 a88 a91 a12 a19 a24 n11_3 a20 a22 a23 n19_4 n19_5 n19_6 n19_7 a21 n20_1 p0 hp_n20_1) (cwV 1 hts gX10_forge_X10_isPerson rfl rfl rfl (by decide +kernel) ⟨Nat.le_of_ble_eq_true rfl, Nat.le_of_ble_eq_true rfl⟩) (ro_preV 10 0 hK (hP.sub [0, 1, 5, 6] rfl) rfl rfl) rfl rfl hl.1 rfl (lv_room (Nat.le_of_ble_eq_true rfl)) dX10_forge_2 ⟨Nat.zero_le _, Nat.zero_le _⟩) hS hP (fun r2 H locs wr2 hP hS => ?_)
  obtain ⟨p_1, p_2, p_3, -⟩ := wr2
  refine lv_if_eq (tgt := 17) hx hb dX10_forge_5 (by decide) (fun c5 => ?_) (fun c5 => ?_)
  · have h_4 : rg 0 0 r2 := r_eq_l_i (e := 0) (f := 0) c5 p_1 (rgn 0 (x := 0) (by decide)) (by decide)
    refine lv_bipush (v := (-2)) hx hb dX10_forge_17 (by decide) ?_
    exact W.iret (v := (-2)) hx hb hr (fun t ht hW => ⟨⟨(-2), (fun k => ([] : List Int32).getD k 0, fun k => ([f18] : List (Nat → Int32)).getD k (fun _ => 0), fun k => ([] : List (Nat → Int64)).getD k (fun _ => 0)), rfl, ⟨(fun hq => absurd hq (rne (rgn (-2) (x := (-2)) (by decide)) (y := 0) (c := 0) (by decide) (by decide))), (fun hq => absurd hq (rne (rgn (-2) (x := (-2)) (by decide)) (y := (-1)) (c := (-1)) (by decide) (by decide))), (fun hq => absurd (req (rgn (-2) (x := (-2)) (by decide)) (y := (-2)) (by decide)) hq), (fun hq => absurd hq (rne (rgn (-2) (x := (-2)) (by decide)) (y := 0) (c := 0) (by decide) (by decide))), (fun hq => absurd hq (rne (rgn (-2) (x := (-2)) (by decide)) (y := (-1)) (c := (-1)) (by decide) (by decide))), (fun hq => absurd (req (rgn (-2) (x := (-2)) (by decide)) (y := (-2)) (by decide)) hq), (fun hq => absurd hq (rne (rgn (-2) (x := (-2)) (by decide)) (y := 0) (c := 0) (by decide) (by decide))), (fun hq => absurd hq (rne (rgn (-2) (x := (-2)) (by decide)) (y := (-1)) (c := (-1)) (by decide) (by decide))), (fun hq => absurd hq (rne (rgn (-2) (x := (-2)) (by decide)) (y := (-1)) (c := (-1)) (by decide) (by decide))), (fun hq => absurd hq (rne (rgn (-2) (x := (-2)) (by decide)) (y := 0) (c := 0) (by decide) (by decide))), (fun hq => absurd hq (rne (rgn (-2) (x := (-2)) (by decide)) (y := (-1)) (c := (-1)) (by decide) (by decide))), (fun hq => absurd (req (rgn (-2) (x := (-2)) (by decide)) (y := (-2)) (by decide)) hq), trivial⟩, hp_at ht hP⟩, hS.F ht⟩) hS.2.2 dX10_forge_19
  · have h_5 : rg 1 1 r2 := r_ne_lo_i c5 p_1 (by decide) (by decide)
    have h_6 : rg 0 7 p0 := (p_2 (rne h_5 (y := 0) (c := 0) (by decide) (by decide)))
    have h_7 : rg 1 8 n20_1 := (p_3 (rne h_5 (y := 0) (c := 0) (by decide) (by decide)))
    refine lv_iload_n hx hb dX10_forge_8 rfl (lv_at hl 2 rfl) ?_
    refine lv_if_lt (tgt := 17) hx hb dX10_forge_9 (by decide) (fun c9 => ?_) (fun c9 => ?_)
    · have h_8 : rg (-2147483648) (-1) p1 := r_lt_l_i c9 (rg_t p1) (rgn 0 (x := 0) (by decide)) (by decide)
      refine lv_bipush (v := (-2)) hx hb dX10_forge_17 (by decide) ?_
      exact W.iret (v := (-2)) hx hb hr (fun t ht hW => ⟨⟨(-2), (fun k => ([] : List Int32).getD k 0, fun k => ([f18] : List (Nat → Int32)).getD k (fun _ => 0), fun k => ([] : List (Nat → Int64)).getD k (fun _ => 0)), rfl, ⟨(fun _ => h_6), (fun _ => h_6), (fun _ => h_6), (fun hq => absurd hq (rne (rgn (-2) (x := (-2)) (by decide)) (y := 0) (c := 0) (by decide) (by decide))), (fun hq => absurd hq (rne (rgn (-2) (x := (-2)) (by decide)) (y := (-1)) (c := (-1)) (by decide) (by decide))), (fun hq => absurd (req (rgn (-2) (x := (-2)) (by decide)) (y := (-2)) (by decide)) hq), (fun hq => absurd hq (rne (rgn (-2) (x := (-2)) (by decide)) (y := 0) (c := 0) (by decide) (by decide))), (fun hq => absurd hq (rne (rgn (-2) (x := (-2)) (by decide)) (y := (-1)) (c := (-1)) (by decide) (by decide))), (fun hq => absurd hq (rne (rgn (-2) (x := (-2)) (by decide)) (y := (-1)) (c := (-1)) (by decide) (by decide))), (fun _ => h_7), (fun _ => h_7), (fun _ => h_7), trivial⟩, hp_at ht hP⟩, hS.F ht⟩) hS.2.2 dX10_forge_19
    · have h_9 : rg 0 2147483647 p1 := r_le_r_i (nlt_i c9) (rgn 0 (x := 0) (by decide)) (rg_t p1)
      refine lv_iload_n hx hb dX10_forge_12 rfl (lv_at hl 2 rfl) ?_
      refine lv_iconst (v := 1) hx hb dX10_forge_13 (by decide) ?_
      refine lv_icmp_le (tgt := 20) hx hb dX10_forge_14 (by decide) (fun c14 => ?_) (fun c14 => ?_)
      · have h_10 : rg 0 1 p1 := r_le_l_i c14 h_9 (rgn 1 (x := 1) (by decide))
        refine lv_aload_n hx hb dX10_forge_20 rfl (lv_at hl 0 rfl) ?_
        refine va_get (D := G) (ci := 10) (v := .ref a11) (C := RX10) (T := TX10) (N := 11) hx hb hts (by decide +kernel) hown hK.1 hP 0 rfl rfl 2 (by decide) (hts (.fieldLink RX10 28 "CardHolder" "play" "LCardHolder$Play;") (by decide +kernel)) (fun _ h9 => h9) rfl dX10_forge_21 ?_
        refine va_get (D := G) (ci := 4) (v := .int n11_3) (C := RX4) (T := TX4) (N := 4) hx hb hts (by decide +kernel) hown hK.1 hP 1 rfl rfl 3 (by decide) (hts (.fieldLink RX10 226 "CardHolder$Play" "acts" "I") (by decide +kernel)) (fun _ h9 => h9) rfl dX10_forge_24 ?_
        refine lv_if_le (tgt := 33) hx hb dX10_forge_27 (by decide) (fun c27 => ?_) (fun c27 => ?_)
        · have h_11 : rg (-2147483648) 0 n11_3 := r_le_l_i c27 (rg_t n11_3) (rgn 0 (x := 0) (by decide))
          refine lv_aload_n hx hb dX10_forge_33 rfl (lv_at hl 0 rfl) ?_
          refine va_get (D := G) (ci := 10) (v := .ref a11) (C := RX10) (T := TX10) (N := 11) hx hb hts (by decide +kernel) hown hK.1 hP 0 rfl rfl 2 (by decide) (hts (.fieldLink RX10 28 "CardHolder" "play" "LCardHolder$Play;") (by decide +kernel)) (fun _ h9 => h9) rfl dX10_forge_34 ?_
          refine va_get (D := G) (ci := 4) (v := .ref a12) (C := RX4) (T := TX4) (N := 4) hx hb hts (by decide +kernel) hown hK.1 hP 1 rfl rfl 0 (by decide) (hts (.fieldLink RX10 49 "CardHolder$Play" "town" "LCardHolder$Town;") (by decide +kernel)) (fun _ h9 => h9) rfl dX10_forge_37 ?_
          refine lv_iload_n hx hb dX10_forge_40 rfl (lv_at hl 1 rfl) ?_
          refine ro_calli (va_runV (As := [.int p0]) (rest := []) ⟨hx, hb, hml, hown, hts⟩ (a_X9_forgedOf l G ct a12 a13 a15 a16 a17 a18 n12_5 n12_6 a14 n13_1 f18 p0 hp_n13_1) (cwV 1 hts gX10_forge_X9_forgedOf rfl rfl rfl (by decide +kernel) ⟨Nat.le_of_ble_eq_true rfl, Nat.le_of_ble_eq_true rfl⟩) (ro_preV 9 0 hK (hP.sub [2, 3, 4] rfl) rfl rfl) rfl rfl hl.1 rfl (lv_room (Nat.le_of_ble_eq_true rfl)) dX10_forge_41 ⟨Nat.zero_le _, Nat.zero_le _⟩) hS hP (fun r41 H locs wr41 hP hS => ?_)
          obtain ⟨p_12, p_13, p_14, p_15, -⟩ := wr41
          refine lv_istore_n (lv' := [(3, .int r41), (0, .ref a0), (1, .int p0), (2, .int p1)]) hx hb dX10_forge_44 rfl hl (by decide) rfl (fun ls hl => ?_)
          refine lv_aload_n hx hb dX10_forge_45 rfl (lv_at hl 1 rfl) ?_
          refine va_get (D := G) (ci := 10) (v := .ref a11) (C := RX10) (T := TX10) (N := 11) hx hb hts (by decide +kernel) hown hK.1 hP 0 rfl rfl 2 (by decide) (hts (.fieldLink RX10 28 "CardHolder" "play" "LCardHolder$Play;") (by decide +kernel)) (fun _ h9 => h9) rfl dX10_forge_46 ?_
          refine va_get (D := G) (ci := 4) (v := .ref a12) (C := RX4) (T := TX4) (N := 4) hx hb hts (by decide +kernel) hown hK.1 hP 1 rfl rfl 0 (by decide) (hts (.fieldLink RX10 49 "CardHolder$Play" "town" "LCardHolder$Town;") (by decide +kernel)) (fun _ h9 => h9) rfl dX10_forge_49 ?_
          refine va_get (D := G) (ci := 9) (v := .ref a18) (C := RX9) (T := TX9) (N := 7) hx hb hts (by decide +kernel) hown hK.1 hP 2 rfl rfl 4 (by decide) (hts (.fieldLink RX10 384 "CardHolder$Town" "forged" "[I") (by decide +kernel)) (fun _ h9 => h9) rfl dX10_forge_52 ?_
          refine lv_iload_n hx hb dX10_forge_55 rfl (lv_at hl 2 rfl) ?_
          refine lv_iload_n hx hb dX10_forge_56 rfl (lv_at hl 3 rfl) ?_
          refine va_iast hx hb hK.1 hP hD hS 4 0 rfl rfl (in_rg h_6 (by decide)) dX10_forge_57 (fun H locs hP hD hS => ?_)
          refine lv_iload_n hx hb dX10_forge_58 rfl (lv_at hl 0 rfl) ?_
          exact W.iret (v := r41) hx hb hr (fun t ht hW => ⟨⟨r41, (fun k => ([] : List Int32).getD k 0, fun k => ([upd f18 p0.toNatClampNeg p1] : List (Nat → Int32)).getD k (fun _ => 0), fun k => ([] : List (Nat → Int64)).getD k (fun _ => 0)), rfl, ⟨(fun _ => h_6), (fun _ => h_6), (fun _ => h_6), (fun _ => h_10), (fun _ => h_10), (fun _ => h_10), (fun _ => h_11), (fun _ => h_11), (fun hq => rg_w (p_15 hq) (by decide)), (fun _ => h_7), (fun _ => h_7), (fun _ => h_7), trivial⟩, hp_at ht hP⟩, hS.F ht⟩) hS.2.2 dX10_forge_59
        · have h_16 : rg 1 2147483647 n11_3 := r_lt_r_i (nle_i c27) (rgn 0 (x := 0) (by decide)) (rg_t n11_3) (by decide)
          refine lv_bipush (v := (-5)) hx hb dX10_forge_30 (by decide) ?_
          exact W.iret (v := (-5)) hx hb hr (fun t ht hW => ⟨⟨(-5), (fun k => ([] : List Int32).getD k 0, fun k => ([f18] : List (Nat → Int32)).getD k (fun _ => 0), fun k => ([] : List (Nat → Int64)).getD k (fun _ => 0)), rfl, ⟨(fun _ => h_6), (fun _ => h_6), (fun _ => h_6), (fun _ => h_10), (fun _ => h_10), (fun _ => h_10), (fun hq => absurd hq (rne (rgn (-5) (x := (-5)) (by decide)) (y := 0) (c := 0) (by decide) (by decide))), (fun hq => absurd hq (rne (rgn (-5) (x := (-5)) (by decide)) (y := (-1)) (c := (-1)) (by decide) (by decide))), (fun hq => absurd hq (rne (rgn (-5) (x := (-5)) (by decide)) (y := (-1)) (c := (-1)) (by decide) (by decide))), (fun _ => h_7), (fun _ => h_7), (fun _ => h_7), trivial⟩, hp_at ht hP⟩, hS.F ht⟩) hS.2.2 dX10_forge_32
      · have h_17 : rg 2 2147483647 p1 := r_lt_r_i (nle_i c14) (rgn 1 (x := 1) (by decide)) h_9 (by decide)
        refine lv_bipush (v := (-2)) hx hb dX10_forge_17 (by decide) ?_
        exact W.iret (v := (-2)) hx hb hr (fun t ht hW => ⟨⟨(-2), (fun k => ([] : List Int32).getD k 0, fun k => ([f18] : List (Nat → Int32)).getD k (fun _ => 0), fun k => ([] : List (Nat → Int64)).getD k (fun _ => 0)), rfl, ⟨(fun _ => h_6), (fun _ => h_6), (fun _ => h_6), (fun hq => absurd hq (rne (rgn (-2) (x := (-2)) (by decide)) (y := 0) (c := 0) (by decide) (by decide))), (fun hq => absurd hq (rne (rgn (-2) (x := (-2)) (by decide)) (y := (-1)) (c := (-1)) (by decide) (by decide))), (fun hq => absurd (req (rgn (-2) (x := (-2)) (by decide)) (y := (-2)) (by decide)) hq), (fun hq => absurd hq (rne (rgn (-2) (x := (-2)) (by decide)) (y := 0) (c := 0) (by decide) (by decide))), (fun hq => absurd hq (rne (rgn (-2) (x := (-2)) (by decide)) (y := (-1)) (c := (-1)) (by decide) (by decide))), (fun hq => absurd hq (rne (rgn (-2) (x := (-2)) (by decide)) (y := (-1)) (c := (-1)) (by decide) (by decide))), (fun _ => h_7), (fun _ => h_7), (fun _ => h_7), trivial⟩, hp_at ht hP⟩, hS.F ht⟩) hS.2.2 dX10_forge_19

set_option maxHeartbeats 4000000 in
set_option maxRecDepth 100000 in
theorem a_X10_count (l : Launch) (G : va_G) (ct : Nat → ClassId) (a0 : Nat) (a1 : Nat) (a3 : Nat) (a11 : Nat) (a25 : Nat) (a68 : Nat) (a69 : Nat) (a77 : Nat) (a82 : Nat) (a84 : Nat) (a88 : Nat) (a91 : Nat) (a2 : Nat) (n1_1 : Int32) (a12 : Nat) (a19 : Nat) (a24 : Nat) (n11_3 : Int32) (a13 : Nat) (a15 : Nat) (a16 : Nat) (a17 : Nat) (a18 : Nat) (n12_5 : Int32) (n12_6 : Int32) (a14 : Nat) (n13_1 : Int32) (f18 : Nat → Int32) (a20 : Nat) (a22 : Nat) (a23 : Nat) (n19_4 : Int32) (n19_5 : Int32) (n19_6 : Int32) (n19_7 : Int32) (a21 : Nat) (n20_1 : Int32) (f21 : Nat → Int32) (a70 : Nat) (a75 : Nat) (a76 : Nat) (n69_3 : Int32) (p0 : Int32) (hp_n1_1 : rg 0 900 n1_1) (hp_n13_1 : rg 0 8 n13_1) (hp_n20_1 : rg 0 8 n20_1) : Met l yX10_count wsX10_count ({ frames := 4, cells := 0, slots := 0, locals := 85 }) (va_Pc [.ref a0, .int p0] (roP G ct [(a0, .inr (10, [.ref a1, .ref a3, .ref a11, .ref a25, .ref a68, .ref a69, .ref a77, .ref a82, .ref a84, .ref a88, .ref a91])), (a1, .inr (8, [.ref a2, .int n1_1])), (a11, .inr (4, [.ref a12, .ref a19, .ref a24, .int n11_3])), (a12, .inr (9, [.ref a13, .ref a15, .ref a16, .ref a17, .ref a18, .int n12_5, .int n12_6])), (a13, .inr (0, [.ref a14, .int n13_1])), (a18, .inl (ct 0, 8, .inl f18)), (a19, .inr (2, [.ref a12, .ref a20, .ref a22, .ref a23, .int n19_4, .int n19_5, .int n19_6, .int n19_7])), (a20, .inr (0, [.ref a21, .int n20_1])), (a21, .inl (ct 0, 8, .inl f21)), (a69, .inr (6, [.ref a70, .ref a75, .ref a76, .int n69_3]))])) (roQ (fun r => (r = 0 → rg 0 7 p0) ∧ (¬ r = (-1) → rg 0 7 p0) ∧ True)) 0 0 no := by
  refine Met.ofW (cc := cX10_count) (maxL := 2) (ret := (some .int)) (by decide) rfl ?_
  intro p e s m args below meth c s₁ B hml hv
  obtain ⟨rfl, hP, hK⟩ := hv
  have hx := B.exec
  have hb := B.bytes
  have hr := B.returns
  have hts := atoms_spec (ws := wsX10_count) B.pre
  have hown : s.vm.findClass RX10 = some m.cls := findClass_of_methodNamed B.named
  have hlocks := B.notSynchronized
  have hS : va_S no s.heap s.heap [] := va_S.rf
  have hl := lv_entry ([.ref a0, .int p0]) (n := 2) (Nat.le_of_ble_eq_true rfl)
  rw [lg_entry_eq]
  generalize (lg_sl ([.ref a0, .int p0]) ++ List.replicate (2 - (lg_sl ([.ref a0, .int p0])).length) Slot.unset).toArray = ls at hl ⊢
  have hl : lv_has ls 2 [(0, .ref a0), (1, .int p0)] := hl
  refine lv_iload_n hx hb dX10_count_0 rfl (lv_at hl 1 rfl) ?_
  by_cases c1 : p0 = 0 ∨ p0 = 1 ∨ p0 = 2 ∨ p0 = 3 ∨ p0 = 4 ∨ p0 = 5 ∨ p0 = 6 ∨ p0 = 7
  · rcases c1 with c1 | c1 | c1 | c1 | c1 | c1 | c1 | c1
    · refine lv_tableIn (tgt := 48) hx hb dX10_count_1 (by rw [c1]; decide) (by rw [c1]; decide) (by rw [c1]; rfl) (by decide) ?_
      have h_1 : rg 0 0 p0 := r_eq_l_i (e := 0) (f := 0) c1 (rg_t p0) (rgn 0 (x := 0) (by decide)) (by decide)
      refine lv_aload_n hx hb dX10_count_48 rfl (lv_at hl 0 rfl) ?_
      refine ro_callr (va_runV (As := []) (rest := []) ⟨hx, hb, hml, hown, hts⟩ (a_X10_bonds l G ct a0 a1 a3 a11 a25 a68 a69 a77 a82 a84 a88 a91 a12 a19 a24 n11_3 a20 a22 a23 n19_4 n19_5 n19_6 n19_7) (cwV 0 hts gX10_count_X10_bonds rfl rfl rfl (by decide +kernel) ⟨Nat.le_of_ble_eq_true rfl, Nat.le_of_ble_eq_true rfl⟩) (ro_preV 10 0 hK (hP.sub [0, 2, 6] rfl) rfl rfl) rfl rfl hl.1 rfl (lv_room (Nat.le_of_ble_eq_true rfl)) dX10_count_49 ⟨Nat.zero_le _, Nat.zero_le _⟩) hS hP (fun H locs hP hS => ?_)
      refine va_get (D := G) (ci := 0) (v := .int n20_1) (C := RX0) (T := TX0) (N := 2) hx hb hts (by decide +kernel) hown hK.1 hP 7 rfl rfl 1 (by decide) (hts (.fieldLink RX10 238 "CardHolder$Bonds" "persons" "I") (by decide +kernel)) (fun _ h9 => h9) rfl dX10_count_52 ?_
      exact W.iret (v := n20_1) hx hb hr (fun t ht hW => ⟨⟨n20_1, (), rfl, ⟨(fun _ => (rg_w (c := 0) (d := 7) h_1 (by decide))), (fun _ => (rg_w (c := 0) (d := 7) h_1 (by decide))), trivial⟩, trivial⟩, hS.F ht⟩) hS.2.2 dX10_count_55
    · refine lv_tableIn (tgt := 56) hx hb dX10_count_1 (by rw [c1]; decide) (by rw [c1]; decide) (by rw [c1]; rfl) (by decide) ?_
      have h_2 : rg 1 1 p0 := r_eq_l_i (e := 1) (f := 1) c1 (rg_t p0) (rgn 1 (x := 1) (by decide)) (by decide)
      refine lv_aload_n hx hb dX10_count_56 rfl (lv_at hl 0 rfl) ?_
      refine va_get (D := G) (ci := 10) (v := .ref a11) (C := RX10) (T := TX10) (N := 11) hx hb hts (by decide +kernel) hown hK.1 hP 0 rfl rfl 2 (by decide) (hts (.fieldLink RX10 28 "CardHolder" "play" "LCardHolder$Play;") (by decide +kernel)) (fun _ h9 => h9) rfl dX10_count_57 ?_
      refine va_get (D := G) (ci := 4) (v := .ref a12) (C := RX4) (T := TX4) (N := 4) hx hb hts (by decide +kernel) hown hK.1 hP 2 rfl rfl 0 (by decide) (hts (.fieldLink RX10 49 "CardHolder$Play" "town" "LCardHolder$Town;") (by decide +kernel)) (fun _ h9 => h9) rfl dX10_count_60 ?_
      refine va_get (D := G) (ci := 9) (v := .int n12_6) (C := RX9) (T := TX9) (N := 7) hx hb hts (by decide +kernel) hown hK.1 hP 3 rfl rfl 6 (by decide) (hts (.fieldLink RX10 387 "CardHolder$Town" "wear" "I") (by decide +kernel)) (fun _ h9 => h9) rfl dX10_count_63 ?_
      exact W.iret (v := n12_6) hx hb hr (fun t ht hW => ⟨⟨n12_6, (), rfl, ⟨(fun _ => (rg_w (c := 0) (d := 7) h_2 (by decide))), (fun _ => (rg_w (c := 0) (d := 7) h_2 (by decide))), trivial⟩, trivial⟩, hS.F ht⟩) hS.2.2 dX10_count_66
    · refine lv_tableIn (tgt := 67) hx hb dX10_count_1 (by rw [c1]; decide) (by rw [c1]; decide) (by rw [c1]; rfl) (by decide) ?_
      have h_3 : rg 2 2 p0 := r_eq_l_i (e := 2) (f := 2) c1 (rg_t p0) (rgn 2 (x := 2) (by decide)) (by decide)
      refine lv_aload_n hx hb dX10_count_67 rfl (lv_at hl 0 rfl) ?_
      refine ro_callr (va_runV (As := []) (rest := []) ⟨hx, hb, hml, hown, hts⟩ (a_X10_bonds l G ct a0 a1 a3 a11 a25 a68 a69 a77 a82 a84 a88 a91 a12 a19 a24 n11_3 a20 a22 a23 n19_4 n19_5 n19_6 n19_7) (cwV 0 hts gX10_count_X10_bonds rfl rfl rfl (by decide +kernel) ⟨Nat.le_of_ble_eq_true rfl, Nat.le_of_ble_eq_true rfl⟩) (ro_preV 10 0 hK (hP.sub [0, 2, 6] rfl) rfl rfl) rfl rfl hl.1 rfl (lv_room (Nat.le_of_ble_eq_true rfl)) dX10_count_68 ⟨Nat.zero_le _, Nat.zero_le _⟩) hS hP (fun H locs hP hS => ?_)
      refine va_get (D := G) (ci := 0) (v := .int n20_1) (C := RX0) (T := TX0) (N := 2) hx hb hts (by decide +kernel) hown hK.1 hP 7 rfl rfl 1 (by decide) (hts (.fieldLink RX10 238 "CardHolder$Bonds" "persons" "I") (by decide +kernel)) (fun _ h9 => h9) rfl dX10_count_71 ?_
      refine lv_aload_n hx hb dX10_count_74 rfl (lv_at hl 0 rfl) ?_
      refine ro_callr (va_runV (As := []) (rest := [.int n20_1]) ⟨hx, hb, hml, hown, hts⟩ (a_X10_bonds l G ct a0 a1 a3 a11 a25 a68 a69 a77 a82 a84 a88 a91 a12 a19 a24 n11_3 a20 a22 a23 n19_4 n19_5 n19_6 n19_7) (cwV 0 hts gX10_count_X10_bonds rfl rfl rfl (by decide +kernel) ⟨Nat.le_of_ble_eq_true rfl, Nat.le_of_ble_eq_true rfl⟩) (ro_preV 10 0 hK (hP.sub [0, 2, 6] rfl) rfl rfl) rfl rfl hl.1 rfl (lv_room (Nat.le_of_ble_eq_true rfl)) dX10_count_75 ⟨Nat.zero_le _, Nat.zero_le _⟩) hS hP (fun H locs hP hS => ?_)
      refine ro_calli (va_runV (As := []) (rest := [.int n20_1]) ⟨hx, hb, hml, hown, hts⟩ (a_X0_freeOnes l G ct a20 a21 n20_1 f21 hp_n20_1) (cwV 0 hts gX10_count_X0_freeOnes rfl rfl rfl (by decide +kernel) ⟨Nat.le_of_ble_eq_true rfl, Nat.le_of_ble_eq_true rfl⟩) (ro_preV 0 0 hK (hP.sub [7, 8] rfl) rfl rfl) rfl rfl hl.1 rfl (lv_room (Nat.le_of_ble_eq_true rfl)) dX10_count_78 ⟨Nat.zero_le _, Nat.zero_le _⟩) hS hP (fun r78 H locs wr78 hP hS => ?_)
      obtain ⟨p_4, -⟩ := wr78
      refine ro_calli (va_runS (As := [.int r78]) (rest := [.int n20_1]) ⟨hx, hb, hml, hown, hts⟩ (a_J6_bitCount_0f7a4 l G ct r78) (va_cwS 1 hts gX10_count_J6_bitCount_0f7a4 rfl rfl rfl (by decide +kernel) ⟨Nat.le_of_ble_eq_true rfl, Nat.le_of_ble_eq_true rfl⟩) (ro_pre hK (hP.sub [] rfl)) rfl rfl hl.1 rfl (lv_room (Nat.le_of_ble_eq_true rfl)) dX10_count_81 ⟨Nat.zero_le _, Nat.zero_le _⟩) hS hP (fun r81 H locs wr81 hP hS => ?_)
      obtain ⟨p_5, -⟩ := wr81
      refine lv_isub hx hb dX10_count_84 ?_
      refine nm_sub (e1 := (-63)) (f := 8) hp_n20_1 p_5 (by decide) (fun z84 hz84 ez84 => ?_)
      exact W.iret (v := z84) hx hb hr (fun t ht hW => ⟨⟨z84, (), rfl, ⟨(fun _ => (rg_w (c := 0) (d := 7) h_3 (by decide))), (fun _ => (rg_w (c := 0) (d := 7) h_3 (by decide))), trivial⟩, trivial⟩, hS.F ht⟩) hS.2.2 dX10_count_85
    · refine lv_tableIn (tgt := 86) hx hb dX10_count_1 (by rw [c1]; decide) (by rw [c1]; decide) (by rw [c1]; rfl) (by decide) ?_
      have h_6 : rg 3 3 p0 := r_eq_l_i (e := 3) (f := 3) c1 (rg_t p0) (rgn 3 (x := 3) (by decide)) (by decide)
      refine lv_aload_n hx hb dX10_count_86 rfl (lv_at hl 0 rfl) ?_
      refine va_get (D := G) (ci := 10) (v := .ref a11) (C := RX10) (T := TX10) (N := 11) hx hb hts (by decide +kernel) hown hK.1 hP 0 rfl rfl 2 (by decide) (hts (.fieldLink RX10 28 "CardHolder" "play" "LCardHolder$Play;") (by decide +kernel)) (fun _ h9 => h9) rfl dX10_count_87 ?_
      refine va_get (D := G) (ci := 4) (v := .ref a12) (C := RX4) (T := TX4) (N := 4) hx hb hts (by decide +kernel) hown hK.1 hP 2 rfl rfl 0 (by decide) (hts (.fieldLink RX10 49 "CardHolder$Play" "town" "LCardHolder$Town;") (by decide +kernel)) (fun _ h9 => h9) rfl dX10_count_90 ?_
      refine ro_calli (va_runV (As := []) (rest := []) ⟨hx, hb, hml, hown, hts⟩ (a_X9_forgedCards l G ct a12 a13 a15 a16 a17 a18 n12_5 n12_6 a14 n13_1 f18 hp_n13_1) (cwV 0 hts gX10_count_X9_forgedCards rfl rfl rfl (by decide +kernel) ⟨Nat.le_of_ble_eq_true rfl, Nat.le_of_ble_eq_true rfl⟩) (ro_preV 9 0 hK (hP.sub [3, 4, 5] rfl) rfl rfl) rfl rfl hl.1 rfl (lv_room (Nat.le_of_ble_eq_true rfl)) dX10_count_93 ⟨Nat.zero_le _, Nat.zero_le _⟩) hS hP (fun r93 H locs wr93 hP hS => ?_)
      exact W.iret (v := r93) hx hb hr (fun t ht hW => ⟨⟨r93, (), rfl, ⟨(fun _ => (rg_w (c := 0) (d := 7) h_6 (by decide))), (fun _ => (rg_w (c := 0) (d := 7) h_6 (by decide))), trivial⟩, trivial⟩, hS.F ht⟩) hS.2.2 dX10_count_96
    · refine lv_tableIn (tgt := 97) hx hb dX10_count_1 (by rw [c1]; decide) (by rw [c1]; decide) (by rw [c1]; rfl) (by decide) ?_
      have h_7 : rg 4 4 p0 := r_eq_l_i (e := 4) (f := 4) c1 (rg_t p0) (rgn 4 (x := 4) (by decide)) (by decide)
      refine lv_aload_n hx hb dX10_count_97 rfl (lv_at hl 0 rfl) ?_
      refine va_get (D := G) (ci := 10) (v := .ref a11) (C := RX10) (T := TX10) (N := 11) hx hb hts (by decide +kernel) hown hK.1 hP 0 rfl rfl 2 (by decide) (hts (.fieldLink RX10 28 "CardHolder" "play" "LCardHolder$Play;") (by decide +kernel)) (fun _ h9 => h9) rfl dX10_count_98 ?_
      refine va_get (D := G) (ci := 4) (v := .int n11_3) (C := RX4) (T := TX4) (N := 4) hx hb hts (by decide +kernel) hown hK.1 hP 2 rfl rfl 3 (by decide) (hts (.fieldLink RX10 226 "CardHolder$Play" "acts" "I") (by decide +kernel)) (fun _ h9 => h9) rfl dX10_count_101 ?_
      exact W.iret (v := n11_3) hx hb hr (fun t ht hW => ⟨⟨n11_3, (), rfl, ⟨(fun _ => (rg_w (c := 0) (d := 7) h_7 (by decide))), (fun _ => (rg_w (c := 0) (d := 7) h_7 (by decide))), trivial⟩, trivial⟩, hS.F ht⟩) hS.2.2 dX10_count_104
    · refine lv_tableIn (tgt := 105) hx hb dX10_count_1 (by rw [c1]; decide) (by rw [c1]; decide) (by rw [c1]; rfl) (by decide) ?_
      have h_8 : rg 5 5 p0 := r_eq_l_i (e := 5) (f := 5) c1 (rg_t p0) (rgn 5 (x := 5) (by decide)) (by decide)
      refine lv_aload_n hx hb dX10_count_105 rfl (lv_at hl 0 rfl) ?_
      refine va_get (D := G) (ci := 10) (v := .ref a11) (C := RX10) (T := TX10) (N := 11) hx hb hts (by decide +kernel) hown hK.1 hP 0 rfl rfl 2 (by decide) (hts (.fieldLink RX10 28 "CardHolder" "play" "LCardHolder$Play;") (by decide +kernel)) (fun _ h9 => h9) rfl dX10_count_106 ?_
      refine va_get (D := G) (ci := 4) (v := .ref a12) (C := RX4) (T := TX4) (N := 4) hx hb hts (by decide +kernel) hown hK.1 hP 2 rfl rfl 0 (by decide) (hts (.fieldLink RX10 49 "CardHolder$Play" "town" "LCardHolder$Town;") (by decide +kernel)) (fun _ h9 => h9) rfl dX10_count_109 ?_
      refine va_get (D := G) (ci := 9) (v := .int n12_5) (C := RX9) (T := TX9) (N := 7) hx hb hts (by decide +kernel) hown hK.1 hP 3 rfl rfl 5 (by decide) (hts (.fieldLink RX10 113 "CardHolder$Town" "lines" "I") (by decide +kernel)) (fun _ h9 => h9) rfl dX10_count_112 ?_
      exact W.iret (v := n12_5) hx hb hr (fun t ht hW => ⟨⟨n12_5, (), rfl, ⟨(fun _ => (rg_w (c := 0) (d := 7) h_8 (by decide))), (fun _ => (rg_w (c := 0) (d := 7) h_8 (by decide))), trivial⟩, trivial⟩, hS.F ht⟩) hS.2.2 dX10_count_115
    · refine lv_tableIn (tgt := 116) hx hb dX10_count_1 (by rw [c1]; decide) (by rw [c1]; decide) (by rw [c1]; rfl) (by decide) ?_
      have h_9 : rg 6 6 p0 := r_eq_l_i (e := 6) (f := 6) c1 (rg_t p0) (rgn 6 (x := 6) (by decide)) (by decide)
      refine lv_aload_n hx hb dX10_count_116 rfl (lv_at hl 0 rfl) ?_
      refine va_get (D := G) (ci := 10) (v := .ref a1) (C := RX10) (T := TX10) (N := 11) hx hb hts (by decide +kernel) hown hK.1 hP 0 rfl rfl 0 (by decide) (hts (.fieldLink RX10 10 "CardHolder" "tape" "LCardHolder$Tape;") (by decide +kernel)) (fun _ h9 => h9) rfl dX10_count_117 ?_
      refine va_get (D := G) (ci := 8) (v := .int n1_1) (C := RX8) (T := TX8) (N := 2) hx hb hts (by decide +kernel) hown hK.1 hP 1 rfl rfl 1 (by decide) (hts (.fieldLink RX10 96 "CardHolder$Tape" "size" "I") (by decide +kernel)) (fun _ h9 => h9) rfl dX10_count_120 ?_
      exact W.iret (v := n1_1) hx hb hr (fun t ht hW => ⟨⟨n1_1, (), rfl, ⟨(fun _ => (rg_w (c := 0) (d := 7) h_9 (by decide))), (fun _ => (rg_w (c := 0) (d := 7) h_9 (by decide))), trivial⟩, trivial⟩, hS.F ht⟩) hS.2.2 dX10_count_123
    · refine lv_tableIn (tgt := 124) hx hb dX10_count_1 (by rw [c1]; decide) (by rw [c1]; decide) (by rw [c1]; rfl) (by decide) ?_
      have h_10 : rg 7 7 p0 := r_eq_l_i (e := 7) (f := 7) c1 (rg_t p0) (rgn 7 (x := 7) (by decide)) (by decide)
      refine lv_aload_n hx hb dX10_count_124 rfl (lv_at hl 0 rfl) ?_
      refine va_get (D := G) (ci := 10) (v := .ref a69) (C := RX10) (T := TX10) (N := 11) hx hb hts (by decide +kernel) hown hK.1 hP 0 rfl rfl 5 (by decide) (hts (.fieldLink RX10 43 "CardHolder" "rows" "LCardHolder$Rows;") (by decide +kernel)) (fun _ h9 => h9) rfl dX10_count_125 ?_
      refine ro_calli (va_runV (As := []) (rest := []) ⟨hx, hb, hml, hown, hts⟩ (a_X6_kept l G ct a69 a70 a75 a76 n69_3) (cwV 0 hts gX10_count_X6_kept rfl rfl rfl (by decide +kernel) ⟨Nat.le_of_ble_eq_true rfl, Nat.le_of_ble_eq_true rfl⟩) (ro_preV 6 0 hK (hP.sub [9] rfl) rfl rfl) rfl rfl hl.1 rfl (lv_room (Nat.le_of_ble_eq_true rfl)) dX10_count_128 ⟨Nat.zero_le _, Nat.zero_le _⟩) hS hP (fun r128 H locs wr128 hP hS => ?_)
      obtain ⟨p_11, -⟩ := wr128
      exact W.iret (v := r128) hx hb hr (fun t ht hW => ⟨⟨r128, (), rfl, ⟨(fun _ => (rg_w (c := 0) (d := 7) h_10 (by decide))), (fun _ => (rg_w (c := 0) (d := 7) h_10 (by decide))), trivial⟩, trivial⟩, hS.F ht⟩) hS.2.2 dX10_count_131
  · obtain ⟨d1_0, c1⟩ := not_or.mp c1
    obtain ⟨d1_1, c1⟩ := not_or.mp c1
    obtain ⟨d1_2, c1⟩ := not_or.mp c1
    obtain ⟨d1_3, c1⟩ := not_or.mp c1
    obtain ⟨d1_4, c1⟩ := not_or.mp c1
    obtain ⟨d1_5, c1⟩ := not_or.mp c1
    obtain ⟨d1_6, c1⟩ := not_or.mp c1
    have d1_7 := c1
    refine lv_tableOut (tgt := 132) hx hb dX10_count_1 (by have := i_ne d1_0; have := i_ne d1_1; have := i_ne d1_2; have := i_ne d1_3; have := i_ne d1_4; have := i_ne d1_5; have := i_ne d1_6; have := i_ne d1_7; have : (0 : Int32).toInt = 0 := (by decide); have : (1 : Int32).toInt = 1 := (by decide); have : (2 : Int32).toInt = 2 := (by decide); have : (3 : Int32).toInt = 3 := (by decide); have : (4 : Int32).toInt = 4 := (by decide); have : (5 : Int32).toInt = 5 := (by decide); have : (6 : Int32).toInt = 6 := (by decide); have : (7 : Int32).toInt = 7 := (by decide); omega) (by decide) ?_
    refine lv_iconst (v := (-1)) hx hb dX10_count_132 (by decide) ?_
    exact W.iret (v := (-1)) hx hb hr (fun t ht hW => ⟨⟨(-1), (), rfl, ⟨(fun hq => absurd hq (rne (rgn (-1) (x := (-1)) (by decide)) (y := 0) (c := 0) (by decide) (by decide))), (fun hq => absurd (req (rgn (-1) (x := (-1)) (by decide)) (y := (-1)) (by decide)) hq), trivial⟩, trivial⟩, hS.F ht⟩) hS.2.2 dX10_count_133

set_option maxHeartbeats 4000000 in
set_option maxRecDepth 100000 in
theorem a_X10_image (l : Launch) (G : va_G) (ct : Nat → ClassId) (a0 : Nat) (a1 : Nat) (a3 : Nat) (a11 : Nat) (a25 : Nat) (a68 : Nat) (a69 : Nat) (a77 : Nat) (a82 : Nat) (a84 : Nat) (a88 : Nat) (a91 : Nat) (a12 : Nat) (a19 : Nat) (a24 : Nat) (n11_3 : Int32) (a13 : Nat) (a15 : Nat) (a16 : Nat) (a17 : Nat) (a18 : Nat) (n12_5 : Int32) (n12_6 : Int32) (a14 : Nat) (n13_1 : Int32) (f14 : Nat → Int32) (f15 : Nat → Int32) (f16 : Nat → Int32) (f17 : Nat → Int32) (f18 : Nat → Int32) (f24 : Nat → Int32) (a26 : Nat) (a40 : Nat) (a54 : Nat) (a27 : Nat) (a34 : Nat) (a39 : Nat) (n26_3 : Int32) (a28 : Nat) (a30 : Nat) (a31 : Nat) (a32 : Nat) (a33 : Nat) (n27_5 : Int32) (n27_6 : Int32) (a29 : Nat) (n28_1 : Int32) (f29 : Nat → Int32) (f30 : Nat → Int32) (f31 : Nat → Int32) (f32 : Nat → Int32) (f33 : Nat → Int32) (a35 : Nat) (a37 : Nat) (a38 : Nat) (n34_4 : Int32) (n34_5 : Int32) (n34_6 : Int32) (n34_7 : Int32) (a36 : Nat) (n35_1 : Int32) (f36 : Nat → Int32) (f37 : Nat → Int32) (f38 : Nat → Int32) (f39 : Nat → Int32) (a41 : Nat) (a48 : Nat) (a53 : Nat) (n40_3 : Int32) (a42 : Nat) (a44 : Nat) (a45 : Nat) (a46 : Nat) (a47 : Nat) (n41_5 : Int32) (n41_6 : Int32) (a43 : Nat) (n42_1 : Int32) (f43 : Nat → Int32) (f44 : Nat → Int32) (f45 : Nat → Int32) (f46 : Nat → Int32) (f47 : Nat → Int32) (a49 : Nat) (a51 : Nat) (a52 : Nat) (n48_4 : Int32) (n48_5 : Int32) (n48_6 : Int32) (n48_7 : Int32) (a50 : Nat) (n49_1 : Int32) (f50 : Nat → Int32) (f51 : Nat → Int32) (f52 : Nat → Int32) (f53 : Nat → Int32) (a55 : Nat) (a62 : Nat) (a67 : Nat) (n54_3 : Int32) (a56 : Nat) (a58 : Nat) (a59 : Nat) (a60 : Nat) (a61 : Nat) (n55_5 : Int32) (n55_6 : Int32) (a57 : Nat) (n56_1 : Int32) (f57 : Nat → Int32) (f58 : Nat → Int32) (f59 : Nat → Int32) (f60 : Nat → Int32) (f61 : Nat → Int32) (a63 : Nat) (a65 : Nat) (a66 : Nat) (n62_4 : Int32) (n62_5 : Int32) (n62_6 : Int32) (n62_7 : Int32) (a64 : Nat) (n63_1 : Int32) (f64 : Nat → Int32) (f65 : Nat → Int32) (f66 : Nat → Int32) (f67 : Nat → Int32) (f68 : Nat → Int32) (p0 : Int32) (hp_n13_1 : rg 0 8 n13_1) (hp_n28_1 : rg 0 8 n28_1) (hp_n35_1 : rg 0 8 n35_1) (hp_n42_1 : rg 0 8 n42_1) (hp_n49_1 : rg 0 8 n49_1) (hp_n56_1 : rg 0 8 n56_1) (hp_n63_1 : rg 0 8 n63_1) : Met l yX10_image wsX10_image ({ frames := 6, cells := 0, slots := 0, locals := 145 }) (va_Pc [.ref a0, .int p0] (wrP G ct [(a0, .inr (10, [.ref a1, .ref a3, .ref a11, .ref a25, .ref a68, .ref a69, .ref a77, .ref a82, .ref a84, .ref a88, .ref a91])), (a11, .inr (4, [.ref a12, .ref a19, .ref a24, .int n11_3])), (a12, .inr (9, [.ref a13, .ref a15, .ref a16, .ref a17, .ref a18, .int n12_5, .int n12_6])), (a13, .inr (0, [.ref a14, .int n13_1])), (a14, .inl (ct 0, 8, .inl f14)), (a15, .inl (ct 0, 8, .inl f15)), (a16, .inl (ct 0, 8, .inl f16)), (a17, .inl (ct 0, 8, .inl f17)), (a18, .inl (ct 0, 8, .inl f18)), (a24, .inl (ct 0, 40, .inl f24)), (a25, .inl (ct 4, 3, .inr (.inr (.inr (.inr (va_up (va_up (va_up (fun _ => none) 0 (some a26)) 1 (some a40)) 2 (some a54))))))), (a26, .inr (4, [.ref a27, .ref a34, .ref a39, .int n26_3])), (a27, .inr (9, [.ref a28, .ref a30, .ref a31, .ref a32, .ref a33, .int n27_5, .int n27_6])), (a28, .inr (0, [.ref a29, .int n28_1])), (a29, .inl (ct 0, 8, .inl f29)), (a30, .inl (ct 0, 8, .inl f30)), (a31, .inl (ct 0, 8, .inl f31)), (a32, .inl (ct 0, 8, .inl f32)), (a33, .inl (ct 0, 8, .inl f33)), (a34, .inr (2, [.ref a27, .ref a35, .ref a37, .ref a38, .int n34_4, .int n34_5, .int n34_6, .int n34_7])), (a35, .inr (0, [.ref a36, .int n35_1])), (a36, .inl (ct 0, 8, .inl f36)), (a37, .inl (ct 0, 8, .inl f37)), (a38, .inl (ct 0, 8, .inl f38)), (a39, .inl (ct 0, 40, .inl f39)), (a40, .inr (4, [.ref a41, .ref a48, .ref a53, .int n40_3])), (a41, .inr (9, [.ref a42, .ref a44, .ref a45, .ref a46, .ref a47, .int n41_5, .int n41_6])), (a42, .inr (0, [.ref a43, .int n42_1])), (a43, .inl (ct 0, 8, .inl f43)), (a44, .inl (ct 0, 8, .inl f44)), (a45, .inl (ct 0, 8, .inl f45)), (a46, .inl (ct 0, 8, .inl f46)), (a47, .inl (ct 0, 8, .inl f47)), (a48, .inr (2, [.ref a41, .ref a49, .ref a51, .ref a52, .int n48_4, .int n48_5, .int n48_6, .int n48_7])), (a49, .inr (0, [.ref a50, .int n49_1])), (a50, .inl (ct 0, 8, .inl f50)), (a51, .inl (ct 0, 8, .inl f51)), (a52, .inl (ct 0, 8, .inl f52)), (a53, .inl (ct 0, 40, .inl f53)), (a54, .inr (4, [.ref a55, .ref a62, .ref a67, .int n54_3])), (a55, .inr (9, [.ref a56, .ref a58, .ref a59, .ref a60, .ref a61, .int n55_5, .int n55_6])), (a56, .inr (0, [.ref a57, .int n56_1])), (a57, .inl (ct 0, 8, .inl f57)), (a58, .inl (ct 0, 8, .inl f58)), (a59, .inl (ct 0, 8, .inl f59)), (a60, .inl (ct 0, 8, .inl f60)), (a61, .inl (ct 0, 8, .inl f61)), (a62, .inr (2, [.ref a55, .ref a63, .ref a65, .ref a66, .int n62_4, .int n62_5, .int n62_6, .int n62_7])), (a63, .inr (0, [.ref a64, .int n63_1])), (a64, .inl (ct 0, 8, .inl f64)), (a65, .inl (ct 0, 8, .inl f65)), (a66, .inl (ct 0, 8, .inl f66)), (a67, .inl (ct 0, 40, .inl f67)), (a68, .inl (ct 2, 3, .inl f68))])) (va_Qi (fun (r : Int32) (u : SU) => rg (-2) 0 r ∧ (r = 0 → rg 0 2 p0) ∧ (¬ r = (-2) → rg 0 2 p0) ∧ rg 0 8 (u.1 3) ∧ rg 0 8 (u.1 8) ∧ rg 0 8 (u.1 12) ∧ rg 0 8 (u.1 17) ∧ rg 0 8 (u.1 21) ∧ rg 0 8 (u.1 26) ∧ True) (fun u t => va_P G vwCl ((fun u : SU => [(a0, .inr (10, [.ref a1, .ref a3, .ref a11, .ref a25, .ref a68, .ref a69, .ref a77, .ref a82, .ref a84, .ref a88, .ref a91])), (a11, .inr (4, [.ref a12, .ref a19, .ref a24, .int n11_3])), (a12, .inr (9, [.ref a13, .ref a15, .ref a16, .ref a17, .ref a18, .int n12_5, .int n12_6])), (a13, .inr (0, [.ref a14, .int n13_1])), (a14, .inl (ct 0, 8, .inl f14)), (a15, .inl (ct 0, 8, .inl f15)), (a16, .inl (ct 0, 8, .inl f16)), (a17, .inl (ct 0, 8, .inl f17)), (a18, .inl (ct 0, 8, .inl f18)), (a24, .inl (ct 0, 40, .inl f24)), (a25, .inl (ct 4, 3, .inr (.inr (.inr (.inr (va_up (va_up (va_up (fun _ => none) 0 (some a26)) 1 (some a40)) 2 (some a54))))))), (a26, .inr (4, [.ref a27, .ref a34, .ref a39, .int (u.1 0)])), (a27, .inr (9, [.ref a28, .ref a30, .ref a31, .ref a32, .ref a33, .int (u.1 1), .int (u.1 2)])), (a28, .inr (0, [.ref a29, .int (u.1 3)])), (a29, .inl (ct 0, 8, .inl (u.2.1 0))), (a30, .inl (ct 0, 8, .inl (u.2.1 1))), (a31, .inl (ct 0, 8, .inl (u.2.1 2))), (a32, .inl (ct 0, 8, .inl (u.2.1 3))), (a33, .inl (ct 0, 8, .inl (u.2.1 4))), (a34, .inr (2, [.ref a27, .ref a35, .ref a37, .ref a38, .int (u.1 4), .int (u.1 5), .int (u.1 6), .int (u.1 7)])), (a35, .inr (0, [.ref a36, .int (u.1 8)])), (a36, .inl (ct 0, 8, .inl (u.2.1 5))), (a37, .inl (ct 0, 8, .inl (u.2.1 6))), (a38, .inl (ct 0, 8, .inl (u.2.1 7))), (a39, .inl (ct 0, 40, .inl (u.2.1 8))), (a40, .inr (4, [.ref a41, .ref a48, .ref a53, .int (u.1 9)])), (a41, .inr (9, [.ref a42, .ref a44, .ref a45, .ref a46, .ref a47, .int (u.1 10), .int (u.1 11)])), (a42, .inr (0, [.ref a43, .int (u.1 12)])), (a43, .inl (ct 0, 8, .inl (u.2.1 9))), (a44, .inl (ct 0, 8, .inl (u.2.1 10))), (a45, .inl (ct 0, 8, .inl (u.2.1 11))), (a46, .inl (ct 0, 8, .inl (u.2.1 12))), (a47, .inl (ct 0, 8, .inl (u.2.1 13))), (a48, .inr (2, [.ref a41, .ref a49, .ref a51, .ref a52, .int (u.1 13), .int (u.1 14), .int (u.1 15), .int (u.1 16)])), (a49, .inr (0, [.ref a50, .int (u.1 17)])), (a50, .inl (ct 0, 8, .inl (u.2.1 14))), (a51, .inl (ct 0, 8, .inl (u.2.1 15))), (a52, .inl (ct 0, 8, .inl (u.2.1 16))), (a53, .inl (ct 0, 40, .inl (u.2.1 17))), (a54, .inr (4, [.ref a55, .ref a62, .ref a67, .int (u.1 18)])), (a55, .inr (9, [.ref a56, .ref a58, .ref a59, .ref a60, .ref a61, .int (u.1 19), .int (u.1 20)])), (a56, .inr (0, [.ref a57, .int (u.1 21)])), (a57, .inl (ct 0, 8, .inl (u.2.1 18))), (a58, .inl (ct 0, 8, .inl (u.2.1 19))), (a59, .inl (ct 0, 8, .inl (u.2.1 20))), (a60, .inl (ct 0, 8, .inl (u.2.1 21))), (a61, .inl (ct 0, 8, .inl (u.2.1 22))), (a62, .inr (2, [.ref a55, .ref a63, .ref a65, .ref a66, .int (u.1 22), .int (u.1 23), .int (u.1 24), .int (u.1 25)])), (a63, .inr (0, [.ref a64, .int (u.1 26)])), (a64, .inl (ct 0, 8, .inl (u.2.1 23))), (a65, .inl (ct 0, 8, .inl (u.2.1 24))), (a66, .inl (ct 0, 8, .inl (u.2.1 25))), (a67, .inl (ct 0, 40, .inl (u.2.1 26))), (a68, .inl (ct 2, 3, .inl (u.2.1 27)))]) u) t.heap) (aset [(a0, .inr (10, [.ref a1, .ref a3, .ref a11, .ref a25, .ref a68, .ref a69, .ref a77, .ref a82, .ref a84, .ref a88, .ref a91])), (a11, .inr (4, [.ref a12, .ref a19, .ref a24, .int n11_3])), (a12, .inr (9, [.ref a13, .ref a15, .ref a16, .ref a17, .ref a18, .int n12_5, .int n12_6])), (a13, .inr (0, [.ref a14, .int n13_1])), (a14, .inl (ct 0, 8, .inl f14)), (a15, .inl (ct 0, 8, .inl f15)), (a16, .inl (ct 0, 8, .inl f16)), (a17, .inl (ct 0, 8, .inl f17)), (a18, .inl (ct 0, 8, .inl f18)), (a24, .inl (ct 0, 40, .inl f24)), (a25, .inl (ct 4, 3, .inr (.inr (.inr (.inr (va_up (va_up (va_up (fun _ => none) 0 (some a26)) 1 (some a40)) 2 (some a54))))))), (a26, .inr (4, [.ref a27, .ref a34, .ref a39, .int n26_3])), (a27, .inr (9, [.ref a28, .ref a30, .ref a31, .ref a32, .ref a33, .int n27_5, .int n27_6])), (a28, .inr (0, [.ref a29, .int n28_1])), (a29, .inl (ct 0, 8, .inl f29)), (a30, .inl (ct 0, 8, .inl f30)), (a31, .inl (ct 0, 8, .inl f31)), (a32, .inl (ct 0, 8, .inl f32)), (a33, .inl (ct 0, 8, .inl f33)), (a34, .inr (2, [.ref a27, .ref a35, .ref a37, .ref a38, .int n34_4, .int n34_5, .int n34_6, .int n34_7])), (a35, .inr (0, [.ref a36, .int n35_1])), (a36, .inl (ct 0, 8, .inl f36)), (a37, .inl (ct 0, 8, .inl f37)), (a38, .inl (ct 0, 8, .inl f38)), (a39, .inl (ct 0, 40, .inl f39)), (a40, .inr (4, [.ref a41, .ref a48, .ref a53, .int n40_3])), (a41, .inr (9, [.ref a42, .ref a44, .ref a45, .ref a46, .ref a47, .int n41_5, .int n41_6])), (a42, .inr (0, [.ref a43, .int n42_1])), (a43, .inl (ct 0, 8, .inl f43)), (a44, .inl (ct 0, 8, .inl f44)), (a45, .inl (ct 0, 8, .inl f45)), (a46, .inl (ct 0, 8, .inl f46)), (a47, .inl (ct 0, 8, .inl f47)), (a48, .inr (2, [.ref a41, .ref a49, .ref a51, .ref a52, .int n48_4, .int n48_5, .int n48_6, .int n48_7])), (a49, .inr (0, [.ref a50, .int n49_1])), (a50, .inl (ct 0, 8, .inl f50)), (a51, .inl (ct 0, 8, .inl f51)), (a52, .inl (ct 0, 8, .inl f52)), (a53, .inl (ct 0, 40, .inl f53)), (a54, .inr (4, [.ref a55, .ref a62, .ref a67, .int n54_3])), (a55, .inr (9, [.ref a56, .ref a58, .ref a59, .ref a60, .ref a61, .int n55_5, .int n55_6])), (a56, .inr (0, [.ref a57, .int n56_1])), (a57, .inl (ct 0, 8, .inl f57)), (a58, .inl (ct 0, 8, .inl f58)), (a59, .inl (ct 0, 8, .inl f59)), (a60, .inl (ct 0, 8, .inl f60)), (a61, .inl (ct 0, 8, .inl f61)), (a62, .inr (2, [.ref a55, .ref a63, .ref a65, .ref a66, .int n62_4, .int n62_5, .int n62_6, .int n62_7])), (a63, .inr (0, [.ref a64, .int n63_1])), (a64, .inl (ct 0, 8, .inl f64)), (a65, .inl (ct 0, 8, .inl f65)), (a66, .inl (ct 0, 8, .inl f66)), (a67, .inl (ct 0, 40, .inl f67)), (a68, .inl (ct 2, 3, .inl f68))])) 0 0 (aset [(a0, .inr (10, [.ref a1, .ref a3, .ref a11, .ref a25, .ref a68, .ref a69, .ref a77, .ref a82, .ref a84, .ref a88, .ref a91])), (a11, .inr (4, [.ref a12, .ref a19, .ref a24, .int n11_3])), (a12, .inr (9, [.ref a13, .ref a15, .ref a16, .ref a17, .ref a18, .int n12_5, .int n12_6])), (a13, .inr (0, [.ref a14, .int n13_1])), (a14, .inl (ct 0, 8, .inl f14)), (a15, .inl (ct 0, 8, .inl f15)), (a16, .inl (ct 0, 8, .inl f16)), (a17, .inl (ct 0, 8, .inl f17)), (a18, .inl (ct 0, 8, .inl f18)), (a24, .inl (ct 0, 40, .inl f24)), (a25, .inl (ct 4, 3, .inr (.inr (.inr (.inr (va_up (va_up (va_up (fun _ => none) 0 (some a26)) 1 (some a40)) 2 (some a54))))))), (a26, .inr (4, [.ref a27, .ref a34, .ref a39, .int n26_3])), (a27, .inr (9, [.ref a28, .ref a30, .ref a31, .ref a32, .ref a33, .int n27_5, .int n27_6])), (a28, .inr (0, [.ref a29, .int n28_1])), (a29, .inl (ct 0, 8, .inl f29)), (a30, .inl (ct 0, 8, .inl f30)), (a31, .inl (ct 0, 8, .inl f31)), (a32, .inl (ct 0, 8, .inl f32)), (a33, .inl (ct 0, 8, .inl f33)), (a34, .inr (2, [.ref a27, .ref a35, .ref a37, .ref a38, .int n34_4, .int n34_5, .int n34_6, .int n34_7])), (a35, .inr (0, [.ref a36, .int n35_1])), (a36, .inl (ct 0, 8, .inl f36)), (a37, .inl (ct 0, 8, .inl f37)), (a38, .inl (ct 0, 8, .inl f38)), (a39, .inl (ct 0, 40, .inl f39)), (a40, .inr (4, [.ref a41, .ref a48, .ref a53, .int n40_3])), (a41, .inr (9, [.ref a42, .ref a44, .ref a45, .ref a46, .ref a47, .int n41_5, .int n41_6])), (a42, .inr (0, [.ref a43, .int n42_1])), (a43, .inl (ct 0, 8, .inl f43)), (a44, .inl (ct 0, 8, .inl f44)), (a45, .inl (ct 0, 8, .inl f45)), (a46, .inl (ct 0, 8, .inl f46)), (a47, .inl (ct 0, 8, .inl f47)), (a48, .inr (2, [.ref a41, .ref a49, .ref a51, .ref a52, .int n48_4, .int n48_5, .int n48_6, .int n48_7])), (a49, .inr (0, [.ref a50, .int n49_1])), (a50, .inl (ct 0, 8, .inl f50)), (a51, .inl (ct 0, 8, .inl f51)), (a52, .inl (ct 0, 8, .inl f52)), (a53, .inl (ct 0, 40, .inl f53)), (a54, .inr (4, [.ref a55, .ref a62, .ref a67, .int n54_3])), (a55, .inr (9, [.ref a56, .ref a58, .ref a59, .ref a60, .ref a61, .int n55_5, .int n55_6])), (a56, .inr (0, [.ref a57, .int n56_1])), (a57, .inl (ct 0, 8, .inl f57)), (a58, .inl (ct 0, 8, .inl f58)), (a59, .inl (ct 0, 8, .inl f59)), (a60, .inl (ct 0, 8, .inl f60)), (a61, .inl (ct 0, 8, .inl f61)), (a62, .inr (2, [.ref a55, .ref a63, .ref a65, .ref a66, .int n62_4, .int n62_5, .int n62_6, .int n62_7])), (a63, .inr (0, [.ref a64, .int n63_1])), (a64, .inl (ct 0, 8, .inl f64)), (a65, .inl (ct 0, 8, .inl f65)), (a66, .inl (ct 0, 8, .inl f66)), (a67, .inl (ct 0, 40, .inl f67)), (a68, .inl (ct 2, 3, .inl f68))]) := by
  refine Met.ofW (cc := cX10_image) (maxL := 2) (ret := (some .int)) (by decide) rfl ?_
  intro p e s m args below meth c s₁ B hml hv
  obtain ⟨rfl, hP, hK, hD0⟩ := hv
  have hx := B.exec
  have hb := B.bytes
  have hr := B.returns
  have hts := atoms_spec (ws := wsX10_image) B.pre
  have hown : s.vm.findClass RX10 = some m.cls := findClass_of_methodNamed B.named
  have hlocks := B.notSynchronized
  have hD := hD0.aself
  generalize hAe : aset [(a0, .inr (10, [.ref a1, .ref a3, .ref a11, .ref a25, .ref a68, .ref a69, .ref a77, .ref a82, .ref a84, .ref a88, .ref a91])), (a11, .inr (4, [.ref a12, .ref a19, .ref a24, .int n11_3])), (a12, .inr (9, [.ref a13, .ref a15, .ref a16, .ref a17, .ref a18, .int n12_5, .int n12_6])), (a13, .inr (0, [.ref a14, .int n13_1])), (a14, .inl (ct 0, 8, .inl f14)), (a15, .inl (ct 0, 8, .inl f15)), (a16, .inl (ct 0, 8, .inl f16)), (a17, .inl (ct 0, 8, .inl f17)), (a18, .inl (ct 0, 8, .inl f18)), (a24, .inl (ct 0, 40, .inl f24)), (a25, .inl (ct 4, 3, .inr (.inr (.inr (.inr (va_up (va_up (va_up (fun _ => none) 0 (some a26)) 1 (some a40)) 2 (some a54))))))), (a26, .inr (4, [.ref a27, .ref a34, .ref a39, .int n26_3])), (a27, .inr (9, [.ref a28, .ref a30, .ref a31, .ref a32, .ref a33, .int n27_5, .int n27_6])), (a28, .inr (0, [.ref a29, .int n28_1])), (a29, .inl (ct 0, 8, .inl f29)), (a30, .inl (ct 0, 8, .inl f30)), (a31, .inl (ct 0, 8, .inl f31)), (a32, .inl (ct 0, 8, .inl f32)), (a33, .inl (ct 0, 8, .inl f33)), (a34, .inr (2, [.ref a27, .ref a35, .ref a37, .ref a38, .int n34_4, .int n34_5, .int n34_6, .int n34_7])), (a35, .inr (0, [.ref a36, .int n35_1])), (a36, .inl (ct 0, 8, .inl f36)), (a37, .inl (ct 0, 8, .inl f37)), (a38, .inl (ct 0, 8, .inl f38)), (a39, .inl (ct 0, 40, .inl f39)), (a40, .inr (4, [.ref a41, .ref a48, .ref a53, .int n40_3])), (a41, .inr (9, [.ref a42, .ref a44, .ref a45, .ref a46, .ref a47, .int n41_5, .int n41_6])), (a42, .inr (0, [.ref a43, .int n42_1])), (a43, .inl (ct 0, 8, .inl f43)), (a44, .inl (ct 0, 8, .inl f44)), (a45, .inl (ct 0, 8, .inl f45)), (a46, .inl (ct 0, 8, .inl f46)), (a47, .inl (ct 0, 8, .inl f47)), (a48, .inr (2, [.ref a41, .ref a49, .ref a51, .ref a52, .int n48_4, .int n48_5, .int n48_6, .int n48_7])), (a49, .inr (0, [.ref a50, .int n49_1])), (a50, .inl (ct 0, 8, .inl f50)), (a51, .inl (ct 0, 8, .inl f51)), (a52, .inl (ct 0, 8, .inl f52)), (a53, .inl (ct 0, 40, .inl f53)), (a54, .inr (4, [.ref a55, .ref a62, .ref a67, .int n54_3])), (a55, .inr (9, [.ref a56, .ref a58, .ref a59, .ref a60, .ref a61, .int n55_5, .int n55_6])), (a56, .inr (0, [.ref a57, .int n56_1])), (a57, .inl (ct 0, 8, .inl f57)), (a58, .inl (ct 0, 8, .inl f58)), (a59, .inl (ct 0, 8, .inl f59)), (a60, .inl (ct 0, 8, .inl f60)), (a61, .inl (ct 0, 8, .inl f61)), (a62, .inr (2, [.ref a55, .ref a63, .ref a65, .ref a66, .int n62_4, .int n62_5, .int n62_6, .int n62_7])), (a63, .inr (0, [.ref a64, .int n63_1])), (a64, .inl (ct 0, 8, .inl f64)), (a65, .inl (ct 0, 8, .inl f65)), (a66, .inl (ct 0, 8, .inl f66)), (a67, .inl (ct 0, 40, .inl f67)), (a68, .inl (ct 2, 3, .inl f68))] = A at hD ⊢
  have hS : va_S A s.heap s.heap [] := va_S.rf
  have hl := lv_entry ([.ref a0, .int p0]) (n := 2) (Nat.le_of_ble_eq_true rfl)
  rw [lg_entry_eq]
  generalize (lg_sl ([.ref a0, .int p0]) ++ List.replicate (2 - (lg_sl ([.ref a0, .int p0])).length) Slot.unset).toArray = ls at hl ⊢
  have hl : lv_has ls 2 [(0, .ref a0), (1, .int p0)] := hl
  refine lv_iload_n hx hb dX10_image_0 rfl (lv_at hl 1 rfl) ?_
  refine lv_if_lt (tgt := 9) hx hb dX10_image_1 (by decide) (fun c1 => ?_) (fun c1 => ?_)
  · have h_1 : rg (-2147483648) (-1) p0 := r_lt_l_i c1 (rg_t p0) (rgn 0 (x := 0) (by decide)) (by decide)
    refine lv_bipush (v := (-2)) hx hb dX10_image_9 (by decide) ?_
    exact W.iret (v := (-2)) hx hb hr (fun t ht hW => ⟨⟨(-2), (fun k => ([n26_3, n27_5, n27_6, n28_1, n34_4, n34_5, n34_6, n34_7, n35_1, n40_3, n41_5, n41_6, n42_1, n48_4, n48_5, n48_6, n48_7, n49_1, n54_3, n55_5, n55_6, n56_1, n62_4, n62_5, n62_6, n62_7, n63_1] : List Int32).getD k 0, fun k => ([f29, f30, f31, f32, f33, f36, f37, f38, f39, f43, f44, f45, f46, f47, f50, f51, f52, f53, f57, f58, f59, f60, f61, f64, f65, f66, f67, f68] : List (Nat → Int32)).getD k (fun _ => 0), fun k => ([] : List (Nat → Int64)).getD k (fun _ => 0)), rfl, ⟨(rg_w (c := (-2)) (d := 0) (rgn (-2) (x := (-2)) (by decide)) (by decide)), (fun hq => absurd hq (rne (rgn (-2) (x := (-2)) (by decide)) (y := 0) (c := 0) (by decide) (by decide))), (fun hq => absurd (req (rgn (-2) (x := (-2)) (by decide)) (y := (-2)) (by decide)) hq), hp_n28_1, hp_n35_1, hp_n42_1, hp_n49_1, hp_n56_1, hp_n63_1, trivial⟩, hp_at ht hP⟩, hS.F ht⟩) hS.2.2 dX10_image_11
  · have h_2 : rg 0 2147483647 p0 := r_le_r_i (nlt_i c1) (rgn 0 (x := 0) (by decide)) (rg_t p0)
    refine lv_iload_n hx hb dX10_image_4 rfl (lv_at hl 1 rfl) ?_
    refine lv_iconst (v := 3) hx hb dX10_image_5 (by decide) ?_
    refine lv_icmp_lt (tgt := 12) hx hb dX10_image_6 (by decide) (fun c6 => ?_) (fun c6 => ?_)
    · have h_3 : rg 0 2 p0 := r_lt_l_i c6 h_2 (rgn 3 (x := 3) (by decide)) (by decide)
      refine lv_aload_n hx hb dX10_image_12 rfl (lv_at hl 0 rfl) ?_
      refine va_get (D := G) (ci := 10) (v := .ref a25) (C := RX10) (T := TX10) (N := 11) hx hb hts (by decide +kernel) hown hK.1 hP 0 rfl rfl 3 (by decide) (hts (.fieldLink RX10 32 "CardHolder" "images" "[LCardHolder$Play;") (by decide +kernel)) (fun _ h9 => h9) rfl dX10_image_13 ?_
      refine lv_iload_n hx hb dX10_image_16 rfl (lv_at hl 1 rfl) ?_
      rcases (sp3 h_3.1 (by have := h_3.2; omega)) with s17 | s17 | s17
      · refine ix_i (y := 0) s17 ?_
        have h_4 : rg 0 0 p0 := r_eq_l_i (e := 0) (f := 0) s17 h_3 (rgn 0 (x := 0) (by decide)) (by decide)
        refine va_aldq hx hb hK.1 hP 10 4 rfl rfl (in_lit (by decide)) dX10_image_17 ?_
        refine ix_r (y := .ref a26) rfl ?_
        refine lv_aload_n hx hb dX10_image_18 rfl (lv_at hl 0 rfl) ?_
        refine va_get (D := G) (ci := 10) (v := .ref a11) (C := RX10) (T := TX10) (N := 11) hx hb hts (by decide +kernel) hown hK.1 hP 0 rfl rfl 2 (by decide) (hts (.fieldLink RX10 28 "CardHolder" "play" "LCardHolder$Play;") (by decide +kernel)) (fun _ h9 => h9) rfl dX10_image_19 ?_
        refine wj_callv (wr := [(a0, .inr (10, [.ref a1, .ref a3, .ref a11, .ref a25, .ref a68, .ref a69, .ref a77, .ref a82, .ref a84, .ref a88, .ref a91])), (a25, .inl (ct 4, 3, .inr (.inr (.inr (.inr (va_up (va_up (va_up (fun _ => none) 0 (some a26)) 1 (some a40)) 2 (some a54))))))), (a40, .inr (4, [.ref a41, .ref a48, .ref a53, .int n40_3])), (a41, .inr (9, [.ref a42, .ref a44, .ref a45, .ref a46, .ref a47, .int n41_5, .int n41_6])), (a42, .inr (0, [.ref a43, .int n42_1])), (a43, .inl (ct 0, 8, .inl f43)), (a44, .inl (ct 0, 8, .inl f44)), (a45, .inl (ct 0, 8, .inl f45)), (a46, .inl (ct 0, 8, .inl f46)), (a47, .inl (ct 0, 8, .inl f47)), (a48, .inr (2, [.ref a41, .ref a49, .ref a51, .ref a52, .int n48_4, .int n48_5, .int n48_6, .int n48_7])), (a49, .inr (0, [.ref a50, .int n49_1])), (a50, .inl (ct 0, 8, .inl f50)), (a51, .inl (ct 0, 8, .inl f51)), (a52, .inl (ct 0, 8, .inl f52)), (a53, .inl (ct 0, 40, .inl f53)), (a54, .inr (4, [.ref a55, .ref a62, .ref a67, .int n54_3])), (a55, .inr (9, [.ref a56, .ref a58, .ref a59, .ref a60, .ref a61, .int n55_5, .int n55_6])), (a56, .inr (0, [.ref a57, .int n56_1])), (a57, .inl (ct 0, 8, .inl f57)), (a58, .inl (ct 0, 8, .inl f58)), (a59, .inl (ct 0, 8, .inl f59)), (a60, .inl (ct 0, 8, .inl f60)), (a61, .inl (ct 0, 8, .inl f61)), (a62, .inr (2, [.ref a55, .ref a63, .ref a65, .ref a66, .int n62_4, .int n62_5, .int n62_6, .int n62_7])), (a63, .inr (0, [.ref a64, .int n63_1])), (a64, .inl (ct 0, 8, .inl f64)), (a65, .inl (ct 0, 8, .inl f65)), (a66, .inl (ct 0, 8, .inl f66)), (a67, .inl (ct 0, 40, .inl f67)), (a68, .inl (ct 2, 3, .inl f68))]) (w1 := (fun u : SU => [(a26, .inr (4, [.ref a27, .ref a34, .ref a39, .int (u.1 0)])), (a27, .inr (9, [.ref a28, .ref a30, .ref a31, .ref a32, .ref a33, .int (u.1 1), .int (u.1 2)])), (a28, .inr (0, [.ref a29, .int (u.1 3)])), (a29, .inl (ct 0, 8, .inl (u.2.1 0))), (a30, .inl (ct 0, 8, .inl (u.2.1 1))), (a31, .inl (ct 0, 8, .inl (u.2.1 2))), (a32, .inl (ct 0, 8, .inl (u.2.1 3))), (a33, .inl (ct 0, 8, .inl (u.2.1 4))), (a34, .inr (2, [.ref a27, .ref a35, .ref a37, .ref a38, .int (u.1 4), .int (u.1 5), .int (u.1 6), .int (u.1 7)])), (a35, .inr (0, [.ref a36, .int (u.1 8)])), (a36, .inl (ct 0, 8, .inl (u.2.1 5))), (a37, .inl (ct 0, 8, .inl (u.2.1 6))), (a38, .inl (ct 0, 8, .inl (u.2.1 7))), (a39, .inl (ct 0, 40, .inl (u.2.1 8))), (a11, .inr (4, [.ref a12, .ref a19, .ref a24, .int n11_3])), (a12, .inr (9, [.ref a13, .ref a15, .ref a16, .ref a17, .ref a18, .int n12_5, .int n12_6])), (a13, .inr (0, [.ref a14, .int n13_1])), (a14, .inl (ct 0, 8, .inl f14)), (a15, .inl (ct 0, 8, .inl f15)), (a16, .inl (ct 0, 8, .inl f16)), (a17, .inl (ct 0, 8, .inl f17)), (a18, .inl (ct 0, 8, .inl f18)), (a24, .inl (ct 0, 40, .inl f24))])) (va_runV (As := [.ref a11]) (rest := []) ⟨hx, hb, hml, hown, hts⟩ (a_X4_copyOf l G ct a26 a27 a34 a39 n26_3 a28 a30 a31 a32 a33 n27_5 n27_6 a29 n28_1 f29 f30 f31 f32 f33 a35 a37 a38 n34_4 n34_5 n34_6 n34_7 a36 n35_1 f36 f37 f38 f39 a11 a12 a19 a24 n11_3 a13 a15 a16 a17 a18 n12_5 n12_6 a14 n13_1 f14 f15 f16 f17 f18 f24 hp_n28_1 hp_n35_1 hp_n13_1) (cwV 1 hts gX10_image_X4_copyOf rfl rfl rfl (by decide +kernel) ⟨Nat.le_of_ble_eq_true rfl, Nat.le_of_ble_eq_true rfl⟩) (wr_preV 4 0 hK (hP.sub [11, 12, 13, 14, 15, 16, 17, 18, 19, 20, 21, 22, 23, 24, 1, 2, 3, 4, 5, 6, 7, 8, 9] rfl) (hD.sub [11, 12, 13, 14, 15, 16, 17, 18, 19, 20, 21, 22, 23, 24, 1, 2, 3, 4, 5, 6, 7, 8, 9] (by decide) rfl) rfl rfl) rfl rfl hl.1 rfl (lv_room (Nat.le_of_ble_eq_true rfl)) dX10_image_22 ⟨Nat.zero_le _, Nat.zero_le _⟩) hS hP hD [11, 12, 13, 14, 15, 16, 17, 18, 19, 20, 21, 22, 23, 24, 1, 2, 3, 4, 5, 6, 7, 8, 9] [0, 10, 25, 26, 27, 28, 29, 30, 31, 32, 33, 34, 35, 36, 37, 38, 39, 40, 41, 42, 43, 44, 45, 46, 47, 48, 49, 50, 51, 52, 53] rfl rfl (by decide) (fun _ => rfl) (fun ur22 H locs wr22 hP hD hS => ?_)
        have hP : va_P G vwCl [(a0, .inr (10, [.ref a1, .ref a3, .ref a11, .ref a25, .ref a68, .ref a69, .ref a77, .ref a82, .ref a84, .ref a88, .ref a91])), (a11, .inr (4, [.ref a12, .ref a19, .ref a24, .int n11_3])), (a12, .inr (9, [.ref a13, .ref a15, .ref a16, .ref a17, .ref a18, .int n12_5, .int n12_6])), (a13, .inr (0, [.ref a14, .int n13_1])), (a14, .inl (ct 0, 8, .inl f14)), (a15, .inl (ct 0, 8, .inl f15)), (a16, .inl (ct 0, 8, .inl f16)), (a17, .inl (ct 0, 8, .inl f17)), (a18, .inl (ct 0, 8, .inl f18)), (a24, .inl (ct 0, 40, .inl f24)), (a25, .inl (ct 4, 3, .inr (.inr (.inr (.inr (va_up (va_up (va_up (fun _ => none) 0 (some a26)) 1 (some a40)) 2 (some a54))))))), (a26, .inr (4, [.ref a27, .ref a34, .ref a39, .int (ur22.1 0)])), (a27, .inr (9, [.ref a28, .ref a30, .ref a31, .ref a32, .ref a33, .int (ur22.1 1), .int (ur22.1 2)])), (a28, .inr (0, [.ref a29, .int (ur22.1 3)])), (a29, .inl (ct 0, 8, .inl (ur22.2.1 0))), (a30, .inl (ct 0, 8, .inl (ur22.2.1 1))), (a31, .inl (ct 0, 8, .inl (ur22.2.1 2))), (a32, .inl (ct 0, 8, .inl (ur22.2.1 3))), (a33, .inl (ct 0, 8, .inl (ur22.2.1 4))), (a34, .inr (2, [.ref a27, .ref a35, .ref a37, .ref a38, .int (ur22.1 4), .int (ur22.1 5), .int (ur22.1 6), .int (ur22.1 7)])), (a35, .inr (0, [.ref a36, .int (ur22.1 8)])), (a36, .inl (ct 0, 8, .inl (ur22.2.1 5))), (a37, .inl (ct 0, 8, .inl (ur22.2.1 6))), (a38, .inl (ct 0, 8, .inl (ur22.2.1 7))), (a39, .inl (ct 0, 40, .inl (ur22.2.1 8))), (a40, .inr (4, [.ref a41, .ref a48, .ref a53, .int n40_3])), (a41, .inr (9, [.ref a42, .ref a44, .ref a45, .ref a46, .ref a47, .int n41_5, .int n41_6])), (a42, .inr (0, [.ref a43, .int n42_1])), (a43, .inl (ct 0, 8, .inl f43)), (a44, .inl (ct 0, 8, .inl f44)), (a45, .inl (ct 0, 8, .inl f45)), (a46, .inl (ct 0, 8, .inl f46)), (a47, .inl (ct 0, 8, .inl f47)), (a48, .inr (2, [.ref a41, .ref a49, .ref a51, .ref a52, .int n48_4, .int n48_5, .int n48_6, .int n48_7])), (a49, .inr (0, [.ref a50, .int n49_1])), (a50, .inl (ct 0, 8, .inl f50)), (a51, .inl (ct 0, 8, .inl f51)), (a52, .inl (ct 0, 8, .inl f52)), (a53, .inl (ct 0, 40, .inl f53)), (a54, .inr (4, [.ref a55, .ref a62, .ref a67, .int n54_3])), (a55, .inr (9, [.ref a56, .ref a58, .ref a59, .ref a60, .ref a61, .int n55_5, .int n55_6])), (a56, .inr (0, [.ref a57, .int n56_1])), (a57, .inl (ct 0, 8, .inl f57)), (a58, .inl (ct 0, 8, .inl f58)), (a59, .inl (ct 0, 8, .inl f59)), (a60, .inl (ct 0, 8, .inl f60)), (a61, .inl (ct 0, 8, .inl f61)), (a62, .inr (2, [.ref a55, .ref a63, .ref a65, .ref a66, .int n62_4, .int n62_5, .int n62_6, .int n62_7])), (a63, .inr (0, [.ref a64, .int n63_1])), (a64, .inl (ct 0, 8, .inl f64)), (a65, .inl (ct 0, 8, .inl f65)), (a66, .inl (ct 0, 8, .inl f66)), (a67, .inl (ct 0, 40, .inl f67)), (a68, .inl (ct 2, 3, .inl f68))] H := hP.sub [0, 45, 46, 47, 48, 49, 50, 51, 52, 53, 1, 31, 32, 33, 34, 35, 36, 37, 38, 39, 40, 41, 42, 43, 44, 2, 3, 4, 5, 6, 7, 8, 9, 10, 11, 12, 13, 14, 15, 16, 17, 18, 19, 20, 21, 22, 23, 24, 25, 26, 27, 28, 29, 30] rfl
        have hD : va_D A [(a0, .inr (10, [.ref a1, .ref a3, .ref a11, .ref a25, .ref a68, .ref a69, .ref a77, .ref a82, .ref a84, .ref a88, .ref a91])), (a11, .inr (4, [.ref a12, .ref a19, .ref a24, .int n11_3])), (a12, .inr (9, [.ref a13, .ref a15, .ref a16, .ref a17, .ref a18, .int n12_5, .int n12_6])), (a13, .inr (0, [.ref a14, .int n13_1])), (a14, .inl (ct 0, 8, .inl f14)), (a15, .inl (ct 0, 8, .inl f15)), (a16, .inl (ct 0, 8, .inl f16)), (a17, .inl (ct 0, 8, .inl f17)), (a18, .inl (ct 0, 8, .inl f18)), (a24, .inl (ct 0, 40, .inl f24)), (a25, .inl (ct 4, 3, .inr (.inr (.inr (.inr (va_up (va_up (va_up (fun _ => none) 0 (some a26)) 1 (some a40)) 2 (some a54))))))), (a26, .inr (4, [.ref a27, .ref a34, .ref a39, .int (ur22.1 0)])), (a27, .inr (9, [.ref a28, .ref a30, .ref a31, .ref a32, .ref a33, .int (ur22.1 1), .int (ur22.1 2)])), (a28, .inr (0, [.ref a29, .int (ur22.1 3)])), (a29, .inl (ct 0, 8, .inl (ur22.2.1 0))), (a30, .inl (ct 0, 8, .inl (ur22.2.1 1))), (a31, .inl (ct 0, 8, .inl (ur22.2.1 2))), (a32, .inl (ct 0, 8, .inl (ur22.2.1 3))), (a33, .inl (ct 0, 8, .inl (ur22.2.1 4))), (a34, .inr (2, [.ref a27, .ref a35, .ref a37, .ref a38, .int (ur22.1 4), .int (ur22.1 5), .int (ur22.1 6), .int (ur22.1 7)])), (a35, .inr (0, [.ref a36, .int (ur22.1 8)])), (a36, .inl (ct 0, 8, .inl (ur22.2.1 5))), (a37, .inl (ct 0, 8, .inl (ur22.2.1 6))), (a38, .inl (ct 0, 8, .inl (ur22.2.1 7))), (a39, .inl (ct 0, 40, .inl (ur22.2.1 8))), (a40, .inr (4, [.ref a41, .ref a48, .ref a53, .int n40_3])), (a41, .inr (9, [.ref a42, .ref a44, .ref a45, .ref a46, .ref a47, .int n41_5, .int n41_6])), (a42, .inr (0, [.ref a43, .int n42_1])), (a43, .inl (ct 0, 8, .inl f43)), (a44, .inl (ct 0, 8, .inl f44)), (a45, .inl (ct 0, 8, .inl f45)), (a46, .inl (ct 0, 8, .inl f46)), (a47, .inl (ct 0, 8, .inl f47)), (a48, .inr (2, [.ref a41, .ref a49, .ref a51, .ref a52, .int n48_4, .int n48_5, .int n48_6, .int n48_7])), (a49, .inr (0, [.ref a50, .int n49_1])), (a50, .inl (ct 0, 8, .inl f50)), (a51, .inl (ct 0, 8, .inl f51)), (a52, .inl (ct 0, 8, .inl f52)), (a53, .inl (ct 0, 40, .inl f53)), (a54, .inr (4, [.ref a55, .ref a62, .ref a67, .int n54_3])), (a55, .inr (9, [.ref a56, .ref a58, .ref a59, .ref a60, .ref a61, .int n55_5, .int n55_6])), (a56, .inr (0, [.ref a57, .int n56_1])), (a57, .inl (ct 0, 8, .inl f57)), (a58, .inl (ct 0, 8, .inl f58)), (a59, .inl (ct 0, 8, .inl f59)), (a60, .inl (ct 0, 8, .inl f60)), (a61, .inl (ct 0, 8, .inl f61)), (a62, .inr (2, [.ref a55, .ref a63, .ref a65, .ref a66, .int n62_4, .int n62_5, .int n62_6, .int n62_7])), (a63, .inr (0, [.ref a64, .int n63_1])), (a64, .inl (ct 0, 8, .inl f64)), (a65, .inl (ct 0, 8, .inl f65)), (a66, .inl (ct 0, 8, .inl f66)), (a67, .inl (ct 0, 40, .inl f67)), (a68, .inl (ct 2, 3, .inl f68))] := hD.sub [0, 45, 46, 47, 48, 49, 50, 51, 52, 53, 1, 31, 32, 33, 34, 35, 36, 37, 38, 39, 40, 41, 42, 43, 44, 2, 3, 4, 5, 6, 7, 8, 9, 10, 11, 12, 13, 14, 15, 16, 17, 18, 19, 20, 21, 22, 23, 24, 25, 26, 27, 28, 29, 30] (by decide) rfl
        obtain ⟨p_5, p_6, -⟩ := wr22
        refine lv_aload_n hx hb dX10_image_25 rfl (lv_at hl 0 rfl) ?_
        refine va_get (D := G) (ci := 10) (v := .ref a68) (C := RX10) (T := TX10) (N := 11) hx hb hts (by decide +kernel) hown hK.1 hP 0 rfl rfl 4 (by decide) (hts (.fieldLink RX10 36 "CardHolder" "kept" "[Z") (by decide +kernel)) (fun _ h9 => h9) rfl dX10_image_26 ?_
        refine lv_iload_n hx hb dX10_image_29 rfl (lv_at hl 1 rfl) ?_
        refine lv_iconst (v := 1) hx hb dX10_image_30 (by decide) ?_
        refine va_zast hx hb hK.1 hP hD hS 53 2 rfl rfl (in_rg h_4 (by decide)) dX10_image_31 (fun H locs hP hD hS => ?_)
        refine lv_iconst (v := 0) hx hb dX10_image_32 (by decide) ?_
        exact W.iret (v := 0) hx hb hr (fun t ht hW => ⟨⟨0, (fun k => ([ur22.1 0, ur22.1 1, ur22.1 2, ur22.1 3, ur22.1 4, ur22.1 5, ur22.1 6, ur22.1 7, ur22.1 8, n40_3, n41_5, n41_6, n42_1, n48_4, n48_5, n48_6, n48_7, n49_1, n54_3, n55_5, n55_6, n56_1, n62_4, n62_5, n62_6, n62_7, n63_1] : List Int32).getD k 0, fun k => ([ur22.2.1 0, ur22.2.1 1, ur22.2.1 2, ur22.2.1 3, ur22.2.1 4, ur22.2.1 5, ur22.2.1 6, ur22.2.1 7, ur22.2.1 8, f43, f44, f45, f46, f47, f50, f51, f52, f53, f57, f58, f59, f60, f61, f64, f65, f66, f67, upd f68 p0.toNatClampNeg (vp_nar .boolean 1)] : List (Nat → Int32)).getD k (fun _ => 0), fun k => ([] : List (Nat → Int64)).getD k (fun _ => 0)), rfl, ⟨(rg_w (c := (-2)) (d := 0) (rgn 0 (x := 0) (by decide)) (by decide)), (fun _ => (rg_w (c := 0) (d := 2) h_4 (by decide))), (fun _ => (rg_w (c := 0) (d := 2) h_4 (by decide))), p_5, p_6, hp_n42_1, hp_n49_1, hp_n56_1, hp_n63_1, trivial⟩, hp_at ht hP⟩, hS.F ht⟩) hS.2.2 dX10_image_33
      · refine ix_i (y := 1) s17 ?_
        have h_7 : rg 1 1 p0 := r_eq_l_i (e := 1) (f := 1) s17 h_3 (rgn 1 (x := 1) (by decide)) (by decide)
        refine va_aldq hx hb hK.1 hP 10 4 rfl rfl (in_lit (by decide)) dX10_image_17 ?_
        refine ix_r (y := .ref a40) rfl ?_
        refine lv_aload_n hx hb dX10_image_18 rfl (lv_at hl 0 rfl) ?_
        refine va_get (D := G) (ci := 10) (v := .ref a11) (C := RX10) (T := TX10) (N := 11) hx hb hts (by decide +kernel) hown hK.1 hP 0 rfl rfl 2 (by decide) (hts (.fieldLink RX10 28 "CardHolder" "play" "LCardHolder$Play;") (by decide +kernel)) (fun _ h9 => h9) rfl dX10_image_19 ?_
        refine wj_callv (wr := [(a0, .inr (10, [.ref a1, .ref a3, .ref a11, .ref a25, .ref a68, .ref a69, .ref a77, .ref a82, .ref a84, .ref a88, .ref a91])), (a25, .inl (ct 4, 3, .inr (.inr (.inr (.inr (va_up (va_up (va_up (fun _ => none) 0 (some a26)) 1 (some a40)) 2 (some a54))))))), (a26, .inr (4, [.ref a27, .ref a34, .ref a39, .int n26_3])), (a27, .inr (9, [.ref a28, .ref a30, .ref a31, .ref a32, .ref a33, .int n27_5, .int n27_6])), (a28, .inr (0, [.ref a29, .int n28_1])), (a29, .inl (ct 0, 8, .inl f29)), (a30, .inl (ct 0, 8, .inl f30)), (a31, .inl (ct 0, 8, .inl f31)), (a32, .inl (ct 0, 8, .inl f32)), (a33, .inl (ct 0, 8, .inl f33)), (a34, .inr (2, [.ref a27, .ref a35, .ref a37, .ref a38, .int n34_4, .int n34_5, .int n34_6, .int n34_7])), (a35, .inr (0, [.ref a36, .int n35_1])), (a36, .inl (ct 0, 8, .inl f36)), (a37, .inl (ct 0, 8, .inl f37)), (a38, .inl (ct 0, 8, .inl f38)), (a39, .inl (ct 0, 40, .inl f39)), (a54, .inr (4, [.ref a55, .ref a62, .ref a67, .int n54_3])), (a55, .inr (9, [.ref a56, .ref a58, .ref a59, .ref a60, .ref a61, .int n55_5, .int n55_6])), (a56, .inr (0, [.ref a57, .int n56_1])), (a57, .inl (ct 0, 8, .inl f57)), (a58, .inl (ct 0, 8, .inl f58)), (a59, .inl (ct 0, 8, .inl f59)), (a60, .inl (ct 0, 8, .inl f60)), (a61, .inl (ct 0, 8, .inl f61)), (a62, .inr (2, [.ref a55, .ref a63, .ref a65, .ref a66, .int n62_4, .int n62_5, .int n62_6, .int n62_7])), (a63, .inr (0, [.ref a64, .int n63_1])), (a64, .inl (ct 0, 8, .inl f64)), (a65, .inl (ct 0, 8, .inl f65)), (a66, .inl (ct 0, 8, .inl f66)), (a67, .inl (ct 0, 40, .inl f67)), (a68, .inl (ct 2, 3, .inl f68))]) (w1 := (fun u : SU => [(a40, .inr (4, [.ref a41, .ref a48, .ref a53, .int (u.1 0)])), (a41, .inr (9, [.ref a42, .ref a44, .ref a45, .ref a46, .ref a47, .int (u.1 1), .int (u.1 2)])), (a42, .inr (0, [.ref a43, .int (u.1 3)])), (a43, .inl (ct 0, 8, .inl (u.2.1 0))), (a44, .inl (ct 0, 8, .inl (u.2.1 1))), (a45, .inl (ct 0, 8, .inl (u.2.1 2))), (a46, .inl (ct 0, 8, .inl (u.2.1 3))), (a47, .inl (ct 0, 8, .inl (u.2.1 4))), (a48, .inr (2, [.ref a41, .ref a49, .ref a51, .ref a52, .int (u.1 4), .int (u.1 5), .int (u.1 6), .int (u.1 7)])), (a49, .inr (0, [.ref a50, .int (u.1 8)])), (a50, .inl (ct 0, 8, .inl (u.2.1 5))), (a51, .inl (ct 0, 8, .inl (u.2.1 6))), (a52, .inl (ct 0, 8, .inl (u.2.1 7))), (a53, .inl (ct 0, 40, .inl (u.2.1 8))), (a11, .inr (4, [.ref a12, .ref a19, .ref a24, .int n11_3])), (a12, .inr (9, [.ref a13, .ref a15, .ref a16, .ref a17, .ref a18, .int n12_5, .int n12_6])), (a13, .inr (0, [.ref a14, .int n13_1])), (a14, .inl (ct 0, 8, .inl f14)), (a15, .inl (ct 0, 8, .inl f15)), (a16, .inl (ct 0, 8, .inl f16)), (a17, .inl (ct 0, 8, .inl f17)), (a18, .inl (ct 0, 8, .inl f18)), (a24, .inl (ct 0, 40, .inl f24))])) (va_runV (As := [.ref a11]) (rest := []) ⟨hx, hb, hml, hown, hts⟩ (a_X4_copyOf l G ct a40 a41 a48 a53 n40_3 a42 a44 a45 a46 a47 n41_5 n41_6 a43 n42_1 f43 f44 f45 f46 f47 a49 a51 a52 n48_4 n48_5 n48_6 n48_7 a50 n49_1 f50 f51 f52 f53 a11 a12 a19 a24 n11_3 a13 a15 a16 a17 a18 n12_5 n12_6 a14 n13_1 f14 f15 f16 f17 f18 f24 hp_n42_1 hp_n49_1 hp_n13_1) (cwV 1 hts gX10_image_X4_copyOf rfl rfl rfl (by decide +kernel) ⟨Nat.le_of_ble_eq_true rfl, Nat.le_of_ble_eq_true rfl⟩) (wr_preV 4 0 hK (hP.sub [25, 26, 27, 28, 29, 30, 31, 32, 33, 34, 35, 36, 37, 38, 1, 2, 3, 4, 5, 6, 7, 8, 9] rfl) (hD.sub [25, 26, 27, 28, 29, 30, 31, 32, 33, 34, 35, 36, 37, 38, 1, 2, 3, 4, 5, 6, 7, 8, 9] (by decide) rfl) rfl rfl) rfl rfl hl.1 rfl (lv_room (Nat.le_of_ble_eq_true rfl)) dX10_image_22 ⟨Nat.zero_le _, Nat.zero_le _⟩) hS hP hD [25, 26, 27, 28, 29, 30, 31, 32, 33, 34, 35, 36, 37, 38, 1, 2, 3, 4, 5, 6, 7, 8, 9] [0, 10, 11, 12, 13, 14, 15, 16, 17, 18, 19, 20, 21, 22, 23, 24, 39, 40, 41, 42, 43, 44, 45, 46, 47, 48, 49, 50, 51, 52, 53] rfl rfl (by decide) (fun _ => rfl) (fun ur22 H locs wr22 hP hD hS => ?_)
        have hP : va_P G vwCl [(a0, .inr (10, [.ref a1, .ref a3, .ref a11, .ref a25, .ref a68, .ref a69, .ref a77, .ref a82, .ref a84, .ref a88, .ref a91])), (a11, .inr (4, [.ref a12, .ref a19, .ref a24, .int n11_3])), (a12, .inr (9, [.ref a13, .ref a15, .ref a16, .ref a17, .ref a18, .int n12_5, .int n12_6])), (a13, .inr (0, [.ref a14, .int n13_1])), (a14, .inl (ct 0, 8, .inl f14)), (a15, .inl (ct 0, 8, .inl f15)), (a16, .inl (ct 0, 8, .inl f16)), (a17, .inl (ct 0, 8, .inl f17)), (a18, .inl (ct 0, 8, .inl f18)), (a24, .inl (ct 0, 40, .inl f24)), (a25, .inl (ct 4, 3, .inr (.inr (.inr (.inr (va_up (va_up (va_up (fun _ => none) 0 (some a26)) 1 (some a40)) 2 (some a54))))))), (a26, .inr (4, [.ref a27, .ref a34, .ref a39, .int n26_3])), (a27, .inr (9, [.ref a28, .ref a30, .ref a31, .ref a32, .ref a33, .int n27_5, .int n27_6])), (a28, .inr (0, [.ref a29, .int n28_1])), (a29, .inl (ct 0, 8, .inl f29)), (a30, .inl (ct 0, 8, .inl f30)), (a31, .inl (ct 0, 8, .inl f31)), (a32, .inl (ct 0, 8, .inl f32)), (a33, .inl (ct 0, 8, .inl f33)), (a34, .inr (2, [.ref a27, .ref a35, .ref a37, .ref a38, .int n34_4, .int n34_5, .int n34_6, .int n34_7])), (a35, .inr (0, [.ref a36, .int n35_1])), (a36, .inl (ct 0, 8, .inl f36)), (a37, .inl (ct 0, 8, .inl f37)), (a38, .inl (ct 0, 8, .inl f38)), (a39, .inl (ct 0, 40, .inl f39)), (a40, .inr (4, [.ref a41, .ref a48, .ref a53, .int (ur22.1 0)])), (a41, .inr (9, [.ref a42, .ref a44, .ref a45, .ref a46, .ref a47, .int (ur22.1 1), .int (ur22.1 2)])), (a42, .inr (0, [.ref a43, .int (ur22.1 3)])), (a43, .inl (ct 0, 8, .inl (ur22.2.1 0))), (a44, .inl (ct 0, 8, .inl (ur22.2.1 1))), (a45, .inl (ct 0, 8, .inl (ur22.2.1 2))), (a46, .inl (ct 0, 8, .inl (ur22.2.1 3))), (a47, .inl (ct 0, 8, .inl (ur22.2.1 4))), (a48, .inr (2, [.ref a41, .ref a49, .ref a51, .ref a52, .int (ur22.1 4), .int (ur22.1 5), .int (ur22.1 6), .int (ur22.1 7)])), (a49, .inr (0, [.ref a50, .int (ur22.1 8)])), (a50, .inl (ct 0, 8, .inl (ur22.2.1 5))), (a51, .inl (ct 0, 8, .inl (ur22.2.1 6))), (a52, .inl (ct 0, 8, .inl (ur22.2.1 7))), (a53, .inl (ct 0, 40, .inl (ur22.2.1 8))), (a54, .inr (4, [.ref a55, .ref a62, .ref a67, .int n54_3])), (a55, .inr (9, [.ref a56, .ref a58, .ref a59, .ref a60, .ref a61, .int n55_5, .int n55_6])), (a56, .inr (0, [.ref a57, .int n56_1])), (a57, .inl (ct 0, 8, .inl f57)), (a58, .inl (ct 0, 8, .inl f58)), (a59, .inl (ct 0, 8, .inl f59)), (a60, .inl (ct 0, 8, .inl f60)), (a61, .inl (ct 0, 8, .inl f61)), (a62, .inr (2, [.ref a55, .ref a63, .ref a65, .ref a66, .int n62_4, .int n62_5, .int n62_6, .int n62_7])), (a63, .inr (0, [.ref a64, .int n63_1])), (a64, .inl (ct 0, 8, .inl f64)), (a65, .inl (ct 0, 8, .inl f65)), (a66, .inl (ct 0, 8, .inl f66)), (a67, .inl (ct 0, 40, .inl f67)), (a68, .inl (ct 2, 3, .inl f68))] H := hP.sub [0, 45, 46, 47, 48, 49, 50, 51, 52, 53, 1, 2, 3, 4, 5, 6, 7, 8, 9, 10, 11, 12, 13, 14, 15, 31, 32, 33, 34, 35, 36, 37, 38, 39, 40, 41, 42, 43, 44, 16, 17, 18, 19, 20, 21, 22, 23, 24, 25, 26, 27, 28, 29, 30] rfl
        have hD : va_D A [(a0, .inr (10, [.ref a1, .ref a3, .ref a11, .ref a25, .ref a68, .ref a69, .ref a77, .ref a82, .ref a84, .ref a88, .ref a91])), (a11, .inr (4, [.ref a12, .ref a19, .ref a24, .int n11_3])), (a12, .inr (9, [.ref a13, .ref a15, .ref a16, .ref a17, .ref a18, .int n12_5, .int n12_6])), (a13, .inr (0, [.ref a14, .int n13_1])), (a14, .inl (ct 0, 8, .inl f14)), (a15, .inl (ct 0, 8, .inl f15)), (a16, .inl (ct 0, 8, .inl f16)), (a17, .inl (ct 0, 8, .inl f17)), (a18, .inl (ct 0, 8, .inl f18)), (a24, .inl (ct 0, 40, .inl f24)), (a25, .inl (ct 4, 3, .inr (.inr (.inr (.inr (va_up (va_up (va_up (fun _ => none) 0 (some a26)) 1 (some a40)) 2 (some a54))))))), (a26, .inr (4, [.ref a27, .ref a34, .ref a39, .int n26_3])), (a27, .inr (9, [.ref a28, .ref a30, .ref a31, .ref a32, .ref a33, .int n27_5, .int n27_6])), (a28, .inr (0, [.ref a29, .int n28_1])), (a29, .inl (ct 0, 8, .inl f29)), (a30, .inl (ct 0, 8, .inl f30)), (a31, .inl (ct 0, 8, .inl f31)), (a32, .inl (ct 0, 8, .inl f32)), (a33, .inl (ct 0, 8, .inl f33)), (a34, .inr (2, [.ref a27, .ref a35, .ref a37, .ref a38, .int n34_4, .int n34_5, .int n34_6, .int n34_7])), (a35, .inr (0, [.ref a36, .int n35_1])), (a36, .inl (ct 0, 8, .inl f36)), (a37, .inl (ct 0, 8, .inl f37)), (a38, .inl (ct 0, 8, .inl f38)), (a39, .inl (ct 0, 40, .inl f39)), (a40, .inr (4, [.ref a41, .ref a48, .ref a53, .int (ur22.1 0)])), (a41, .inr (9, [.ref a42, .ref a44, .ref a45, .ref a46, .ref a47, .int (ur22.1 1), .int (ur22.1 2)])), (a42, .inr (0, [.ref a43, .int (ur22.1 3)])), (a43, .inl (ct 0, 8, .inl (ur22.2.1 0))), (a44, .inl (ct 0, 8, .inl (ur22.2.1 1))), (a45, .inl (ct 0, 8, .inl (ur22.2.1 2))), (a46, .inl (ct 0, 8, .inl (ur22.2.1 3))), (a47, .inl (ct 0, 8, .inl (ur22.2.1 4))), (a48, .inr (2, [.ref a41, .ref a49, .ref a51, .ref a52, .int (ur22.1 4), .int (ur22.1 5), .int (ur22.1 6), .int (ur22.1 7)])), (a49, .inr (0, [.ref a50, .int (ur22.1 8)])), (a50, .inl (ct 0, 8, .inl (ur22.2.1 5))), (a51, .inl (ct 0, 8, .inl (ur22.2.1 6))), (a52, .inl (ct 0, 8, .inl (ur22.2.1 7))), (a53, .inl (ct 0, 40, .inl (ur22.2.1 8))), (a54, .inr (4, [.ref a55, .ref a62, .ref a67, .int n54_3])), (a55, .inr (9, [.ref a56, .ref a58, .ref a59, .ref a60, .ref a61, .int n55_5, .int n55_6])), (a56, .inr (0, [.ref a57, .int n56_1])), (a57, .inl (ct 0, 8, .inl f57)), (a58, .inl (ct 0, 8, .inl f58)), (a59, .inl (ct 0, 8, .inl f59)), (a60, .inl (ct 0, 8, .inl f60)), (a61, .inl (ct 0, 8, .inl f61)), (a62, .inr (2, [.ref a55, .ref a63, .ref a65, .ref a66, .int n62_4, .int n62_5, .int n62_6, .int n62_7])), (a63, .inr (0, [.ref a64, .int n63_1])), (a64, .inl (ct 0, 8, .inl f64)), (a65, .inl (ct 0, 8, .inl f65)), (a66, .inl (ct 0, 8, .inl f66)), (a67, .inl (ct 0, 40, .inl f67)), (a68, .inl (ct 2, 3, .inl f68))] := hD.sub [0, 45, 46, 47, 48, 49, 50, 51, 52, 53, 1, 2, 3, 4, 5, 6, 7, 8, 9, 10, 11, 12, 13, 14, 15, 31, 32, 33, 34, 35, 36, 37, 38, 39, 40, 41, 42, 43, 44, 16, 17, 18, 19, 20, 21, 22, 23, 24, 25, 26, 27, 28, 29, 30] (by decide) rfl
        obtain ⟨p_8, p_9, -⟩ := wr22
        refine lv_aload_n hx hb dX10_image_25 rfl (lv_at hl 0 rfl) ?_
        refine va_get (D := G) (ci := 10) (v := .ref a68) (C := RX10) (T := TX10) (N := 11) hx hb hts (by decide +kernel) hown hK.1 hP 0 rfl rfl 4 (by decide) (hts (.fieldLink RX10 36 "CardHolder" "kept" "[Z") (by decide +kernel)) (fun _ h9 => h9) rfl dX10_image_26 ?_
        refine lv_iload_n hx hb dX10_image_29 rfl (lv_at hl 1 rfl) ?_
        refine lv_iconst (v := 1) hx hb dX10_image_30 (by decide) ?_
        refine va_zast hx hb hK.1 hP hD hS 53 2 rfl rfl (in_rg h_7 (by decide)) dX10_image_31 (fun H locs hP hD hS => ?_)
        refine lv_iconst (v := 0) hx hb dX10_image_32 (by decide) ?_
        exact W.iret (v := 0) hx hb hr (fun t ht hW => ⟨⟨0, (fun k => ([n26_3, n27_5, n27_6, n28_1, n34_4, n34_5, n34_6, n34_7, n35_1, ur22.1 0, ur22.1 1, ur22.1 2, ur22.1 3, ur22.1 4, ur22.1 5, ur22.1 6, ur22.1 7, ur22.1 8, n54_3, n55_5, n55_6, n56_1, n62_4, n62_5, n62_6, n62_7, n63_1] : List Int32).getD k 0, fun k => ([f29, f30, f31, f32, f33, f36, f37, f38, f39, ur22.2.1 0, ur22.2.1 1, ur22.2.1 2, ur22.2.1 3, ur22.2.1 4, ur22.2.1 5, ur22.2.1 6, ur22.2.1 7, ur22.2.1 8, f57, f58, f59, f60, f61, f64, f65, f66, f67, upd f68 p0.toNatClampNeg (vp_nar .boolean 1)] : List (Nat → Int32)).getD k (fun _ => 0), fun k => ([] : List (Nat → Int64)).getD k (fun _ => 0)), rfl, ⟨(rg_w (c := (-2)) (d := 0) (rgn 0 (x := 0) (by decide)) (by decide)), (fun _ => (rg_w (c := 0) (d := 2) h_7 (by decide))), (fun _ => (rg_w (c := 0) (d := 2) h_7 (by decide))), hp_n28_1, hp_n35_1, p_8, p_9, hp_n56_1, hp_n63_1, trivial⟩, hp_at ht hP⟩, hS.F ht⟩) hS.2.2 dX10_image_33
      · refine ix_i (y := 2) s17 ?_
        have h_10 : rg 2 2 p0 := r_eq_l_i (e := 2) (f := 2) s17 h_3 (rgn 2 (x := 2) (by decide)) (by decide)
        refine va_aldq hx hb hK.1 hP 10 4 rfl rfl (in_lit (by decide)) dX10_image_17 ?_
        refine ix_r (y := .ref a54) rfl ?_
        refine lv_aload_n hx hb dX10_image_18 rfl (lv_at hl 0 rfl) ?_
        refine va_get (D := G) (ci := 10) (v := .ref a11) (C := RX10) (T := TX10) (N := 11) hx hb hts (by decide +kernel) hown hK.1 hP 0 rfl rfl 2 (by decide) (hts (.fieldLink RX10 28 "CardHolder" "play" "LCardHolder$Play;") (by decide +kernel)) (fun _ h9 => h9) rfl dX10_image_19 ?_
        refine wj_callv (wr := [(a0, .inr (10, [.ref a1, .ref a3, .ref a11, .ref a25, .ref a68, .ref a69, .ref a77, .ref a82, .ref a84, .ref a88, .ref a91])), (a25, .inl (ct 4, 3, .inr (.inr (.inr (.inr (va_up (va_up (va_up (fun _ => none) 0 (some a26)) 1 (some a40)) 2 (some a54))))))), (a26, .inr (4, [.ref a27, .ref a34, .ref a39, .int n26_3])), (a27, .inr (9, [.ref a28, .ref a30, .ref a31, .ref a32, .ref a33, .int n27_5, .int n27_6])), (a28, .inr (0, [.ref a29, .int n28_1])), (a29, .inl (ct 0, 8, .inl f29)), (a30, .inl (ct 0, 8, .inl f30)), (a31, .inl (ct 0, 8, .inl f31)), (a32, .inl (ct 0, 8, .inl f32)), (a33, .inl (ct 0, 8, .inl f33)), (a34, .inr (2, [.ref a27, .ref a35, .ref a37, .ref a38, .int n34_4, .int n34_5, .int n34_6, .int n34_7])), (a35, .inr (0, [.ref a36, .int n35_1])), (a36, .inl (ct 0, 8, .inl f36)), (a37, .inl (ct 0, 8, .inl f37)), (a38, .inl (ct 0, 8, .inl f38)), (a39, .inl (ct 0, 40, .inl f39)), (a40, .inr (4, [.ref a41, .ref a48, .ref a53, .int n40_3])), (a41, .inr (9, [.ref a42, .ref a44, .ref a45, .ref a46, .ref a47, .int n41_5, .int n41_6])), (a42, .inr (0, [.ref a43, .int n42_1])), (a43, .inl (ct 0, 8, .inl f43)), (a44, .inl (ct 0, 8, .inl f44)), (a45, .inl (ct 0, 8, .inl f45)), (a46, .inl (ct 0, 8, .inl f46)), (a47, .inl (ct 0, 8, .inl f47)), (a48, .inr (2, [.ref a41, .ref a49, .ref a51, .ref a52, .int n48_4, .int n48_5, .int n48_6, .int n48_7])), (a49, .inr (0, [.ref a50, .int n49_1])), (a50, .inl (ct 0, 8, .inl f50)), (a51, .inl (ct 0, 8, .inl f51)), (a52, .inl (ct 0, 8, .inl f52)), (a53, .inl (ct 0, 40, .inl f53)), (a68, .inl (ct 2, 3, .inl f68))]) (w1 := (fun u : SU => [(a54, .inr (4, [.ref a55, .ref a62, .ref a67, .int (u.1 0)])), (a55, .inr (9, [.ref a56, .ref a58, .ref a59, .ref a60, .ref a61, .int (u.1 1), .int (u.1 2)])), (a56, .inr (0, [.ref a57, .int (u.1 3)])), (a57, .inl (ct 0, 8, .inl (u.2.1 0))), (a58, .inl (ct 0, 8, .inl (u.2.1 1))), (a59, .inl (ct 0, 8, .inl (u.2.1 2))), (a60, .inl (ct 0, 8, .inl (u.2.1 3))), (a61, .inl (ct 0, 8, .inl (u.2.1 4))), (a62, .inr (2, [.ref a55, .ref a63, .ref a65, .ref a66, .int (u.1 4), .int (u.1 5), .int (u.1 6), .int (u.1 7)])), (a63, .inr (0, [.ref a64, .int (u.1 8)])), (a64, .inl (ct 0, 8, .inl (u.2.1 5))), (a65, .inl (ct 0, 8, .inl (u.2.1 6))), (a66, .inl (ct 0, 8, .inl (u.2.1 7))), (a67, .inl (ct 0, 40, .inl (u.2.1 8))), (a11, .inr (4, [.ref a12, .ref a19, .ref a24, .int n11_3])), (a12, .inr (9, [.ref a13, .ref a15, .ref a16, .ref a17, .ref a18, .int n12_5, .int n12_6])), (a13, .inr (0, [.ref a14, .int n13_1])), (a14, .inl (ct 0, 8, .inl f14)), (a15, .inl (ct 0, 8, .inl f15)), (a16, .inl (ct 0, 8, .inl f16)), (a17, .inl (ct 0, 8, .inl f17)), (a18, .inl (ct 0, 8, .inl f18)), (a24, .inl (ct 0, 40, .inl f24))])) (va_runV (As := [.ref a11]) (rest := []) ⟨hx, hb, hml, hown, hts⟩ (a_X4_copyOf l G ct a54 a55 a62 a67 n54_3 a56 a58 a59 a60 a61 n55_5 n55_6 a57 n56_1 f57 f58 f59 f60 f61 a63 a65 a66 n62_4 n62_5 n62_6 n62_7 a64 n63_1 f64 f65 f66 f67 a11 a12 a19 a24 n11_3 a13 a15 a16 a17 a18 n12_5 n12_6 a14 n13_1 f14 f15 f16 f17 f18 f24 hp_n56_1 hp_n63_1 hp_n13_1) (cwV 1 hts gX10_image_X4_copyOf rfl rfl rfl (by decide +kernel) ⟨Nat.le_of_ble_eq_true rfl, Nat.le_of_ble_eq_true rfl⟩) (wr_preV 4 0 hK (hP.sub [39, 40, 41, 42, 43, 44, 45, 46, 47, 48, 49, 50, 51, 52, 1, 2, 3, 4, 5, 6, 7, 8, 9] rfl) (hD.sub [39, 40, 41, 42, 43, 44, 45, 46, 47, 48, 49, 50, 51, 52, 1, 2, 3, 4, 5, 6, 7, 8, 9] (by decide) rfl) rfl rfl) rfl rfl hl.1 rfl (lv_room (Nat.le_of_ble_eq_true rfl)) dX10_image_22 ⟨Nat.zero_le _, Nat.zero_le _⟩) hS hP hD [39, 40, 41, 42, 43, 44, 45, 46, 47, 48, 49, 50, 51, 52, 1, 2, 3, 4, 5, 6, 7, 8, 9] [0, 10, 11, 12, 13, 14, 15, 16, 17, 18, 19, 20, 21, 22, 23, 24, 25, 26, 27, 28, 29, 30, 31, 32, 33, 34, 35, 36, 37, 38, 53] rfl rfl (by decide) (fun _ => rfl) (fun ur22 H locs wr22 hP hD hS => ?_)
        have hP : va_P G vwCl [(a0, .inr (10, [.ref a1, .ref a3, .ref a11, .ref a25, .ref a68, .ref a69, .ref a77, .ref a82, .ref a84, .ref a88, .ref a91])), (a11, .inr (4, [.ref a12, .ref a19, .ref a24, .int n11_3])), (a12, .inr (9, [.ref a13, .ref a15, .ref a16, .ref a17, .ref a18, .int n12_5, .int n12_6])), (a13, .inr (0, [.ref a14, .int n13_1])), (a14, .inl (ct 0, 8, .inl f14)), (a15, .inl (ct 0, 8, .inl f15)), (a16, .inl (ct 0, 8, .inl f16)), (a17, .inl (ct 0, 8, .inl f17)), (a18, .inl (ct 0, 8, .inl f18)), (a24, .inl (ct 0, 40, .inl f24)), (a25, .inl (ct 4, 3, .inr (.inr (.inr (.inr (va_up (va_up (va_up (fun _ => none) 0 (some a26)) 1 (some a40)) 2 (some a54))))))), (a26, .inr (4, [.ref a27, .ref a34, .ref a39, .int n26_3])), (a27, .inr (9, [.ref a28, .ref a30, .ref a31, .ref a32, .ref a33, .int n27_5, .int n27_6])), (a28, .inr (0, [.ref a29, .int n28_1])), (a29, .inl (ct 0, 8, .inl f29)), (a30, .inl (ct 0, 8, .inl f30)), (a31, .inl (ct 0, 8, .inl f31)), (a32, .inl (ct 0, 8, .inl f32)), (a33, .inl (ct 0, 8, .inl f33)), (a34, .inr (2, [.ref a27, .ref a35, .ref a37, .ref a38, .int n34_4, .int n34_5, .int n34_6, .int n34_7])), (a35, .inr (0, [.ref a36, .int n35_1])), (a36, .inl (ct 0, 8, .inl f36)), (a37, .inl (ct 0, 8, .inl f37)), (a38, .inl (ct 0, 8, .inl f38)), (a39, .inl (ct 0, 40, .inl f39)), (a40, .inr (4, [.ref a41, .ref a48, .ref a53, .int n40_3])), (a41, .inr (9, [.ref a42, .ref a44, .ref a45, .ref a46, .ref a47, .int n41_5, .int n41_6])), (a42, .inr (0, [.ref a43, .int n42_1])), (a43, .inl (ct 0, 8, .inl f43)), (a44, .inl (ct 0, 8, .inl f44)), (a45, .inl (ct 0, 8, .inl f45)), (a46, .inl (ct 0, 8, .inl f46)), (a47, .inl (ct 0, 8, .inl f47)), (a48, .inr (2, [.ref a41, .ref a49, .ref a51, .ref a52, .int n48_4, .int n48_5, .int n48_6, .int n48_7])), (a49, .inr (0, [.ref a50, .int n49_1])), (a50, .inl (ct 0, 8, .inl f50)), (a51, .inl (ct 0, 8, .inl f51)), (a52, .inl (ct 0, 8, .inl f52)), (a53, .inl (ct 0, 40, .inl f53)), (a54, .inr (4, [.ref a55, .ref a62, .ref a67, .int (ur22.1 0)])), (a55, .inr (9, [.ref a56, .ref a58, .ref a59, .ref a60, .ref a61, .int (ur22.1 1), .int (ur22.1 2)])), (a56, .inr (0, [.ref a57, .int (ur22.1 3)])), (a57, .inl (ct 0, 8, .inl (ur22.2.1 0))), (a58, .inl (ct 0, 8, .inl (ur22.2.1 1))), (a59, .inl (ct 0, 8, .inl (ur22.2.1 2))), (a60, .inl (ct 0, 8, .inl (ur22.2.1 3))), (a61, .inl (ct 0, 8, .inl (ur22.2.1 4))), (a62, .inr (2, [.ref a55, .ref a63, .ref a65, .ref a66, .int (ur22.1 4), .int (ur22.1 5), .int (ur22.1 6), .int (ur22.1 7)])), (a63, .inr (0, [.ref a64, .int (ur22.1 8)])), (a64, .inl (ct 0, 8, .inl (ur22.2.1 5))), (a65, .inl (ct 0, 8, .inl (ur22.2.1 6))), (a66, .inl (ct 0, 8, .inl (ur22.2.1 7))), (a67, .inl (ct 0, 40, .inl (ur22.2.1 8))), (a68, .inl (ct 2, 3, .inl f68))] H := hP.sub [0, 45, 46, 47, 48, 49, 50, 51, 52, 53, 1, 2, 3, 4, 5, 6, 7, 8, 9, 10, 11, 12, 13, 14, 15, 16, 17, 18, 19, 20, 21, 22, 23, 24, 25, 26, 27, 28, 29, 31, 32, 33, 34, 35, 36, 37, 38, 39, 40, 41, 42, 43, 44, 30] rfl
        have hD : va_D A [(a0, .inr (10, [.ref a1, .ref a3, .ref a11, .ref a25, .ref a68, .ref a69, .ref a77, .ref a82, .ref a84, .ref a88, .ref a91])), (a11, .inr (4, [.ref a12, .ref a19, .ref a24, .int n11_3])), (a12, .inr (9, [.ref a13, .ref a15, .ref a16, .ref a17, .ref a18, .int n12_5, .int n12_6])), (a13, .inr (0, [.ref a14, .int n13_1])), (a14, .inl (ct 0, 8, .inl f14)), (a15, .inl (ct 0, 8, .inl f15)), (a16, .inl (ct 0, 8, .inl f16)), (a17, .inl (ct 0, 8, .inl f17)), (a18, .inl (ct 0, 8, .inl f18)), (a24, .inl (ct 0, 40, .inl f24)), (a25, .inl (ct 4, 3, .inr (.inr (.inr (.inr (va_up (va_up (va_up (fun _ => none) 0 (some a26)) 1 (some a40)) 2 (some a54))))))), (a26, .inr (4, [.ref a27, .ref a34, .ref a39, .int n26_3])), (a27, .inr (9, [.ref a28, .ref a30, .ref a31, .ref a32, .ref a33, .int n27_5, .int n27_6])), (a28, .inr (0, [.ref a29, .int n28_1])), (a29, .inl (ct 0, 8, .inl f29)), (a30, .inl (ct 0, 8, .inl f30)), (a31, .inl (ct 0, 8, .inl f31)), (a32, .inl (ct 0, 8, .inl f32)), (a33, .inl (ct 0, 8, .inl f33)), (a34, .inr (2, [.ref a27, .ref a35, .ref a37, .ref a38, .int n34_4, .int n34_5, .int n34_6, .int n34_7])), (a35, .inr (0, [.ref a36, .int n35_1])), (a36, .inl (ct 0, 8, .inl f36)), (a37, .inl (ct 0, 8, .inl f37)), (a38, .inl (ct 0, 8, .inl f38)), (a39, .inl (ct 0, 40, .inl f39)), (a40, .inr (4, [.ref a41, .ref a48, .ref a53, .int n40_3])), (a41, .inr (9, [.ref a42, .ref a44, .ref a45, .ref a46, .ref a47, .int n41_5, .int n41_6])), (a42, .inr (0, [.ref a43, .int n42_1])), (a43, .inl (ct 0, 8, .inl f43)), (a44, .inl (ct 0, 8, .inl f44)), (a45, .inl (ct 0, 8, .inl f45)), (a46, .inl (ct 0, 8, .inl f46)), (a47, .inl (ct 0, 8, .inl f47)), (a48, .inr (2, [.ref a41, .ref a49, .ref a51, .ref a52, .int n48_4, .int n48_5, .int n48_6, .int n48_7])), (a49, .inr (0, [.ref a50, .int n49_1])), (a50, .inl (ct 0, 8, .inl f50)), (a51, .inl (ct 0, 8, .inl f51)), (a52, .inl (ct 0, 8, .inl f52)), (a53, .inl (ct 0, 40, .inl f53)), (a54, .inr (4, [.ref a55, .ref a62, .ref a67, .int (ur22.1 0)])), (a55, .inr (9, [.ref a56, .ref a58, .ref a59, .ref a60, .ref a61, .int (ur22.1 1), .int (ur22.1 2)])), (a56, .inr (0, [.ref a57, .int (ur22.1 3)])), (a57, .inl (ct 0, 8, .inl (ur22.2.1 0))), (a58, .inl (ct 0, 8, .inl (ur22.2.1 1))), (a59, .inl (ct 0, 8, .inl (ur22.2.1 2))), (a60, .inl (ct 0, 8, .inl (ur22.2.1 3))), (a61, .inl (ct 0, 8, .inl (ur22.2.1 4))), (a62, .inr (2, [.ref a55, .ref a63, .ref a65, .ref a66, .int (ur22.1 4), .int (ur22.1 5), .int (ur22.1 6), .int (ur22.1 7)])), (a63, .inr (0, [.ref a64, .int (ur22.1 8)])), (a64, .inl (ct 0, 8, .inl (ur22.2.1 5))), (a65, .inl (ct 0, 8, .inl (ur22.2.1 6))), (a66, .inl (ct 0, 8, .inl (ur22.2.1 7))), (a67, .inl (ct 0, 40, .inl (ur22.2.1 8))), (a68, .inl (ct 2, 3, .inl f68))] := hD.sub [0, 45, 46, 47, 48, 49, 50, 51, 52, 53, 1, 2, 3, 4, 5, 6, 7, 8, 9, 10, 11, 12, 13, 14, 15, 16, 17, 18, 19, 20, 21, 22, 23, 24, 25, 26, 27, 28, 29, 31, 32, 33, 34, 35, 36, 37, 38, 39, 40, 41, 42, 43, 44, 30] (by decide) rfl
        obtain ⟨p_11, p_12, -⟩ := wr22
        refine lv_aload_n hx hb dX10_image_25 rfl (lv_at hl 0 rfl) ?_
        refine va_get (D := G) (ci := 10) (v := .ref a68) (C := RX10) (T := TX10) (N := 11) hx hb hts (by decide +kernel) hown hK.1 hP 0 rfl rfl 4 (by decide) (hts (.fieldLink RX10 36 "CardHolder" "kept" "[Z") (by decide +kernel)) (fun _ h9 => h9) rfl dX10_image_26 ?_
        refine lv_iload_n hx hb dX10_image_29 rfl (lv_at hl 1 rfl) ?_
        refine lv_iconst (v := 1) hx hb dX10_image_30 (by decide) ?_
        refine va_zast hx hb hK.1 hP hD hS 53 2 rfl rfl (in_rg h_10 (by decide)) dX10_image_31 (fun H locs hP hD hS => ?_)
        refine lv_iconst (v := 0) hx hb dX10_image_32 (by decide) ?_
        exact W.iret (v := 0) hx hb hr (fun t ht hW => ⟨⟨0, (fun k => ([n26_3, n27_5, n27_6, n28_1, n34_4, n34_5, n34_6, n34_7, n35_1, n40_3, n41_5, n41_6, n42_1, n48_4, n48_5, n48_6, n48_7, n49_1, ur22.1 0, ur22.1 1, ur22.1 2, ur22.1 3, ur22.1 4, ur22.1 5, ur22.1 6, ur22.1 7, ur22.1 8] : List Int32).getD k 0, fun k => ([f29, f30, f31, f32, f33, f36, f37, f38, f39, f43, f44, f45, f46, f47, f50, f51, f52, f53, ur22.2.1 0, ur22.2.1 1, ur22.2.1 2, ur22.2.1 3, ur22.2.1 4, ur22.2.1 5, ur22.2.1 6, ur22.2.1 7, ur22.2.1 8, upd f68 p0.toNatClampNeg (vp_nar .boolean 1)] : List (Nat → Int32)).getD k (fun _ => 0), fun k => ([] : List (Nat → Int64)).getD k (fun _ => 0)), rfl, ⟨(rg_w (c := (-2)) (d := 0) (rgn 0 (x := 0) (by decide)) (by decide)), (fun _ => (rg_w (c := 0) (d := 2) h_10 (by decide))), (fun _ => (rg_w (c := 0) (d := 2) h_10 (by decide))), hp_n28_1, hp_n35_1, hp_n42_1, hp_n49_1, p_11, p_12, trivial⟩, hp_at ht hP⟩, hS.F ht⟩) hS.2.2 dX10_image_33
    · have h_13 : rg 3 2147483647 p0 := r_le_r_i (nlt_i c6) (rgn 3 (x := 3) (by decide)) h_2
      refine lv_bipush (v := (-2)) hx hb dX10_image_9 (by decide) ?_
      exact W.iret (v := (-2)) hx hb hr (fun t ht hW => ⟨⟨(-2), (fun k => ([n26_3, n27_5, n27_6, n28_1, n34_4, n34_5, n34_6, n34_7, n35_1, n40_3, n41_5, n41_6, n42_1, n48_4, n48_5, n48_6, n48_7, n49_1, n54_3, n55_5, n55_6, n56_1, n62_4, n62_5, n62_6, n62_7, n63_1] : List Int32).getD k 0, fun k => ([f29, f30, f31, f32, f33, f36, f37, f38, f39, f43, f44, f45, f46, f47, f50, f51, f52, f53, f57, f58, f59, f60, f61, f64, f65, f66, f67, f68] : List (Nat → Int32)).getD k (fun _ => 0), fun k => ([] : List (Nat → Int64)).getD k (fun _ => 0)), rfl, ⟨(rg_w (c := (-2)) (d := 0) (rgn (-2) (x := (-2)) (by decide)) (by decide)), (fun hq => absurd hq (rne (rgn (-2) (x := (-2)) (by decide)) (y := 0) (c := 0) (by decide) (by decide))), (fun hq => absurd (req (rgn (-2) (x := (-2)) (by decide)) (y := (-2)) (by decide)) hq), hp_n28_1, hp_n35_1, hp_n42_1, hp_n49_1, hp_n56_1, hp_n63_1, trivial⟩, hp_at ht hP⟩, hS.F ht⟩) hS.2.2 dX10_image_11

set_option maxHeartbeats 4000000 in
set_option maxRecDepth 100000 in
theorem a_X10_back (l : Launch) (G : va_G) (ct : Nat → ClassId) (a0 : Nat) (a1 : Nat) (a3 : Nat) (a11 : Nat) (a25 : Nat) (a68 : Nat) (a69 : Nat) (a77 : Nat) (a82 : Nat) (a84 : Nat) (a88 : Nat) (a91 : Nat) (a12 : Nat) (a19 : Nat) (a24 : Nat) (n11_3 : Int32) (a13 : Nat) (a15 : Nat) (a16 : Nat) (a17 : Nat) (a18 : Nat) (n12_5 : Int32) (n12_6 : Int32) (a14 : Nat) (n13_1 : Int32) (f14 : Nat → Int32) (f15 : Nat → Int32) (f16 : Nat → Int32) (f17 : Nat → Int32) (f18 : Nat → Int32) (a20 : Nat) (a22 : Nat) (a23 : Nat) (n19_4 : Int32) (n19_5 : Int32) (n19_6 : Int32) (n19_7 : Int32) (a21 : Nat) (n20_1 : Int32) (f21 : Nat → Int32) (f22 : Nat → Int32) (f23 : Nat → Int32) (f24 : Nat → Int32) (a26 : Nat) (a40 : Nat) (a54 : Nat) (a27 : Nat) (a34 : Nat) (a39 : Nat) (n26_3 : Int32) (a28 : Nat) (a30 : Nat) (a31 : Nat) (a32 : Nat) (a33 : Nat) (n27_5 : Int32) (n27_6 : Int32) (a29 : Nat) (n28_1 : Int32) (f29 : Nat → Int32) (f30 : Nat → Int32) (f31 : Nat → Int32) (f32 : Nat → Int32) (f33 : Nat → Int32) (f39 : Nat → Int32) (a41 : Nat) (a48 : Nat) (a53 : Nat) (n40_3 : Int32) (a42 : Nat) (a44 : Nat) (a45 : Nat) (a46 : Nat) (a47 : Nat) (n41_5 : Int32) (n41_6 : Int32) (a43 : Nat) (n42_1 : Int32) (f43 : Nat → Int32) (f44 : Nat → Int32) (f45 : Nat → Int32) (f46 : Nat → Int32) (f47 : Nat → Int32) (f53 : Nat → Int32) (a55 : Nat) (a62 : Nat) (a67 : Nat) (n54_3 : Int32) (a56 : Nat) (a58 : Nat) (a59 : Nat) (a60 : Nat) (a61 : Nat) (n55_5 : Int32) (n55_6 : Int32) (a57 : Nat) (n56_1 : Int32) (f57 : Nat → Int32) (f58 : Nat → Int32) (f59 : Nat → Int32) (f60 : Nat → Int32) (f61 : Nat → Int32) (f67 : Nat → Int32) (f68 : Nat → Int32) (p0 : Int32) (hp_n13_1 : rg 0 8 n13_1) (hp_n20_1 : rg 0 8 n20_1) (hp_n28_1 : rg 0 8 n28_1) (hp_n42_1 : rg 0 8 n42_1) (hp_n56_1 : rg 0 8 n56_1) : Met l yX10_back wsX10_back ({ frames := 6, cells := 0, slots := 0, locals := 145 }) (va_Pc [.ref a0, .int p0] (wrP G ct [(a0, .inr (10, [.ref a1, .ref a3, .ref a11, .ref a25, .ref a68, .ref a69, .ref a77, .ref a82, .ref a84, .ref a88, .ref a91])), (a11, .inr (4, [.ref a12, .ref a19, .ref a24, .int n11_3])), (a12, .inr (9, [.ref a13, .ref a15, .ref a16, .ref a17, .ref a18, .int n12_5, .int n12_6])), (a13, .inr (0, [.ref a14, .int n13_1])), (a14, .inl (ct 0, 8, .inl f14)), (a15, .inl (ct 0, 8, .inl f15)), (a16, .inl (ct 0, 8, .inl f16)), (a17, .inl (ct 0, 8, .inl f17)), (a18, .inl (ct 0, 8, .inl f18)), (a19, .inr (2, [.ref a12, .ref a20, .ref a22, .ref a23, .int n19_4, .int n19_5, .int n19_6, .int n19_7])), (a20, .inr (0, [.ref a21, .int n20_1])), (a21, .inl (ct 0, 8, .inl f21)), (a22, .inl (ct 0, 8, .inl f22)), (a23, .inl (ct 0, 8, .inl f23)), (a24, .inl (ct 0, 40, .inl f24)), (a25, .inl (ct 4, 3, .inr (.inr (.inr (.inr (va_up (va_up (va_up (fun _ => none) 0 (some a26)) 1 (some a40)) 2 (some a54))))))), (a26, .inr (4, [.ref a27, .ref a34, .ref a39, .int n26_3])), (a27, .inr (9, [.ref a28, .ref a30, .ref a31, .ref a32, .ref a33, .int n27_5, .int n27_6])), (a28, .inr (0, [.ref a29, .int n28_1])), (a29, .inl (ct 0, 8, .inl f29)), (a30, .inl (ct 0, 8, .inl f30)), (a31, .inl (ct 0, 8, .inl f31)), (a32, .inl (ct 0, 8, .inl f32)), (a33, .inl (ct 0, 8, .inl f33)), (a39, .inl (ct 0, 40, .inl f39)), (a40, .inr (4, [.ref a41, .ref a48, .ref a53, .int n40_3])), (a41, .inr (9, [.ref a42, .ref a44, .ref a45, .ref a46, .ref a47, .int n41_5, .int n41_6])), (a42, .inr (0, [.ref a43, .int n42_1])), (a43, .inl (ct 0, 8, .inl f43)), (a44, .inl (ct 0, 8, .inl f44)), (a45, .inl (ct 0, 8, .inl f45)), (a46, .inl (ct 0, 8, .inl f46)), (a47, .inl (ct 0, 8, .inl f47)), (a53, .inl (ct 0, 40, .inl f53)), (a54, .inr (4, [.ref a55, .ref a62, .ref a67, .int n54_3])), (a55, .inr (9, [.ref a56, .ref a58, .ref a59, .ref a60, .ref a61, .int n55_5, .int n55_6])), (a56, .inr (0, [.ref a57, .int n56_1])), (a57, .inl (ct 0, 8, .inl f57)), (a58, .inl (ct 0, 8, .inl f58)), (a59, .inl (ct 0, 8, .inl f59)), (a60, .inl (ct 0, 8, .inl f60)), (a61, .inl (ct 0, 8, .inl f61)), (a67, .inl (ct 0, 40, .inl f67)), (a68, .inl (ct 2, 3, .inl f68))])) (va_Qi (fun (r : Int32) (u : SU) => rg (-6) 0 r ∧ (r = 0 → rg 0 2 p0) ∧ (¬ r = (-2) → rg 0 2 p0) ∧ rg 0 8 (u.1 3) ∧ rg 0 8 (u.1 8) ∧ True) (fun u t => va_P G vwCl ((fun u : SU => [(a0, .inr (10, [.ref a1, .ref a3, .ref a11, .ref a25, .ref a68, .ref a69, .ref a77, .ref a82, .ref a84, .ref a88, .ref a91])), (a11, .inr (4, [.ref a12, .ref a19, .ref a24, .int (u.1 0)])), (a12, .inr (9, [.ref a13, .ref a15, .ref a16, .ref a17, .ref a18, .int (u.1 1), .int (u.1 2)])), (a13, .inr (0, [.ref a14, .int (u.1 3)])), (a14, .inl (ct 0, 8, .inl (u.2.1 0))), (a15, .inl (ct 0, 8, .inl (u.2.1 1))), (a16, .inl (ct 0, 8, .inl (u.2.1 2))), (a17, .inl (ct 0, 8, .inl (u.2.1 3))), (a18, .inl (ct 0, 8, .inl (u.2.1 4))), (a19, .inr (2, [.ref a12, .ref a20, .ref a22, .ref a23, .int (u.1 4), .int (u.1 5), .int (u.1 6), .int (u.1 7)])), (a20, .inr (0, [.ref a21, .int (u.1 8)])), (a21, .inl (ct 0, 8, .inl (u.2.1 5))), (a22, .inl (ct 0, 8, .inl (u.2.1 6))), (a23, .inl (ct 0, 8, .inl (u.2.1 7))), (a24, .inl (ct 0, 40, .inl (u.2.1 8))), (a25, .inl (ct 4, 3, .inr (.inr (.inr (.inr (va_up (va_up (va_up (fun _ => none) 0 (some a26)) 1 (some a40)) 2 (some a54))))))), (a26, .inr (4, [.ref a27, .ref a34, .ref a39, .int n26_3])), (a27, .inr (9, [.ref a28, .ref a30, .ref a31, .ref a32, .ref a33, .int n27_5, .int n27_6])), (a28, .inr (0, [.ref a29, .int n28_1])), (a29, .inl (ct 0, 8, .inl f29)), (a30, .inl (ct 0, 8, .inl f30)), (a31, .inl (ct 0, 8, .inl f31)), (a32, .inl (ct 0, 8, .inl f32)), (a33, .inl (ct 0, 8, .inl f33)), (a39, .inl (ct 0, 40, .inl f39)), (a40, .inr (4, [.ref a41, .ref a48, .ref a53, .int n40_3])), (a41, .inr (9, [.ref a42, .ref a44, .ref a45, .ref a46, .ref a47, .int n41_5, .int n41_6])), (a42, .inr (0, [.ref a43, .int n42_1])), (a43, .inl (ct 0, 8, .inl f43)), (a44, .inl (ct 0, 8, .inl f44)), (a45, .inl (ct 0, 8, .inl f45)), (a46, .inl (ct 0, 8, .inl f46)), (a47, .inl (ct 0, 8, .inl f47)), (a53, .inl (ct 0, 40, .inl f53)), (a54, .inr (4, [.ref a55, .ref a62, .ref a67, .int n54_3])), (a55, .inr (9, [.ref a56, .ref a58, .ref a59, .ref a60, .ref a61, .int n55_5, .int n55_6])), (a56, .inr (0, [.ref a57, .int n56_1])), (a57, .inl (ct 0, 8, .inl f57)), (a58, .inl (ct 0, 8, .inl f58)), (a59, .inl (ct 0, 8, .inl f59)), (a60, .inl (ct 0, 8, .inl f60)), (a61, .inl (ct 0, 8, .inl f61)), (a67, .inl (ct 0, 40, .inl f67)), (a68, .inl (ct 2, 3, .inl f68))]) u) t.heap) (aset [(a0, .inr (10, [.ref a1, .ref a3, .ref a11, .ref a25, .ref a68, .ref a69, .ref a77, .ref a82, .ref a84, .ref a88, .ref a91])), (a11, .inr (4, [.ref a12, .ref a19, .ref a24, .int n11_3])), (a12, .inr (9, [.ref a13, .ref a15, .ref a16, .ref a17, .ref a18, .int n12_5, .int n12_6])), (a13, .inr (0, [.ref a14, .int n13_1])), (a14, .inl (ct 0, 8, .inl f14)), (a15, .inl (ct 0, 8, .inl f15)), (a16, .inl (ct 0, 8, .inl f16)), (a17, .inl (ct 0, 8, .inl f17)), (a18, .inl (ct 0, 8, .inl f18)), (a19, .inr (2, [.ref a12, .ref a20, .ref a22, .ref a23, .int n19_4, .int n19_5, .int n19_6, .int n19_7])), (a20, .inr (0, [.ref a21, .int n20_1])), (a21, .inl (ct 0, 8, .inl f21)), (a22, .inl (ct 0, 8, .inl f22)), (a23, .inl (ct 0, 8, .inl f23)), (a24, .inl (ct 0, 40, .inl f24)), (a25, .inl (ct 4, 3, .inr (.inr (.inr (.inr (va_up (va_up (va_up (fun _ => none) 0 (some a26)) 1 (some a40)) 2 (some a54))))))), (a26, .inr (4, [.ref a27, .ref a34, .ref a39, .int n26_3])), (a27, .inr (9, [.ref a28, .ref a30, .ref a31, .ref a32, .ref a33, .int n27_5, .int n27_6])), (a28, .inr (0, [.ref a29, .int n28_1])), (a29, .inl (ct 0, 8, .inl f29)), (a30, .inl (ct 0, 8, .inl f30)), (a31, .inl (ct 0, 8, .inl f31)), (a32, .inl (ct 0, 8, .inl f32)), (a33, .inl (ct 0, 8, .inl f33)), (a39, .inl (ct 0, 40, .inl f39)), (a40, .inr (4, [.ref a41, .ref a48, .ref a53, .int n40_3])), (a41, .inr (9, [.ref a42, .ref a44, .ref a45, .ref a46, .ref a47, .int n41_5, .int n41_6])), (a42, .inr (0, [.ref a43, .int n42_1])), (a43, .inl (ct 0, 8, .inl f43)), (a44, .inl (ct 0, 8, .inl f44)), (a45, .inl (ct 0, 8, .inl f45)), (a46, .inl (ct 0, 8, .inl f46)), (a47, .inl (ct 0, 8, .inl f47)), (a53, .inl (ct 0, 40, .inl f53)), (a54, .inr (4, [.ref a55, .ref a62, .ref a67, .int n54_3])), (a55, .inr (9, [.ref a56, .ref a58, .ref a59, .ref a60, .ref a61, .int n55_5, .int n55_6])), (a56, .inr (0, [.ref a57, .int n56_1])), (a57, .inl (ct 0, 8, .inl f57)), (a58, .inl (ct 0, 8, .inl f58)), (a59, .inl (ct 0, 8, .inl f59)), (a60, .inl (ct 0, 8, .inl f60)), (a61, .inl (ct 0, 8, .inl f61)), (a67, .inl (ct 0, 40, .inl f67)), (a68, .inl (ct 2, 3, .inl f68))])) 0 0 (aset [(a0, .inr (10, [.ref a1, .ref a3, .ref a11, .ref a25, .ref a68, .ref a69, .ref a77, .ref a82, .ref a84, .ref a88, .ref a91])), (a11, .inr (4, [.ref a12, .ref a19, .ref a24, .int n11_3])), (a12, .inr (9, [.ref a13, .ref a15, .ref a16, .ref a17, .ref a18, .int n12_5, .int n12_6])), (a13, .inr (0, [.ref a14, .int n13_1])), (a14, .inl (ct 0, 8, .inl f14)), (a15, .inl (ct 0, 8, .inl f15)), (a16, .inl (ct 0, 8, .inl f16)), (a17, .inl (ct 0, 8, .inl f17)), (a18, .inl (ct 0, 8, .inl f18)), (a19, .inr (2, [.ref a12, .ref a20, .ref a22, .ref a23, .int n19_4, .int n19_5, .int n19_6, .int n19_7])), (a20, .inr (0, [.ref a21, .int n20_1])), (a21, .inl (ct 0, 8, .inl f21)), (a22, .inl (ct 0, 8, .inl f22)), (a23, .inl (ct 0, 8, .inl f23)), (a24, .inl (ct 0, 40, .inl f24)), (a25, .inl (ct 4, 3, .inr (.inr (.inr (.inr (va_up (va_up (va_up (fun _ => none) 0 (some a26)) 1 (some a40)) 2 (some a54))))))), (a26, .inr (4, [.ref a27, .ref a34, .ref a39, .int n26_3])), (a27, .inr (9, [.ref a28, .ref a30, .ref a31, .ref a32, .ref a33, .int n27_5, .int n27_6])), (a28, .inr (0, [.ref a29, .int n28_1])), (a29, .inl (ct 0, 8, .inl f29)), (a30, .inl (ct 0, 8, .inl f30)), (a31, .inl (ct 0, 8, .inl f31)), (a32, .inl (ct 0, 8, .inl f32)), (a33, .inl (ct 0, 8, .inl f33)), (a39, .inl (ct 0, 40, .inl f39)), (a40, .inr (4, [.ref a41, .ref a48, .ref a53, .int n40_3])), (a41, .inr (9, [.ref a42, .ref a44, .ref a45, .ref a46, .ref a47, .int n41_5, .int n41_6])), (a42, .inr (0, [.ref a43, .int n42_1])), (a43, .inl (ct 0, 8, .inl f43)), (a44, .inl (ct 0, 8, .inl f44)), (a45, .inl (ct 0, 8, .inl f45)), (a46, .inl (ct 0, 8, .inl f46)), (a47, .inl (ct 0, 8, .inl f47)), (a53, .inl (ct 0, 40, .inl f53)), (a54, .inr (4, [.ref a55, .ref a62, .ref a67, .int n54_3])), (a55, .inr (9, [.ref a56, .ref a58, .ref a59, .ref a60, .ref a61, .int n55_5, .int n55_6])), (a56, .inr (0, [.ref a57, .int n56_1])), (a57, .inl (ct 0, 8, .inl f57)), (a58, .inl (ct 0, 8, .inl f58)), (a59, .inl (ct 0, 8, .inl f59)), (a60, .inl (ct 0, 8, .inl f60)), (a61, .inl (ct 0, 8, .inl f61)), (a67, .inl (ct 0, 40, .inl f67)), (a68, .inl (ct 2, 3, .inl f68))]) := by
  refine Met.ofW (cc := cX10_back) (maxL := 2) (ret := (some .int)) (by decide) rfl ?_
  intro p e s m args below meth c s₁ B hml hv
  obtain ⟨rfl, hP, hK, hD0⟩ := hv
  have hx := B.exec
  have hb := B.bytes
  have hr := B.returns
  have hts := atoms_spec (ws := wsX10_back) B.pre
  have hown : s.vm.findClass RX10 = some m.cls := findClass_of_methodNamed B.named
  have hlocks := B.notSynchronized
  have hD := hD0.aself
  generalize hAe : aset [(a0, .inr (10, [.ref a1, .ref a3, .ref a11, .ref a25, .ref a68, .ref a69, .ref a77, .ref a82, .ref a84, .ref a88, .ref a91])), (a11, .inr (4, [.ref a12, .ref a19, .ref a24, .int n11_3])), (a12, .inr (9, [.ref a13, .ref a15, .ref a16, .ref a17, .ref a18, .int n12_5, .int n12_6])), (a13, .inr (0, [.ref a14, .int n13_1])), (a14, .inl (ct 0, 8, .inl f14)), (a15, .inl (ct 0, 8, .inl f15)), (a16, .inl (ct 0, 8, .inl f16)), (a17, .inl (ct 0, 8, .inl f17)), (a18, .inl (ct 0, 8, .inl f18)), (a19, .inr (2, [.ref a12, .ref a20, .ref a22, .ref a23, .int n19_4, .int n19_5, .int n19_6, .int n19_7])), (a20, .inr (0, [.ref a21, .int n20_1])), (a21, .inl (ct 0, 8, .inl f21)), (a22, .inl (ct 0, 8, .inl f22)), (a23, .inl (ct 0, 8, .inl f23)), (a24, .inl (ct 0, 40, .inl f24)), (a25, .inl (ct 4, 3, .inr (.inr (.inr (.inr (va_up (va_up (va_up (fun _ => none) 0 (some a26)) 1 (some a40)) 2 (some a54))))))), (a26, .inr (4, [.ref a27, .ref a34, .ref a39, .int n26_3])), (a27, .inr (9, [.ref a28, .ref a30, .ref a31, .ref a32, .ref a33, .int n27_5, .int n27_6])), (a28, .inr (0, [.ref a29, .int n28_1])), (a29, .inl (ct 0, 8, .inl f29)), (a30, .inl (ct 0, 8, .inl f30)), (a31, .inl (ct 0, 8, .inl f31)), (a32, .inl (ct 0, 8, .inl f32)), (a33, .inl (ct 0, 8, .inl f33)), (a39, .inl (ct 0, 40, .inl f39)), (a40, .inr (4, [.ref a41, .ref a48, .ref a53, .int n40_3])), (a41, .inr (9, [.ref a42, .ref a44, .ref a45, .ref a46, .ref a47, .int n41_5, .int n41_6])), (a42, .inr (0, [.ref a43, .int n42_1])), (a43, .inl (ct 0, 8, .inl f43)), (a44, .inl (ct 0, 8, .inl f44)), (a45, .inl (ct 0, 8, .inl f45)), (a46, .inl (ct 0, 8, .inl f46)), (a47, .inl (ct 0, 8, .inl f47)), (a53, .inl (ct 0, 40, .inl f53)), (a54, .inr (4, [.ref a55, .ref a62, .ref a67, .int n54_3])), (a55, .inr (9, [.ref a56, .ref a58, .ref a59, .ref a60, .ref a61, .int n55_5, .int n55_6])), (a56, .inr (0, [.ref a57, .int n56_1])), (a57, .inl (ct 0, 8, .inl f57)), (a58, .inl (ct 0, 8, .inl f58)), (a59, .inl (ct 0, 8, .inl f59)), (a60, .inl (ct 0, 8, .inl f60)), (a61, .inl (ct 0, 8, .inl f61)), (a67, .inl (ct 0, 40, .inl f67)), (a68, .inl (ct 2, 3, .inl f68))] = A at hD ⊢
  have hS : va_S A s.heap s.heap [] := va_S.rf
  have hl := lv_entry ([.ref a0, .int p0]) (n := 2) (Nat.le_of_ble_eq_true rfl)
  rw [lg_entry_eq]
  generalize (lg_sl ([.ref a0, .int p0]) ++ List.replicate (2 - (lg_sl ([.ref a0, .int p0])).length) Slot.unset).toArray = ls at hl ⊢
  have hl : lv_has ls 2 [(0, .ref a0), (1, .int p0)] := hl
  refine lv_iload_n hx hb dX10_back_0 rfl (lv_at hl 1 rfl) ?_
  refine lv_if_lt (tgt := 9) hx hb dX10_back_1 (by decide) (fun c1 => ?_) (fun c1 => ?_)
  · have h_1 : rg (-2147483648) (-1) p0 := r_lt_l_i c1 (rg_t p0) (rgn 0 (x := 0) (by decide)) (by decide)
    refine lv_bipush (v := (-2)) hx hb dX10_back_9 (by decide) ?_
    exact W.iret (v := (-2)) hx hb hr (fun t ht hW => ⟨⟨(-2), (fun k => ([n11_3, n12_5, n12_6, n13_1, n19_4, n19_5, n19_6, n19_7, n20_1] : List Int32).getD k 0, fun k => ([f14, f15, f16, f17, f18, f21, f22, f23, f24] : List (Nat → Int32)).getD k (fun _ => 0), fun k => ([] : List (Nat → Int64)).getD k (fun _ => 0)), rfl, ⟨(rg_w (c := (-6)) (d := 0) (rgn (-2) (x := (-2)) (by decide)) (by decide)), (fun hq => absurd hq (rne (rgn (-2) (x := (-2)) (by decide)) (y := 0) (c := 0) (by decide) (by decide))), (fun hq => absurd (req (rgn (-2) (x := (-2)) (by decide)) (y := (-2)) (by decide)) hq), hp_n13_1, hp_n20_1, trivial⟩, hp_at ht hP⟩, hS.F ht⟩) hS.2.2 dX10_back_11
  · have h_2 : rg 0 2147483647 p0 := r_le_r_i (nlt_i c1) (rgn 0 (x := 0) (by decide)) (rg_t p0)
    refine lv_iload_n hx hb dX10_back_4 rfl (lv_at hl 1 rfl) ?_
    refine lv_iconst (v := 3) hx hb dX10_back_5 (by decide) ?_
    refine lv_icmp_lt (tgt := 12) hx hb dX10_back_6 (by decide) (fun c6 => ?_) (fun c6 => ?_)
    · have h_3 : rg 0 2 p0 := r_lt_l_i c6 h_2 (rgn 3 (x := 3) (by decide)) (by decide)
      refine lv_aload_n hx hb dX10_back_12 rfl (lv_at hl 0 rfl) ?_
      refine va_get (D := G) (ci := 10) (v := .ref a68) (C := RX10) (T := TX10) (N := 11) hx hb hts (by decide +kernel) hown hK.1 hP 0 rfl rfl 4 (by decide) (hts (.fieldLink RX10 36 "CardHolder" "kept" "[Z") (by decide +kernel)) (fun _ h9 => h9) rfl dX10_back_13 ?_
      refine lv_iload_n hx hb dX10_back_16 rfl (lv_at hl 1 rfl) ?_
      refine va_zald hx hb hK.1 hP 43 2 rfl rfl (in_rg h_3 (by decide)) dX10_back_17 ?_
      refine lv_topi (fun z17 gz17 => ?_)
      refine lv_if_ne (tgt := 24) hx hb dX10_back_18 (by decide) (fun c18 => ?_) (fun c18 => ?_)
      · refine lv_aload_n hx hb dX10_back_24 rfl (lv_at hl 0 rfl) ?_
        refine va_get (D := G) (ci := 10) (v := .ref a11) (C := RX10) (T := TX10) (N := 11) hx hb hts (by decide +kernel) hown hK.1 hP 0 rfl rfl 2 (by decide) (hts (.fieldLink RX10 28 "CardHolder" "play" "LCardHolder$Play;") (by decide +kernel)) (fun _ h9 => h9) rfl dX10_back_25 ?_
        refine lv_aload_n hx hb dX10_back_28 rfl (lv_at hl 0 rfl) ?_
        refine va_get (D := G) (ci := 10) (v := .ref a25) (C := RX10) (T := TX10) (N := 11) hx hb hts (by decide +kernel) hown hK.1 hP 0 rfl rfl 3 (by decide) (hts (.fieldLink RX10 32 "CardHolder" "images" "[LCardHolder$Play;") (by decide +kernel)) (fun _ h9 => h9) rfl dX10_back_29 ?_
        refine lv_iload_n hx hb dX10_back_32 rfl (lv_at hl 1 rfl) ?_
        rcases (sp3 h_3.1 (by have := h_3.2; omega)) with s33 | s33 | s33
        · refine ix_i (y := 0) s33 ?_
          have h_4 : rg 0 0 p0 := r_eq_l_i (e := 0) (f := 0) s33 h_3 (rgn 0 (x := 0) (by decide)) (by decide)
          refine va_aldq hx hb hK.1 hP 15 4 rfl rfl (in_lit (by decide)) dX10_back_33 ?_
          refine ix_r (y := .ref a26) rfl ?_
          refine wj_callv (wr := [(a0, .inr (10, [.ref a1, .ref a3, .ref a11, .ref a25, .ref a68, .ref a69, .ref a77, .ref a82, .ref a84, .ref a88, .ref a91])), (a25, .inl (ct 4, 3, .inr (.inr (.inr (.inr (va_up (va_up (va_up (fun _ => none) 0 (some a26)) 1 (some a40)) 2 (some a54))))))), (a40, .inr (4, [.ref a41, .ref a48, .ref a53, .int n40_3])), (a41, .inr (9, [.ref a42, .ref a44, .ref a45, .ref a46, .ref a47, .int n41_5, .int n41_6])), (a42, .inr (0, [.ref a43, .int n42_1])), (a43, .inl (ct 0, 8, .inl f43)), (a44, .inl (ct 0, 8, .inl f44)), (a45, .inl (ct 0, 8, .inl f45)), (a46, .inl (ct 0, 8, .inl f46)), (a47, .inl (ct 0, 8, .inl f47)), (a53, .inl (ct 0, 40, .inl f53)), (a54, .inr (4, [.ref a55, .ref a62, .ref a67, .int n54_3])), (a55, .inr (9, [.ref a56, .ref a58, .ref a59, .ref a60, .ref a61, .int n55_5, .int n55_6])), (a56, .inr (0, [.ref a57, .int n56_1])), (a57, .inl (ct 0, 8, .inl f57)), (a58, .inl (ct 0, 8, .inl f58)), (a59, .inl (ct 0, 8, .inl f59)), (a60, .inl (ct 0, 8, .inl f60)), (a61, .inl (ct 0, 8, .inl f61)), (a67, .inl (ct 0, 40, .inl f67)), (a68, .inl (ct 2, 3, .inl f68))]) (w1 := (fun u : SU => [(a11, .inr (4, [.ref a12, .ref a19, .ref a24, .int (u.1 0)])), (a12, .inr (9, [.ref a13, .ref a15, .ref a16, .ref a17, .ref a18, .int (u.1 1), .int (u.1 2)])), (a13, .inr (0, [.ref a14, .int (u.1 3)])), (a14, .inl (ct 0, 8, .inl (u.2.1 0))), (a15, .inl (ct 0, 8, .inl (u.2.1 1))), (a16, .inl (ct 0, 8, .inl (u.2.1 2))), (a17, .inl (ct 0, 8, .inl (u.2.1 3))), (a18, .inl (ct 0, 8, .inl (u.2.1 4))), (a19, .inr (2, [.ref a12, .ref a20, .ref a22, .ref a23, .int (u.1 4), .int (u.1 5), .int (u.1 6), .int (u.1 7)])), (a20, .inr (0, [.ref a21, .int (u.1 8)])), (a21, .inl (ct 0, 8, .inl (u.2.1 5))), (a22, .inl (ct 0, 8, .inl (u.2.1 6))), (a23, .inl (ct 0, 8, .inl (u.2.1 7))), (a24, .inl (ct 0, 40, .inl (u.2.1 8))), (a26, .inr (4, [.ref a27, .ref a34, .ref a39, .int n26_3])), (a27, .inr (9, [.ref a28, .ref a30, .ref a31, .ref a32, .ref a33, .int n27_5, .int n27_6])), (a28, .inr (0, [.ref a29, .int n28_1])), (a29, .inl (ct 0, 8, .inl f29)), (a30, .inl (ct 0, 8, .inl f30)), (a31, .inl (ct 0, 8, .inl f31)), (a32, .inl (ct 0, 8, .inl f32)), (a33, .inl (ct 0, 8, .inl f33)), (a39, .inl (ct 0, 40, .inl f39))])) (va_runV (As := [.ref a26]) (rest := []) ⟨hx, hb, hml, hown, hts⟩ (a_X4_copyOf l G ct a11 a12 a19 a24 n11_3 a13 a15 a16 a17 a18 n12_5 n12_6 a14 n13_1 f14 f15 f16 f17 f18 a20 a22 a23 n19_4 n19_5 n19_6 n19_7 a21 n20_1 f21 f22 f23 f24 a26 a27 a34 a39 n26_3 a28 a30 a31 a32 a33 n27_5 n27_6 a29 n28_1 f29 f30 f31 f32 f33 f39 hp_n13_1 hp_n20_1 hp_n28_1) (cwV 1 hts gX10_back_X4_copyOf rfl rfl rfl (by decide +kernel) ⟨Nat.le_of_ble_eq_true rfl, Nat.le_of_ble_eq_true rfl⟩) (wr_preV 4 0 hK (hP.sub [1, 2, 3, 4, 5, 6, 7, 8, 9, 10, 11, 12, 13, 14, 16, 17, 18, 19, 20, 21, 22, 23, 24] rfl) (hD.sub [1, 2, 3, 4, 5, 6, 7, 8, 9, 10, 11, 12, 13, 14, 16, 17, 18, 19, 20, 21, 22, 23, 24] (by decide) rfl) rfl rfl) rfl rfl hl.1 rfl (lv_room (Nat.le_of_ble_eq_true rfl)) dX10_back_34 ⟨Nat.zero_le _, Nat.zero_le _⟩) hS hP hD [1, 2, 3, 4, 5, 6, 7, 8, 9, 10, 11, 12, 13, 14, 16, 17, 18, 19, 20, 21, 22, 23, 24] [0, 15, 25, 26, 27, 28, 29, 30, 31, 32, 33, 34, 35, 36, 37, 38, 39, 40, 41, 42, 43] rfl rfl (by decide) (fun _ => rfl) (fun ur34 H locs wr34 hP hD hS => ?_)
          have hP : va_P G vwCl [(a0, .inr (10, [.ref a1, .ref a3, .ref a11, .ref a25, .ref a68, .ref a69, .ref a77, .ref a82, .ref a84, .ref a88, .ref a91])), (a11, .inr (4, [.ref a12, .ref a19, .ref a24, .int (ur34.1 0)])), (a12, .inr (9, [.ref a13, .ref a15, .ref a16, .ref a17, .ref a18, .int (ur34.1 1), .int (ur34.1 2)])), (a13, .inr (0, [.ref a14, .int (ur34.1 3)])), (a14, .inl (ct 0, 8, .inl (ur34.2.1 0))), (a15, .inl (ct 0, 8, .inl (ur34.2.1 1))), (a16, .inl (ct 0, 8, .inl (ur34.2.1 2))), (a17, .inl (ct 0, 8, .inl (ur34.2.1 3))), (a18, .inl (ct 0, 8, .inl (ur34.2.1 4))), (a19, .inr (2, [.ref a12, .ref a20, .ref a22, .ref a23, .int (ur34.1 4), .int (ur34.1 5), .int (ur34.1 6), .int (ur34.1 7)])), (a20, .inr (0, [.ref a21, .int (ur34.1 8)])), (a21, .inl (ct 0, 8, .inl (ur34.2.1 5))), (a22, .inl (ct 0, 8, .inl (ur34.2.1 6))), (a23, .inl (ct 0, 8, .inl (ur34.2.1 7))), (a24, .inl (ct 0, 40, .inl (ur34.2.1 8))), (a25, .inl (ct 4, 3, .inr (.inr (.inr (.inr (va_up (va_up (va_up (fun _ => none) 0 (some a26)) 1 (some a40)) 2 (some a54))))))), (a26, .inr (4, [.ref a27, .ref a34, .ref a39, .int n26_3])), (a27, .inr (9, [.ref a28, .ref a30, .ref a31, .ref a32, .ref a33, .int n27_5, .int n27_6])), (a28, .inr (0, [.ref a29, .int n28_1])), (a29, .inl (ct 0, 8, .inl f29)), (a30, .inl (ct 0, 8, .inl f30)), (a31, .inl (ct 0, 8, .inl f31)), (a32, .inl (ct 0, 8, .inl f32)), (a33, .inl (ct 0, 8, .inl f33)), (a39, .inl (ct 0, 40, .inl f39)), (a40, .inr (4, [.ref a41, .ref a48, .ref a53, .int n40_3])), (a41, .inr (9, [.ref a42, .ref a44, .ref a45, .ref a46, .ref a47, .int n41_5, .int n41_6])), (a42, .inr (0, [.ref a43, .int n42_1])), (a43, .inl (ct 0, 8, .inl f43)), (a44, .inl (ct 0, 8, .inl f44)), (a45, .inl (ct 0, 8, .inl f45)), (a46, .inl (ct 0, 8, .inl f46)), (a47, .inl (ct 0, 8, .inl f47)), (a53, .inl (ct 0, 40, .inl f53)), (a54, .inr (4, [.ref a55, .ref a62, .ref a67, .int n54_3])), (a55, .inr (9, [.ref a56, .ref a58, .ref a59, .ref a60, .ref a61, .int n55_5, .int n55_6])), (a56, .inr (0, [.ref a57, .int n56_1])), (a57, .inl (ct 0, 8, .inl f57)), (a58, .inl (ct 0, 8, .inl f58)), (a59, .inl (ct 0, 8, .inl f59)), (a60, .inl (ct 0, 8, .inl f60)), (a61, .inl (ct 0, 8, .inl f61)), (a67, .inl (ct 0, 40, .inl f67)), (a68, .inl (ct 2, 3, .inl f68))] H := hP.sub [0, 21, 22, 23, 24, 25, 26, 27, 28, 29, 30, 31, 32, 33, 34, 1, 35, 36, 37, 38, 39, 40, 41, 42, 43, 2, 3, 4, 5, 6, 7, 8, 9, 10, 11, 12, 13, 14, 15, 16, 17, 18, 19, 20] rfl
          have hD : va_D A [(a0, .inr (10, [.ref a1, .ref a3, .ref a11, .ref a25, .ref a68, .ref a69, .ref a77, .ref a82, .ref a84, .ref a88, .ref a91])), (a11, .inr (4, [.ref a12, .ref a19, .ref a24, .int (ur34.1 0)])), (a12, .inr (9, [.ref a13, .ref a15, .ref a16, .ref a17, .ref a18, .int (ur34.1 1), .int (ur34.1 2)])), (a13, .inr (0, [.ref a14, .int (ur34.1 3)])), (a14, .inl (ct 0, 8, .inl (ur34.2.1 0))), (a15, .inl (ct 0, 8, .inl (ur34.2.1 1))), (a16, .inl (ct 0, 8, .inl (ur34.2.1 2))), (a17, .inl (ct 0, 8, .inl (ur34.2.1 3))), (a18, .inl (ct 0, 8, .inl (ur34.2.1 4))), (a19, .inr (2, [.ref a12, .ref a20, .ref a22, .ref a23, .int (ur34.1 4), .int (ur34.1 5), .int (ur34.1 6), .int (ur34.1 7)])), (a20, .inr (0, [.ref a21, .int (ur34.1 8)])), (a21, .inl (ct 0, 8, .inl (ur34.2.1 5))), (a22, .inl (ct 0, 8, .inl (ur34.2.1 6))), (a23, .inl (ct 0, 8, .inl (ur34.2.1 7))), (a24, .inl (ct 0, 40, .inl (ur34.2.1 8))), (a25, .inl (ct 4, 3, .inr (.inr (.inr (.inr (va_up (va_up (va_up (fun _ => none) 0 (some a26)) 1 (some a40)) 2 (some a54))))))), (a26, .inr (4, [.ref a27, .ref a34, .ref a39, .int n26_3])), (a27, .inr (9, [.ref a28, .ref a30, .ref a31, .ref a32, .ref a33, .int n27_5, .int n27_6])), (a28, .inr (0, [.ref a29, .int n28_1])), (a29, .inl (ct 0, 8, .inl f29)), (a30, .inl (ct 0, 8, .inl f30)), (a31, .inl (ct 0, 8, .inl f31)), (a32, .inl (ct 0, 8, .inl f32)), (a33, .inl (ct 0, 8, .inl f33)), (a39, .inl (ct 0, 40, .inl f39)), (a40, .inr (4, [.ref a41, .ref a48, .ref a53, .int n40_3])), (a41, .inr (9, [.ref a42, .ref a44, .ref a45, .ref a46, .ref a47, .int n41_5, .int n41_6])), (a42, .inr (0, [.ref a43, .int n42_1])), (a43, .inl (ct 0, 8, .inl f43)), (a44, .inl (ct 0, 8, .inl f44)), (a45, .inl (ct 0, 8, .inl f45)), (a46, .inl (ct 0, 8, .inl f46)), (a47, .inl (ct 0, 8, .inl f47)), (a53, .inl (ct 0, 40, .inl f53)), (a54, .inr (4, [.ref a55, .ref a62, .ref a67, .int n54_3])), (a55, .inr (9, [.ref a56, .ref a58, .ref a59, .ref a60, .ref a61, .int n55_5, .int n55_6])), (a56, .inr (0, [.ref a57, .int n56_1])), (a57, .inl (ct 0, 8, .inl f57)), (a58, .inl (ct 0, 8, .inl f58)), (a59, .inl (ct 0, 8, .inl f59)), (a60, .inl (ct 0, 8, .inl f60)), (a61, .inl (ct 0, 8, .inl f61)), (a67, .inl (ct 0, 40, .inl f67)), (a68, .inl (ct 2, 3, .inl f68))] := hD.sub [0, 21, 22, 23, 24, 25, 26, 27, 28, 29, 30, 31, 32, 33, 34, 1, 35, 36, 37, 38, 39, 40, 41, 42, 43, 2, 3, 4, 5, 6, 7, 8, 9, 10, 11, 12, 13, 14, 15, 16, 17, 18, 19, 20] (by decide) rfl
          obtain ⟨p_5, p_6, -⟩ := wr34
          refine lv_iconst (v := 0) hx hb dX10_back_37 (by decide) ?_
          exact W.iret (v := 0) hx hb hr (fun t ht hW => ⟨⟨0, (fun k => ([ur34.1 0, ur34.1 1, ur34.1 2, ur34.1 3, ur34.1 4, ur34.1 5, ur34.1 6, ur34.1 7, ur34.1 8] : List Int32).getD k 0, fun k => ([ur34.2.1 0, ur34.2.1 1, ur34.2.1 2, ur34.2.1 3, ur34.2.1 4, ur34.2.1 5, ur34.2.1 6, ur34.2.1 7, ur34.2.1 8] : List (Nat → Int32)).getD k (fun _ => 0), fun k => ([] : List (Nat → Int64)).getD k (fun _ => 0)), rfl, ⟨(rg_w (c := (-6)) (d := 0) (rgn 0 (x := 0) (by decide)) (by decide)), (fun _ => (rg_w (c := 0) (d := 2) h_4 (by decide))), (fun _ => (rg_w (c := 0) (d := 2) h_4 (by decide))), p_5, p_6, trivial⟩, hp_at ht hP⟩, hS.F ht⟩) hS.2.2 dX10_back_38
        · refine ix_i (y := 1) s33 ?_
          have h_7 : rg 1 1 p0 := r_eq_l_i (e := 1) (f := 1) s33 h_3 (rgn 1 (x := 1) (by decide)) (by decide)
          refine va_aldq hx hb hK.1 hP 15 4 rfl rfl (in_lit (by decide)) dX10_back_33 ?_
          refine ix_r (y := .ref a40) rfl ?_
          refine wj_callv (wr := [(a0, .inr (10, [.ref a1, .ref a3, .ref a11, .ref a25, .ref a68, .ref a69, .ref a77, .ref a82, .ref a84, .ref a88, .ref a91])), (a25, .inl (ct 4, 3, .inr (.inr (.inr (.inr (va_up (va_up (va_up (fun _ => none) 0 (some a26)) 1 (some a40)) 2 (some a54))))))), (a26, .inr (4, [.ref a27, .ref a34, .ref a39, .int n26_3])), (a27, .inr (9, [.ref a28, .ref a30, .ref a31, .ref a32, .ref a33, .int n27_5, .int n27_6])), (a28, .inr (0, [.ref a29, .int n28_1])), (a29, .inl (ct 0, 8, .inl f29)), (a30, .inl (ct 0, 8, .inl f30)), (a31, .inl (ct 0, 8, .inl f31)), (a32, .inl (ct 0, 8, .inl f32)), (a33, .inl (ct 0, 8, .inl f33)), (a39, .inl (ct 0, 40, .inl f39)), (a54, .inr (4, [.ref a55, .ref a62, .ref a67, .int n54_3])), (a55, .inr (9, [.ref a56, .ref a58, .ref a59, .ref a60, .ref a61, .int n55_5, .int n55_6])), (a56, .inr (0, [.ref a57, .int n56_1])), (a57, .inl (ct 0, 8, .inl f57)), (a58, .inl (ct 0, 8, .inl f58)), (a59, .inl (ct 0, 8, .inl f59)), (a60, .inl (ct 0, 8, .inl f60)), (a61, .inl (ct 0, 8, .inl f61)), (a67, .inl (ct 0, 40, .inl f67)), (a68, .inl (ct 2, 3, .inl f68))]) (w1 := (fun u : SU => [(a11, .inr (4, [.ref a12, .ref a19, .ref a24, .int (u.1 0)])), (a12, .inr (9, [.ref a13, .ref a15, .ref a16, .ref a17, .ref a18, .int (u.1 1), .int (u.1 2)])), (a13, .inr (0, [.ref a14, .int (u.1 3)])), (a14, .inl (ct 0, 8, .inl (u.2.1 0))), (a15, .inl (ct 0, 8, .inl (u.2.1 1))), (a16, .inl (ct 0, 8, .inl (u.2.1 2))), (a17, .inl (ct 0, 8, .inl (u.2.1 3))), (a18, .inl (ct 0, 8, .inl (u.2.1 4))), (a19, .inr (2, [.ref a12, .ref a20, .ref a22, .ref a23, .int (u.1 4), .int (u.1 5), .int (u.1 6), .int (u.1 7)])), (a20, .inr (0, [.ref a21, .int (u.1 8)])), (a21, .inl (ct 0, 8, .inl (u.2.1 5))), (a22, .inl (ct 0, 8, .inl (u.2.1 6))), (a23, .inl (ct 0, 8, .inl (u.2.1 7))), (a24, .inl (ct 0, 40, .inl (u.2.1 8))), (a40, .inr (4, [.ref a41, .ref a48, .ref a53, .int n40_3])), (a41, .inr (9, [.ref a42, .ref a44, .ref a45, .ref a46, .ref a47, .int n41_5, .int n41_6])), (a42, .inr (0, [.ref a43, .int n42_1])), (a43, .inl (ct 0, 8, .inl f43)), (a44, .inl (ct 0, 8, .inl f44)), (a45, .inl (ct 0, 8, .inl f45)), (a46, .inl (ct 0, 8, .inl f46)), (a47, .inl (ct 0, 8, .inl f47)), (a53, .inl (ct 0, 40, .inl f53))])) (va_runV (As := [.ref a40]) (rest := []) ⟨hx, hb, hml, hown, hts⟩ (a_X4_copyOf l G ct a11 a12 a19 a24 n11_3 a13 a15 a16 a17 a18 n12_5 n12_6 a14 n13_1 f14 f15 f16 f17 f18 a20 a22 a23 n19_4 n19_5 n19_6 n19_7 a21 n20_1 f21 f22 f23 f24 a40 a41 a48 a53 n40_3 a42 a44 a45 a46 a47 n41_5 n41_6 a43 n42_1 f43 f44 f45 f46 f47 f53 hp_n13_1 hp_n20_1 hp_n42_1) (cwV 1 hts gX10_back_X4_copyOf rfl rfl rfl (by decide +kernel) ⟨Nat.le_of_ble_eq_true rfl, Nat.le_of_ble_eq_true rfl⟩) (wr_preV 4 0 hK (hP.sub [1, 2, 3, 4, 5, 6, 7, 8, 9, 10, 11, 12, 13, 14, 25, 26, 27, 28, 29, 30, 31, 32, 33] rfl) (hD.sub [1, 2, 3, 4, 5, 6, 7, 8, 9, 10, 11, 12, 13, 14, 25, 26, 27, 28, 29, 30, 31, 32, 33] (by decide) rfl) rfl rfl) rfl rfl hl.1 rfl (lv_room (Nat.le_of_ble_eq_true rfl)) dX10_back_34 ⟨Nat.zero_le _, Nat.zero_le _⟩) hS hP hD [1, 2, 3, 4, 5, 6, 7, 8, 9, 10, 11, 12, 13, 14, 25, 26, 27, 28, 29, 30, 31, 32, 33] [0, 15, 16, 17, 18, 19, 20, 21, 22, 23, 24, 34, 35, 36, 37, 38, 39, 40, 41, 42, 43] rfl rfl (by decide) (fun _ => rfl) (fun ur34 H locs wr34 hP hD hS => ?_)
          have hP : va_P G vwCl [(a0, .inr (10, [.ref a1, .ref a3, .ref a11, .ref a25, .ref a68, .ref a69, .ref a77, .ref a82, .ref a84, .ref a88, .ref a91])), (a11, .inr (4, [.ref a12, .ref a19, .ref a24, .int (ur34.1 0)])), (a12, .inr (9, [.ref a13, .ref a15, .ref a16, .ref a17, .ref a18, .int (ur34.1 1), .int (ur34.1 2)])), (a13, .inr (0, [.ref a14, .int (ur34.1 3)])), (a14, .inl (ct 0, 8, .inl (ur34.2.1 0))), (a15, .inl (ct 0, 8, .inl (ur34.2.1 1))), (a16, .inl (ct 0, 8, .inl (ur34.2.1 2))), (a17, .inl (ct 0, 8, .inl (ur34.2.1 3))), (a18, .inl (ct 0, 8, .inl (ur34.2.1 4))), (a19, .inr (2, [.ref a12, .ref a20, .ref a22, .ref a23, .int (ur34.1 4), .int (ur34.1 5), .int (ur34.1 6), .int (ur34.1 7)])), (a20, .inr (0, [.ref a21, .int (ur34.1 8)])), (a21, .inl (ct 0, 8, .inl (ur34.2.1 5))), (a22, .inl (ct 0, 8, .inl (ur34.2.1 6))), (a23, .inl (ct 0, 8, .inl (ur34.2.1 7))), (a24, .inl (ct 0, 40, .inl (ur34.2.1 8))), (a25, .inl (ct 4, 3, .inr (.inr (.inr (.inr (va_up (va_up (va_up (fun _ => none) 0 (some a26)) 1 (some a40)) 2 (some a54))))))), (a26, .inr (4, [.ref a27, .ref a34, .ref a39, .int n26_3])), (a27, .inr (9, [.ref a28, .ref a30, .ref a31, .ref a32, .ref a33, .int n27_5, .int n27_6])), (a28, .inr (0, [.ref a29, .int n28_1])), (a29, .inl (ct 0, 8, .inl f29)), (a30, .inl (ct 0, 8, .inl f30)), (a31, .inl (ct 0, 8, .inl f31)), (a32, .inl (ct 0, 8, .inl f32)), (a33, .inl (ct 0, 8, .inl f33)), (a39, .inl (ct 0, 40, .inl f39)), (a40, .inr (4, [.ref a41, .ref a48, .ref a53, .int n40_3])), (a41, .inr (9, [.ref a42, .ref a44, .ref a45, .ref a46, .ref a47, .int n41_5, .int n41_6])), (a42, .inr (0, [.ref a43, .int n42_1])), (a43, .inl (ct 0, 8, .inl f43)), (a44, .inl (ct 0, 8, .inl f44)), (a45, .inl (ct 0, 8, .inl f45)), (a46, .inl (ct 0, 8, .inl f46)), (a47, .inl (ct 0, 8, .inl f47)), (a53, .inl (ct 0, 40, .inl f53)), (a54, .inr (4, [.ref a55, .ref a62, .ref a67, .int n54_3])), (a55, .inr (9, [.ref a56, .ref a58, .ref a59, .ref a60, .ref a61, .int n55_5, .int n55_6])), (a56, .inr (0, [.ref a57, .int n56_1])), (a57, .inl (ct 0, 8, .inl f57)), (a58, .inl (ct 0, 8, .inl f58)), (a59, .inl (ct 0, 8, .inl f59)), (a60, .inl (ct 0, 8, .inl f60)), (a61, .inl (ct 0, 8, .inl f61)), (a67, .inl (ct 0, 40, .inl f67)), (a68, .inl (ct 2, 3, .inl f68))] H := hP.sub [0, 21, 22, 23, 24, 25, 26, 27, 28, 29, 30, 31, 32, 33, 34, 1, 2, 3, 4, 5, 6, 7, 8, 9, 10, 35, 36, 37, 38, 39, 40, 41, 42, 43, 11, 12, 13, 14, 15, 16, 17, 18, 19, 20] rfl
          have hD : va_D A [(a0, .inr (10, [.ref a1, .ref a3, .ref a11, .ref a25, .ref a68, .ref a69, .ref a77, .ref a82, .ref a84, .ref a88, .ref a91])), (a11, .inr (4, [.ref a12, .ref a19, .ref a24, .int (ur34.1 0)])), (a12, .inr (9, [.ref a13, .ref a15, .ref a16, .ref a17, .ref a18, .int (ur34.1 1), .int (ur34.1 2)])), (a13, .inr (0, [.ref a14, .int (ur34.1 3)])), (a14, .inl (ct 0, 8, .inl (ur34.2.1 0))), (a15, .inl (ct 0, 8, .inl (ur34.2.1 1))), (a16, .inl (ct 0, 8, .inl (ur34.2.1 2))), (a17, .inl (ct 0, 8, .inl (ur34.2.1 3))), (a18, .inl (ct 0, 8, .inl (ur34.2.1 4))), (a19, .inr (2, [.ref a12, .ref a20, .ref a22, .ref a23, .int (ur34.1 4), .int (ur34.1 5), .int (ur34.1 6), .int (ur34.1 7)])), (a20, .inr (0, [.ref a21, .int (ur34.1 8)])), (a21, .inl (ct 0, 8, .inl (ur34.2.1 5))), (a22, .inl (ct 0, 8, .inl (ur34.2.1 6))), (a23, .inl (ct 0, 8, .inl (ur34.2.1 7))), (a24, .inl (ct 0, 40, .inl (ur34.2.1 8))), (a25, .inl (ct 4, 3, .inr (.inr (.inr (.inr (va_up (va_up (va_up (fun _ => none) 0 (some a26)) 1 (some a40)) 2 (some a54))))))), (a26, .inr (4, [.ref a27, .ref a34, .ref a39, .int n26_3])), (a27, .inr (9, [.ref a28, .ref a30, .ref a31, .ref a32, .ref a33, .int n27_5, .int n27_6])), (a28, .inr (0, [.ref a29, .int n28_1])), (a29, .inl (ct 0, 8, .inl f29)), (a30, .inl (ct 0, 8, .inl f30)), (a31, .inl (ct 0, 8, .inl f31)), (a32, .inl (ct 0, 8, .inl f32)), (a33, .inl (ct 0, 8, .inl f33)), (a39, .inl (ct 0, 40, .inl f39)), (a40, .inr (4, [.ref a41, .ref a48, .ref a53, .int n40_3])), (a41, .inr (9, [.ref a42, .ref a44, .ref a45, .ref a46, .ref a47, .int n41_5, .int n41_6])), (a42, .inr (0, [.ref a43, .int n42_1])), (a43, .inl (ct 0, 8, .inl f43)), (a44, .inl (ct 0, 8, .inl f44)), (a45, .inl (ct 0, 8, .inl f45)), (a46, .inl (ct 0, 8, .inl f46)), (a47, .inl (ct 0, 8, .inl f47)), (a53, .inl (ct 0, 40, .inl f53)), (a54, .inr (4, [.ref a55, .ref a62, .ref a67, .int n54_3])), (a55, .inr (9, [.ref a56, .ref a58, .ref a59, .ref a60, .ref a61, .int n55_5, .int n55_6])), (a56, .inr (0, [.ref a57, .int n56_1])), (a57, .inl (ct 0, 8, .inl f57)), (a58, .inl (ct 0, 8, .inl f58)), (a59, .inl (ct 0, 8, .inl f59)), (a60, .inl (ct 0, 8, .inl f60)), (a61, .inl (ct 0, 8, .inl f61)), (a67, .inl (ct 0, 40, .inl f67)), (a68, .inl (ct 2, 3, .inl f68))] := hD.sub [0, 21, 22, 23, 24, 25, 26, 27, 28, 29, 30, 31, 32, 33, 34, 1, 2, 3, 4, 5, 6, 7, 8, 9, 10, 35, 36, 37, 38, 39, 40, 41, 42, 43, 11, 12, 13, 14, 15, 16, 17, 18, 19, 20] (by decide) rfl
          obtain ⟨p_8, p_9, -⟩ := wr34
          refine lv_iconst (v := 0) hx hb dX10_back_37 (by decide) ?_
          exact W.iret (v := 0) hx hb hr (fun t ht hW => ⟨⟨0, (fun k => ([ur34.1 0, ur34.1 1, ur34.1 2, ur34.1 3, ur34.1 4, ur34.1 5, ur34.1 6, ur34.1 7, ur34.1 8] : List Int32).getD k 0, fun k => ([ur34.2.1 0, ur34.2.1 1, ur34.2.1 2, ur34.2.1 3, ur34.2.1 4, ur34.2.1 5, ur34.2.1 6, ur34.2.1 7, ur34.2.1 8] : List (Nat → Int32)).getD k (fun _ => 0), fun k => ([] : List (Nat → Int64)).getD k (fun _ => 0)), rfl, ⟨(rg_w (c := (-6)) (d := 0) (rgn 0 (x := 0) (by decide)) (by decide)), (fun _ => (rg_w (c := 0) (d := 2) h_7 (by decide))), (fun _ => (rg_w (c := 0) (d := 2) h_7 (by decide))), p_8, p_9, trivial⟩, hp_at ht hP⟩, hS.F ht⟩) hS.2.2 dX10_back_38
        · refine ix_i (y := 2) s33 ?_
          have h_10 : rg 2 2 p0 := r_eq_l_i (e := 2) (f := 2) s33 h_3 (rgn 2 (x := 2) (by decide)) (by decide)
          refine va_aldq hx hb hK.1 hP 15 4 rfl rfl (in_lit (by decide)) dX10_back_33 ?_
          refine ix_r (y := .ref a54) rfl ?_
          refine wj_callv (wr := [(a0, .inr (10, [.ref a1, .ref a3, .ref a11, .ref a25, .ref a68, .ref a69, .ref a77, .ref a82, .ref a84, .ref a88, .ref a91])), (a25, .inl (ct 4, 3, .inr (.inr (.inr (.inr (va_up (va_up (va_up (fun _ => none) 0 (some a26)) 1 (some a40)) 2 (some a54))))))), (a26, .inr (4, [.ref a27, .ref a34, .ref a39, .int n26_3])), (a27, .inr (9, [.ref a28, .ref a30, .ref a31, .ref a32, .ref a33, .int n27_5, .int n27_6])), (a28, .inr (0, [.ref a29, .int n28_1])), (a29, .inl (ct 0, 8, .inl f29)), (a30, .inl (ct 0, 8, .inl f30)), (a31, .inl (ct 0, 8, .inl f31)), (a32, .inl (ct 0, 8, .inl f32)), (a33, .inl (ct 0, 8, .inl f33)), (a39, .inl (ct 0, 40, .inl f39)), (a40, .inr (4, [.ref a41, .ref a48, .ref a53, .int n40_3])), (a41, .inr (9, [.ref a42, .ref a44, .ref a45, .ref a46, .ref a47, .int n41_5, .int n41_6])), (a42, .inr (0, [.ref a43, .int n42_1])), (a43, .inl (ct 0, 8, .inl f43)), (a44, .inl (ct 0, 8, .inl f44)), (a45, .inl (ct 0, 8, .inl f45)), (a46, .inl (ct 0, 8, .inl f46)), (a47, .inl (ct 0, 8, .inl f47)), (a53, .inl (ct 0, 40, .inl f53)), (a68, .inl (ct 2, 3, .inl f68))]) (w1 := (fun u : SU => [(a11, .inr (4, [.ref a12, .ref a19, .ref a24, .int (u.1 0)])), (a12, .inr (9, [.ref a13, .ref a15, .ref a16, .ref a17, .ref a18, .int (u.1 1), .int (u.1 2)])), (a13, .inr (0, [.ref a14, .int (u.1 3)])), (a14, .inl (ct 0, 8, .inl (u.2.1 0))), (a15, .inl (ct 0, 8, .inl (u.2.1 1))), (a16, .inl (ct 0, 8, .inl (u.2.1 2))), (a17, .inl (ct 0, 8, .inl (u.2.1 3))), (a18, .inl (ct 0, 8, .inl (u.2.1 4))), (a19, .inr (2, [.ref a12, .ref a20, .ref a22, .ref a23, .int (u.1 4), .int (u.1 5), .int (u.1 6), .int (u.1 7)])), (a20, .inr (0, [.ref a21, .int (u.1 8)])), (a21, .inl (ct 0, 8, .inl (u.2.1 5))), (a22, .inl (ct 0, 8, .inl (u.2.1 6))), (a23, .inl (ct 0, 8, .inl (u.2.1 7))), (a24, .inl (ct 0, 40, .inl (u.2.1 8))), (a54, .inr (4, [.ref a55, .ref a62, .ref a67, .int n54_3])), (a55, .inr (9, [.ref a56, .ref a58, .ref a59, .ref a60, .ref a61, .int n55_5, .int n55_6])), (a56, .inr (0, [.ref a57, .int n56_1])), (a57, .inl (ct 0, 8, .inl f57)), (a58, .inl (ct 0, 8, .inl f58)), (a59, .inl (ct 0, 8, .inl f59)), (a60, .inl (ct 0, 8, .inl f60)), (a61, .inl (ct 0, 8, .inl f61)), (a67, .inl (ct 0, 40, .inl f67))])) (va_runV (As := [.ref a54]) (rest := []) ⟨hx, hb, hml, hown, hts⟩ (a_X4_copyOf l G ct a11 a12 a19 a24 n11_3 a13 a15 a16 a17 a18 n12_5 n12_6 a14 n13_1 f14 f15 f16 f17 f18 a20 a22 a23 n19_4 n19_5 n19_6 n19_7 a21 n20_1 f21 f22 f23 f24 a54 a55 a62 a67 n54_3 a56 a58 a59 a60 a61 n55_5 n55_6 a57 n56_1 f57 f58 f59 f60 f61 f67 hp_n13_1 hp_n20_1 hp_n56_1) (cwV 1 hts gX10_back_X4_copyOf rfl rfl rfl (by decide +kernel) ⟨Nat.le_of_ble_eq_true rfl, Nat.le_of_ble_eq_true rfl⟩) (wr_preV 4 0 hK (hP.sub [1, 2, 3, 4, 5, 6, 7, 8, 9, 10, 11, 12, 13, 14, 34, 35, 36, 37, 38, 39, 40, 41, 42] rfl) (hD.sub [1, 2, 3, 4, 5, 6, 7, 8, 9, 10, 11, 12, 13, 14, 34, 35, 36, 37, 38, 39, 40, 41, 42] (by decide) rfl) rfl rfl) rfl rfl hl.1 rfl (lv_room (Nat.le_of_ble_eq_true rfl)) dX10_back_34 ⟨Nat.zero_le _, Nat.zero_le _⟩) hS hP hD [1, 2, 3, 4, 5, 6, 7, 8, 9, 10, 11, 12, 13, 14, 34, 35, 36, 37, 38, 39, 40, 41, 42] [0, 15, 16, 17, 18, 19, 20, 21, 22, 23, 24, 25, 26, 27, 28, 29, 30, 31, 32, 33, 43] rfl rfl (by decide) (fun _ => rfl) (fun ur34 H locs wr34 hP hD hS => ?_)
          have hP : va_P G vwCl [(a0, .inr (10, [.ref a1, .ref a3, .ref a11, .ref a25, .ref a68, .ref a69, .ref a77, .ref a82, .ref a84, .ref a88, .ref a91])), (a11, .inr (4, [.ref a12, .ref a19, .ref a24, .int (ur34.1 0)])), (a12, .inr (9, [.ref a13, .ref a15, .ref a16, .ref a17, .ref a18, .int (ur34.1 1), .int (ur34.1 2)])), (a13, .inr (0, [.ref a14, .int (ur34.1 3)])), (a14, .inl (ct 0, 8, .inl (ur34.2.1 0))), (a15, .inl (ct 0, 8, .inl (ur34.2.1 1))), (a16, .inl (ct 0, 8, .inl (ur34.2.1 2))), (a17, .inl (ct 0, 8, .inl (ur34.2.1 3))), (a18, .inl (ct 0, 8, .inl (ur34.2.1 4))), (a19, .inr (2, [.ref a12, .ref a20, .ref a22, .ref a23, .int (ur34.1 4), .int (ur34.1 5), .int (ur34.1 6), .int (ur34.1 7)])), (a20, .inr (0, [.ref a21, .int (ur34.1 8)])), (a21, .inl (ct 0, 8, .inl (ur34.2.1 5))), (a22, .inl (ct 0, 8, .inl (ur34.2.1 6))), (a23, .inl (ct 0, 8, .inl (ur34.2.1 7))), (a24, .inl (ct 0, 40, .inl (ur34.2.1 8))), (a25, .inl (ct 4, 3, .inr (.inr (.inr (.inr (va_up (va_up (va_up (fun _ => none) 0 (some a26)) 1 (some a40)) 2 (some a54))))))), (a26, .inr (4, [.ref a27, .ref a34, .ref a39, .int n26_3])), (a27, .inr (9, [.ref a28, .ref a30, .ref a31, .ref a32, .ref a33, .int n27_5, .int n27_6])), (a28, .inr (0, [.ref a29, .int n28_1])), (a29, .inl (ct 0, 8, .inl f29)), (a30, .inl (ct 0, 8, .inl f30)), (a31, .inl (ct 0, 8, .inl f31)), (a32, .inl (ct 0, 8, .inl f32)), (a33, .inl (ct 0, 8, .inl f33)), (a39, .inl (ct 0, 40, .inl f39)), (a40, .inr (4, [.ref a41, .ref a48, .ref a53, .int n40_3])), (a41, .inr (9, [.ref a42, .ref a44, .ref a45, .ref a46, .ref a47, .int n41_5, .int n41_6])), (a42, .inr (0, [.ref a43, .int n42_1])), (a43, .inl (ct 0, 8, .inl f43)), (a44, .inl (ct 0, 8, .inl f44)), (a45, .inl (ct 0, 8, .inl f45)), (a46, .inl (ct 0, 8, .inl f46)), (a47, .inl (ct 0, 8, .inl f47)), (a53, .inl (ct 0, 40, .inl f53)), (a54, .inr (4, [.ref a55, .ref a62, .ref a67, .int n54_3])), (a55, .inr (9, [.ref a56, .ref a58, .ref a59, .ref a60, .ref a61, .int n55_5, .int n55_6])), (a56, .inr (0, [.ref a57, .int n56_1])), (a57, .inl (ct 0, 8, .inl f57)), (a58, .inl (ct 0, 8, .inl f58)), (a59, .inl (ct 0, 8, .inl f59)), (a60, .inl (ct 0, 8, .inl f60)), (a61, .inl (ct 0, 8, .inl f61)), (a67, .inl (ct 0, 40, .inl f67)), (a68, .inl (ct 2, 3, .inl f68))] H := hP.sub [0, 21, 22, 23, 24, 25, 26, 27, 28, 29, 30, 31, 32, 33, 34, 1, 2, 3, 4, 5, 6, 7, 8, 9, 10, 11, 12, 13, 14, 15, 16, 17, 18, 19, 35, 36, 37, 38, 39, 40, 41, 42, 43, 20] rfl
          have hD : va_D A [(a0, .inr (10, [.ref a1, .ref a3, .ref a11, .ref a25, .ref a68, .ref a69, .ref a77, .ref a82, .ref a84, .ref a88, .ref a91])), (a11, .inr (4, [.ref a12, .ref a19, .ref a24, .int (ur34.1 0)])), (a12, .inr (9, [.ref a13, .ref a15, .ref a16, .ref a17, .ref a18, .int (ur34.1 1), .int (ur34.1 2)])), (a13, .inr (0, [.ref a14, .int (ur34.1 3)])), (a14, .inl (ct 0, 8, .inl (ur34.2.1 0))), (a15, .inl (ct 0, 8, .inl (ur34.2.1 1))), (a16, .inl (ct 0, 8, .inl (ur34.2.1 2))), (a17, .inl (ct 0, 8, .inl (ur34.2.1 3))), (a18, .inl (ct 0, 8, .inl (ur34.2.1 4))), (a19, .inr (2, [.ref a12, .ref a20, .ref a22, .ref a23, .int (ur34.1 4), .int (ur34.1 5), .int (ur34.1 6), .int (ur34.1 7)])), (a20, .inr (0, [.ref a21, .int (ur34.1 8)])), (a21, .inl (ct 0, 8, .inl (ur34.2.1 5))), (a22, .inl (ct 0, 8, .inl (ur34.2.1 6))), (a23, .inl (ct 0, 8, .inl (ur34.2.1 7))), (a24, .inl (ct 0, 40, .inl (ur34.2.1 8))), (a25, .inl (ct 4, 3, .inr (.inr (.inr (.inr (va_up (va_up (va_up (fun _ => none) 0 (some a26)) 1 (some a40)) 2 (some a54))))))), (a26, .inr (4, [.ref a27, .ref a34, .ref a39, .int n26_3])), (a27, .inr (9, [.ref a28, .ref a30, .ref a31, .ref a32, .ref a33, .int n27_5, .int n27_6])), (a28, .inr (0, [.ref a29, .int n28_1])), (a29, .inl (ct 0, 8, .inl f29)), (a30, .inl (ct 0, 8, .inl f30)), (a31, .inl (ct 0, 8, .inl f31)), (a32, .inl (ct 0, 8, .inl f32)), (a33, .inl (ct 0, 8, .inl f33)), (a39, .inl (ct 0, 40, .inl f39)), (a40, .inr (4, [.ref a41, .ref a48, .ref a53, .int n40_3])), (a41, .inr (9, [.ref a42, .ref a44, .ref a45, .ref a46, .ref a47, .int n41_5, .int n41_6])), (a42, .inr (0, [.ref a43, .int n42_1])), (a43, .inl (ct 0, 8, .inl f43)), (a44, .inl (ct 0, 8, .inl f44)), (a45, .inl (ct 0, 8, .inl f45)), (a46, .inl (ct 0, 8, .inl f46)), (a47, .inl (ct 0, 8, .inl f47)), (a53, .inl (ct 0, 40, .inl f53)), (a54, .inr (4, [.ref a55, .ref a62, .ref a67, .int n54_3])), (a55, .inr (9, [.ref a56, .ref a58, .ref a59, .ref a60, .ref a61, .int n55_5, .int n55_6])), (a56, .inr (0, [.ref a57, .int n56_1])), (a57, .inl (ct 0, 8, .inl f57)), (a58, .inl (ct 0, 8, .inl f58)), (a59, .inl (ct 0, 8, .inl f59)), (a60, .inl (ct 0, 8, .inl f60)), (a61, .inl (ct 0, 8, .inl f61)), (a67, .inl (ct 0, 40, .inl f67)), (a68, .inl (ct 2, 3, .inl f68))] := hD.sub [0, 21, 22, 23, 24, 25, 26, 27, 28, 29, 30, 31, 32, 33, 34, 1, 2, 3, 4, 5, 6, 7, 8, 9, 10, 11, 12, 13, 14, 15, 16, 17, 18, 19, 35, 36, 37, 38, 39, 40, 41, 42, 43, 20] (by decide) rfl
          obtain ⟨p_11, p_12, -⟩ := wr34
          refine lv_iconst (v := 0) hx hb dX10_back_37 (by decide) ?_
          exact W.iret (v := 0) hx hb hr (fun t ht hW => ⟨⟨0, (fun k => ([ur34.1 0, ur34.1 1, ur34.1 2, ur34.1 3, ur34.1 4, ur34.1 5, ur34.1 6, ur34.1 7, ur34.1 8] : List Int32).getD k 0, fun k => ([ur34.2.1 0, ur34.2.1 1, ur34.2.1 2, ur34.2.1 3, ur34.2.1 4, ur34.2.1 5, ur34.2.1 6, ur34.2.1 7, ur34.2.1 8] : List (Nat → Int32)).getD k (fun _ => 0), fun k => ([] : List (Nat → Int64)).getD k (fun _ => 0)), rfl, ⟨(rg_w (c := (-6)) (d := 0) (rgn 0 (x := 0) (by decide)) (by decide)), (fun _ => (rg_w (c := 0) (d := 2) h_10 (by decide))), (fun _ => (rg_w (c := 0) (d := 2) h_10 (by decide))), p_11, p_12, trivial⟩, hp_at ht hP⟩, hS.F ht⟩) hS.2.2 dX10_back_38
      · have h_13 : rg 0 0 z17 := r_eq_l_i (e := 0) (f := 0) c18 (rg_t z17) (rgn 0 (x := 0) (by decide)) (by decide)
        refine lv_bipush (v := (-6)) hx hb dX10_back_21 (by decide) ?_
        exact W.iret (v := (-6)) hx hb hr (fun t ht hW => ⟨⟨(-6), (fun k => ([n11_3, n12_5, n12_6, n13_1, n19_4, n19_5, n19_6, n19_7, n20_1] : List Int32).getD k 0, fun k => ([f14, f15, f16, f17, f18, f21, f22, f23, f24] : List (Nat → Int32)).getD k (fun _ => 0), fun k => ([] : List (Nat → Int64)).getD k (fun _ => 0)), rfl, ⟨(rg_w (c := (-6)) (d := 0) (rgn (-6) (x := (-6)) (by decide)) (by decide)), (fun _ => h_3), (fun _ => h_3), hp_n13_1, hp_n20_1, trivial⟩, hp_at ht hP⟩, hS.F ht⟩) hS.2.2 dX10_back_23
    · have h_14 : rg 3 2147483647 p0 := r_le_r_i (nlt_i c6) (rgn 3 (x := 3) (by decide)) h_2
      refine lv_bipush (v := (-2)) hx hb dX10_back_9 (by decide) ?_
      exact W.iret (v := (-2)) hx hb hr (fun t ht hW => ⟨⟨(-2), (fun k => ([n11_3, n12_5, n12_6, n13_1, n19_4, n19_5, n19_6, n19_7, n20_1] : List Int32).getD k 0, fun k => ([f14, f15, f16, f17, f18, f21, f22, f23, f24] : List (Nat → Int32)).getD k (fun _ => 0), fun k => ([] : List (Nat → Int64)).getD k (fun _ => 0)), rfl, ⟨(rg_w (c := (-6)) (d := 0) (rgn (-2) (x := (-2)) (by decide)) (by decide)), (fun hq => absurd hq (rne (rgn (-2) (x := (-2)) (by decide)) (y := 0) (c := 0) (by decide) (by decide))), (fun hq => absurd (req (rgn (-2) (x := (-2)) (by decide)) (y := (-2)) (by decide)) hq), hp_n13_1, hp_n20_1, trivial⟩, hp_at ht hP⟩, hS.F ht⟩) hS.2.2 dX10_back_11

set_option maxHeartbeats 4000000 in
set_option maxRecDepth 100000 in
theorem a_X10_row (l : Launch) (G : va_G) (ct : Nat → ClassId) (a0 : Nat) (a1 : Nat) (a3 : Nat) (a11 : Nat) (a25 : Nat) (a68 : Nat) (a69 : Nat) (a77 : Nat) (a82 : Nat) (a84 : Nat) (a88 : Nat) (a91 : Nat) (a70 : Nat) (a75 : Nat) (a76 : Nat) (n69_3 : Int32) (rr : Nat → Nat) (f71 : Nat → Int64) (f72 : Nat → Int64) (f73 : Nat → Int64) (f74 : Nat → Int64) (f75 : Nat → Int32) (f76 : Nat → Int32) (p0 : Int32) (p1 : Int32) (p2 : Int32) (hp_f76 : ar 0 60 f76) : Met l yX10_row wsX10_row ({ frames := 2, cells := 0, slots := 0, locals := 45 }) (va_Pc [.ref a0, .int p0, .int p1, .int p2] (wrP G ct [(a0, .inr (10, [.ref a1, .ref a3, .ref a11, .ref a25, .ref a68, .ref a69, .ref a77, .ref a82, .ref a84, .ref a88, .ref a91])), (a69, .inr (6, [.ref a70, .ref a75, .ref a76, .int n69_3])), (a70, .inl (ct 5, 4, .inr (.inr (.inr (.inr (fun i => if i < 4 then some (rr i) else none)))))), ((rr 0), .inl (ct 3, 60, .inr (.inl f71))), ((rr 1), .inl (ct 3, 60, .inr (.inl f72))), ((rr 2), .inl (ct 3, 60, .inr (.inl f73))), ((rr 3), .inl (ct 3, 60, .inr (.inl f74))), (a75, .inl (ct 0, 4, .inl f75)), (a76, .inl (ct 0, 4, .inl f76))])) (va_Qi (fun (r : Int32) (u : SU) => rg (-3) 0 r ∧ (r = 0 → rg 0 3 p0) ∧ (¬ r = (-2) → rg 0 3 p0) ∧ (r = 0 → rg 0 3 p1) ∧ (¬ r = (-2) → rg 0 3 p1) ∧ (r = 0 → rg 0 60 p2) ∧ (¬ r = (-2) → rg (-2147483648) 60 p2) ∧ ar 0 60 (u.2.1 1) ∧ True) (fun u t => va_P G vwCl ((fun u : SU => [(a0, .inr (10, [.ref a1, .ref a3, .ref a11, .ref a25, .ref a68, .ref a69, .ref a77, .ref a82, .ref a84, .ref a88, .ref a91])), (a69, .inr (6, [.ref a70, .ref a75, .ref a76, .int (u.1 0)])), (a70, .inl (ct 5, 4, .inr (.inr (.inr (.inr (fun i => if i < 4 then some (rr i) else none)))))), ((rr 0), .inl (ct 3, 60, .inr (.inl (u.2.2 0)))), ((rr 1), .inl (ct 3, 60, .inr (.inl (u.2.2 1)))), ((rr 2), .inl (ct 3, 60, .inr (.inl (u.2.2 2)))), ((rr 3), .inl (ct 3, 60, .inr (.inl (u.2.2 3)))), (a75, .inl (ct 0, 4, .inl (u.2.1 0))), (a76, .inl (ct 0, 4, .inl (u.2.1 1)))]) u) t.heap) (aset [(a0, .inr (10, [.ref a1, .ref a3, .ref a11, .ref a25, .ref a68, .ref a69, .ref a77, .ref a82, .ref a84, .ref a88, .ref a91])), (a69, .inr (6, [.ref a70, .ref a75, .ref a76, .int n69_3])), (a70, .inl (ct 5, 4, .inr (.inr (.inr (.inr (fun i => if i < 4 then some (rr i) else none)))))), ((rr 0), .inl (ct 3, 60, .inr (.inl f71))), ((rr 1), .inl (ct 3, 60, .inr (.inl f72))), ((rr 2), .inl (ct 3, 60, .inr (.inl f73))), ((rr 3), .inl (ct 3, 60, .inr (.inl f74))), (a75, .inl (ct 0, 4, .inl f75)), (a76, .inl (ct 0, 4, .inl f76))])) 0 0 (aset [(a0, .inr (10, [.ref a1, .ref a3, .ref a11, .ref a25, .ref a68, .ref a69, .ref a77, .ref a82, .ref a84, .ref a88, .ref a91])), (a69, .inr (6, [.ref a70, .ref a75, .ref a76, .int n69_3])), (a70, .inl (ct 5, 4, .inr (.inr (.inr (.inr (fun i => if i < 4 then some (rr i) else none)))))), ((rr 0), .inl (ct 3, 60, .inr (.inl f71))), ((rr 1), .inl (ct 3, 60, .inr (.inl f72))), ((rr 2), .inl (ct 3, 60, .inr (.inl f73))), ((rr 3), .inl (ct 3, 60, .inr (.inl f74))), (a75, .inl (ct 0, 4, .inl f75)), (a76, .inl (ct 0, 4, .inl f76))]) := by
  refine Met.ofW (cc := cX10_row) (maxL := 4) (ret := (some .int)) (by decide) rfl ?_
  intro p e s m args below meth c s₁ B hml hv
  obtain ⟨rfl, hP, hK, hD0⟩ := hv
  have hx := B.exec
  have hb := B.bytes
  have hr := B.returns
  have hts := atoms_spec (ws := wsX10_row) B.pre
  have hown : s.vm.findClass RX10 = some m.cls := findClass_of_methodNamed B.named
  have hlocks := B.notSynchronized
  have hD := hD0.aself
  generalize hAe : aset [(a0, .inr (10, [.ref a1, .ref a3, .ref a11, .ref a25, .ref a68, .ref a69, .ref a77, .ref a82, .ref a84, .ref a88, .ref a91])), (a69, .inr (6, [.ref a70, .ref a75, .ref a76, .int n69_3])), (a70, .inl (ct 5, 4, .inr (.inr (.inr (.inr (fun i => if i < 4 then some (rr i) else none)))))), ((rr 0), .inl (ct 3, 60, .inr (.inl f71))), ((rr 1), .inl (ct 3, 60, .inr (.inl f72))), ((rr 2), .inl (ct 3, 60, .inr (.inl f73))), ((rr 3), .inl (ct 3, 60, .inr (.inl f74))), (a75, .inl (ct 0, 4, .inl f75)), (a76, .inl (ct 0, 4, .inl f76))] = A at hD ⊢
  have hS : va_S A s.heap s.heap [] := va_S.rf
  have hl := lv_entry ([.ref a0, .int p0, .int p1, .int p2]) (n := 4) (Nat.le_of_ble_eq_true rfl)
  rw [lg_entry_eq]
  generalize (lg_sl ([.ref a0, .int p0, .int p1, .int p2]) ++ List.replicate (4 - (lg_sl ([.ref a0, .int p0, .int p1, .int p2])).length) Slot.unset).toArray = ls at hl ⊢
  have hl : lv_has ls 4 [(0, .ref a0), (1, .int p0), (2, .int p1), (3, .int p2)] := hl
  refine lv_aload_n hx hb dX10_row_0 rfl (lv_at hl 0 rfl) ?_
  refine va_get (D := G) (ci := 10) (v := .ref a69) (C := RX10) (T := TX10) (N := 11) hx hb hts (by decide +kernel) hown hK.1 hP 0 rfl rfl 5 (by decide) (hts (.fieldLink RX10 43 "CardHolder" "rows" "LCardHolder$Rows;") (by decide +kernel)) (fun _ h9 => h9) rfl dX10_row_1 ?_
  refine lv_iload_n hx hb dX10_row_4 rfl (lv_at hl 1 rfl) ?_
  refine ro_calli (va_runV (As := [.int p0]) (rest := []) ⟨hx, hb, hml, hown, hts⟩ (a_X6_isSlot l G ct a69 a70 a75 a76 n69_3 p0) (cwV 1 hts gX10_row_X6_isSlot rfl rfl rfl (by decide +kernel) ⟨Nat.le_of_ble_eq_true rfl, Nat.le_of_ble_eq_true rfl⟩) (ro_preV 6 0 hK (hP.sub [1] rfl) rfl rfl) rfl rfl hl.1 rfl (lv_room (Nat.le_of_ble_eq_true rfl)) dX10_row_5 ⟨Nat.zero_le _, Nat.zero_le _⟩) hS hP (fun r5 H locs wr5 hP hS => ?_)
  obtain ⟨p_1, p_2, -⟩ := wr5
  refine lv_if_eq (tgt := 26) hx hb dX10_row_8 (by decide) (fun c8 => ?_) (fun c8 => ?_)
  · have h_3 : rg 0 0 r5 := r_eq_l_i (e := 0) (f := 0) c8 p_1 (rgn 0 (x := 0) (by decide)) (by decide)
    refine lv_bipush (v := (-2)) hx hb dX10_row_26 (by decide) ?_
    exact W.iret (v := (-2)) hx hb hr (fun t ht hW => ⟨⟨(-2), (fun k => ([n69_3] : List Int32).getD k 0, fun k => ([f75, f76] : List (Nat → Int32)).getD k (fun _ => 0), fun k => ([f71, f72, f73, f74] : List (Nat → Int64)).getD k (fun _ => 0)), rfl, ⟨(rg_w (c := (-3)) (d := 0) (rgn (-2) (x := (-2)) (by decide)) (by decide)), (fun hq => absurd hq (rne (rgn (-2) (x := (-2)) (by decide)) (y := 0) (c := 0) (by decide) (by decide))), (fun hq => absurd (req (rgn (-2) (x := (-2)) (by decide)) (y := (-2)) (by decide)) hq), (fun hq => absurd hq (rne (rgn (-2) (x := (-2)) (by decide)) (y := 0) (c := 0) (by decide) (by decide))), (fun hq => absurd (req (rgn (-2) (x := (-2)) (by decide)) (y := (-2)) (by decide)) hq), (fun hq => absurd hq (rne (rgn (-2) (x := (-2)) (by decide)) (y := 0) (c := 0) (by decide) (by decide))), (fun hq => absurd (req (rgn (-2) (x := (-2)) (by decide)) (y := (-2)) (by decide)) hq), hp_f76, trivial⟩, hp_at ht hP⟩, hS.F ht⟩) hS.2.2 dX10_row_28
  · have h_4 : rg 1 1 r5 := r_ne_lo_i c8 p_1 (by decide) (by decide)
    have h_5 : rg 0 3 p0 := (p_2 (rne h_4 (y := 0) (c := 0) (by decide) (by decide)))
    refine lv_iload_n hx hb dX10_row_11 rfl (lv_at hl 2 rfl) ?_
    refine lv_if_lt (tgt := 26) hx hb dX10_row_12 (by decide) (fun c12 => ?_) (fun c12 => ?_)
    · have h_6 : rg (-2147483648) (-1) p1 := r_lt_l_i c12 (rg_t p1) (rgn 0 (x := 0) (by decide)) (by decide)
      refine lv_bipush (v := (-2)) hx hb dX10_row_26 (by decide) ?_
      exact W.iret (v := (-2)) hx hb hr (fun t ht hW => ⟨⟨(-2), (fun k => ([n69_3] : List Int32).getD k 0, fun k => ([f75, f76] : List (Nat → Int32)).getD k (fun _ => 0), fun k => ([f71, f72, f73, f74] : List (Nat → Int64)).getD k (fun _ => 0)), rfl, ⟨(rg_w (c := (-3)) (d := 0) (rgn (-2) (x := (-2)) (by decide)) (by decide)), (fun _ => h_5), (fun _ => h_5), (fun hq => absurd hq (rne (rgn (-2) (x := (-2)) (by decide)) (y := 0) (c := 0) (by decide) (by decide))), (fun hq => absurd (req (rgn (-2) (x := (-2)) (by decide)) (y := (-2)) (by decide)) hq), (fun hq => absurd hq (rne (rgn (-2) (x := (-2)) (by decide)) (y := 0) (c := 0) (by decide) (by decide))), (fun hq => absurd (req (rgn (-2) (x := (-2)) (by decide)) (y := (-2)) (by decide)) hq), hp_f76, trivial⟩, hp_at ht hP⟩, hS.F ht⟩) hS.2.2 dX10_row_28
    · have h_7 : rg 0 2147483647 p1 := r_le_r_i (nlt_i c12) (rgn 0 (x := 0) (by decide)) (rg_t p1)
      refine lv_iload_n hx hb dX10_row_15 rfl (lv_at hl 2 rfl) ?_
      refine lv_iconst (v := 3) hx hb dX10_row_16 (by decide) ?_
      refine lv_icmp_gt (tgt := 26) hx hb dX10_row_17 (by decide) (fun c17 => ?_) (fun c17 => ?_)
      · have h_8 : rg 4 2147483647 p1 := r_lt_r_i c17 (rgn 3 (x := 3) (by decide)) h_7 (by decide)
        refine lv_bipush (v := (-2)) hx hb dX10_row_26 (by decide) ?_
        exact W.iret (v := (-2)) hx hb hr (fun t ht hW => ⟨⟨(-2), (fun k => ([n69_3] : List Int32).getD k 0, fun k => ([f75, f76] : List (Nat → Int32)).getD k (fun _ => 0), fun k => ([f71, f72, f73, f74] : List (Nat → Int64)).getD k (fun _ => 0)), rfl, ⟨(rg_w (c := (-3)) (d := 0) (rgn (-2) (x := (-2)) (by decide)) (by decide)), (fun _ => h_5), (fun _ => h_5), (fun hq => absurd hq (rne (rgn (-2) (x := (-2)) (by decide)) (y := 0) (c := 0) (by decide) (by decide))), (fun hq => absurd (req (rgn (-2) (x := (-2)) (by decide)) (y := (-2)) (by decide)) hq), (fun hq => absurd hq (rne (rgn (-2) (x := (-2)) (by decide)) (y := 0) (c := 0) (by decide) (by decide))), (fun hq => absurd (req (rgn (-2) (x := (-2)) (by decide)) (y := (-2)) (by decide)) hq), hp_f76, trivial⟩, hp_at ht hP⟩, hS.F ht⟩) hS.2.2 dX10_row_28
      · have h_9 : rg 0 3 p1 := r_le_l_i (nlt_i c17) h_7 (rgn 3 (x := 3) (by decide))
        refine lv_iload_n hx hb dX10_row_20 rfl (lv_at hl 3 rfl) ?_
        refine lv_bipush (v := 60) hx hb dX10_row_21 (by decide) ?_
        refine lv_icmp_le (tgt := 29) hx hb dX10_row_23 (by decide) (fun c23 => ?_) (fun c23 => ?_)
        · have h_10 : rg (-2147483648) 60 p2 := r_le_l_i c23 (rg_t p2) (rgn 60 (x := 60) (by decide))
          refine lv_iload_n hx hb dX10_row_29 rfl (lv_at hl 3 rfl) ?_
          refine lv_if_ge (tgt := 36) hx hb dX10_row_30 (by decide) (fun c30 => ?_) (fun c30 => ?_)
          · have h_11 : rg 0 60 p2 := r_le_r_i c30 (rgn 0 (x := 0) (by decide)) h_10
            refine lv_aload_n hx hb dX10_row_36 rfl (lv_at hl 0 rfl) ?_
            refine va_get (D := G) (ci := 10) (v := .ref a69) (C := RX10) (T := TX10) (N := 11) hx hb hts (by decide +kernel) hown hK.1 hP 0 rfl rfl 5 (by decide) (hts (.fieldLink RX10 43 "CardHolder" "rows" "LCardHolder$Rows;") (by decide +kernel)) (fun _ h9 => h9) rfl dX10_row_37 ?_
            refine lv_iload_n hx hb dX10_row_40 rfl (lv_at hl 1 rfl) ?_
            refine lv_iload_n hx hb dX10_row_41 rfl (lv_at hl 2 rfl) ?_
            refine lv_iload_n hx hb dX10_row_42 rfl (lv_at hl 3 rfl) ?_
            refine wj_callv (wr := [(a0, .inr (10, [.ref a1, .ref a3, .ref a11, .ref a25, .ref a68, .ref a69, .ref a77, .ref a82, .ref a84, .ref a88, .ref a91]))]) (w1 := (fun u : SU => [(a69, .inr (6, [.ref a70, .ref a75, .ref a76, .int (u.1 0)])), (a70, .inl (ct 5, 4, .inr (.inr (.inr (.inr (fun i => if i < 4 then some (rr i) else none)))))), ((rr 0), .inl (ct 3, 60, .inr (.inl (u.2.2 0)))), ((rr 1), .inl (ct 3, 60, .inr (.inl (u.2.2 1)))), ((rr 2), .inl (ct 3, 60, .inr (.inl (u.2.2 2)))), ((rr 3), .inl (ct 3, 60, .inr (.inl (u.2.2 3)))), (a75, .inl (ct 0, 4, .inl (u.2.1 0))), (a76, .inl (ct 0, 4, .inl (u.2.1 1)))])) (va_runV (As := [.int p0, .int p1, .int p2]) (rest := []) ⟨hx, hb, hml, hown, hts⟩ (a_X6_make l G ct a69 a70 a75 a76 n69_3 rr f71 f72 f73 f74 f75 f76 p0 p1 p2 hp_f76 h_11) (cwV 3 hts gX10_row_X6_make rfl rfl rfl (by decide +kernel) ⟨Nat.le_of_ble_eq_true rfl, Nat.le_of_ble_eq_true rfl⟩) (wr_preV 6 0 hK (hP.sub [1, 2, 3, 4, 5, 6, 7, 8] rfl) (hD.sub [1, 2, 3, 4, 5, 6, 7, 8] (by decide) rfl) rfl rfl) rfl rfl hl.1 rfl (lv_room (Nat.le_of_ble_eq_true rfl)) dX10_row_43 ⟨Nat.zero_le _, Nat.zero_le _⟩) hS hP hD [1, 2, 3, 4, 5, 6, 7, 8] [0] rfl rfl (by decide) (fun _ => rfl) (fun ur43 H locs wr43 hP hD hS => ?_)
            have hP : va_P G vwCl [(a0, .inr (10, [.ref a1, .ref a3, .ref a11, .ref a25, .ref a68, .ref a69, .ref a77, .ref a82, .ref a84, .ref a88, .ref a91])), (a69, .inr (6, [.ref a70, .ref a75, .ref a76, .int (ur43.1 0)])), (a70, .inl (ct 5, 4, .inr (.inr (.inr (.inr (fun i => if i < 4 then some (rr i) else none)))))), ((rr 0), .inl (ct 3, 60, .inr (.inl (ur43.2.2 0)))), ((rr 1), .inl (ct 3, 60, .inr (.inl (ur43.2.2 1)))), ((rr 2), .inl (ct 3, 60, .inr (.inl (ur43.2.2 2)))), ((rr 3), .inl (ct 3, 60, .inr (.inl (ur43.2.2 3)))), (a75, .inl (ct 0, 4, .inl (ur43.2.1 0))), (a76, .inl (ct 0, 4, .inl (ur43.2.1 1)))] H := hP.sub [0, 1, 2, 3, 4, 5, 6, 7, 8] rfl
            have hD : va_D A [(a0, .inr (10, [.ref a1, .ref a3, .ref a11, .ref a25, .ref a68, .ref a69, .ref a77, .ref a82, .ref a84, .ref a88, .ref a91])), (a69, .inr (6, [.ref a70, .ref a75, .ref a76, .int (ur43.1 0)])), (a70, .inl (ct 5, 4, .inr (.inr (.inr (.inr (fun i => if i < 4 then some (rr i) else none)))))), ((rr 0), .inl (ct 3, 60, .inr (.inl (ur43.2.2 0)))), ((rr 1), .inl (ct 3, 60, .inr (.inl (ur43.2.2 1)))), ((rr 2), .inl (ct 3, 60, .inr (.inl (ur43.2.2 2)))), ((rr 3), .inl (ct 3, 60, .inr (.inl (ur43.2.2 3)))), (a75, .inl (ct 0, 4, .inl (ur43.2.1 0))), (a76, .inl (ct 0, 4, .inl (ur43.2.1 1)))] := hD.sub [0, 1, 2, 3, 4, 5, 6, 7, 8] (by decide) rfl
            obtain ⟨p_12, -⟩ := wr43
            refine lv_iconst (v := 0) hx hb dX10_row_46 (by decide) ?_
            exact W.iret (v := 0) hx hb hr (fun t ht hW => ⟨⟨0, (fun k => ([ur43.1 0] : List Int32).getD k 0, fun k => ([ur43.2.1 0, ur43.2.1 1] : List (Nat → Int32)).getD k (fun _ => 0), fun k => ([ur43.2.2 0, ur43.2.2 1, ur43.2.2 2, ur43.2.2 3] : List (Nat → Int64)).getD k (fun _ => 0)), rfl, ⟨(rg_w (c := (-3)) (d := 0) (rgn 0 (x := 0) (by decide)) (by decide)), (fun _ => h_5), (fun _ => h_5), (fun _ => h_9), (fun _ => h_9), (fun _ => h_11), (fun _ => (rg_w (c := (-2147483648)) (d := 60) h_11 (by decide))), p_12, trivial⟩, hp_at ht hP⟩, hS.F ht⟩) hS.2.2 dX10_row_47
          · have h_13 : rg (-2147483648) (-1) p2 := r_lt_l_i (nle_i c30) h_10 (rgn 0 (x := 0) (by decide)) (by decide)
            refine lv_bipush (v := (-3)) hx hb dX10_row_33 (by decide) ?_
            exact W.iret (v := (-3)) hx hb hr (fun t ht hW => ⟨⟨(-3), (fun k => ([n69_3] : List Int32).getD k 0, fun k => ([f75, f76] : List (Nat → Int32)).getD k (fun _ => 0), fun k => ([f71, f72, f73, f74] : List (Nat → Int64)).getD k (fun _ => 0)), rfl, ⟨(rg_w (c := (-3)) (d := 0) (rgn (-3) (x := (-3)) (by decide)) (by decide)), (fun _ => h_5), (fun _ => h_5), (fun _ => h_9), (fun _ => h_9), (fun hq => absurd hq (rne (rgn (-3) (x := (-3)) (by decide)) (y := 0) (c := 0) (by decide) (by decide))), (fun _ => (rg_w (c := (-2147483648)) (d := 60) h_13 (by decide))), hp_f76, trivial⟩, hp_at ht hP⟩, hS.F ht⟩) hS.2.2 dX10_row_35
        · have h_14 : rg 61 2147483647 p2 := r_lt_r_i (nle_i c23) (rgn 60 (x := 60) (by decide)) (rg_t p2) (by decide)
          refine lv_bipush (v := (-2)) hx hb dX10_row_26 (by decide) ?_
          exact W.iret (v := (-2)) hx hb hr (fun t ht hW => ⟨⟨(-2), (fun k => ([n69_3] : List Int32).getD k 0, fun k => ([f75, f76] : List (Nat → Int32)).getD k (fun _ => 0), fun k => ([f71, f72, f73, f74] : List (Nat → Int64)).getD k (fun _ => 0)), rfl, ⟨(rg_w (c := (-3)) (d := 0) (rgn (-2) (x := (-2)) (by decide)) (by decide)), (fun _ => h_5), (fun _ => h_5), (fun _ => h_9), (fun _ => h_9), (fun hq => absurd hq (rne (rgn (-2) (x := (-2)) (by decide)) (y := 0) (c := 0) (by decide) (by decide))), (fun hq => absurd (req (rgn (-2) (x := (-2)) (by decide)) (y := (-2)) (by decide)) hq), hp_f76, trivial⟩, hp_at ht hP⟩, hS.F ht⟩) hS.2.2 dX10_row_28

set_option maxHeartbeats 4000000 in
set_option maxRecDepth 100000 in
theorem a_X10_write (l : Launch) (G : va_G) (ct : Nat → ClassId) (a0 : Nat) (a1 : Nat) (a3 : Nat) (a11 : Nat) (a25 : Nat) (a68 : Nat) (a69 : Nat) (a77 : Nat) (a82 : Nat) (a84 : Nat) (a88 : Nat) (a91 : Nat) (a70 : Nat) (a75 : Nat) (a76 : Nat) (n69_3 : Int32) (rr : Nat → Nat) (f71 : Nat → Int64) (f72 : Nat → Int64) (f73 : Nat → Int64) (f74 : Nat → Int64) (f75 : Nat → Int32) (f76 : Nat → Int32) (p0 : Int32) (p1 : Int32) (p2 : Int64) (hp_f76 : ar 0 60 f76) : Met l yX10_write wsX10_write ({ frames := 4, cells := 0, slots := 0, locals := 89 }) (va_Pc [.ref a0, .int p0, .int p1, .long p2] (wrP G ct [(a0, .inr (10, [.ref a1, .ref a3, .ref a11, .ref a25, .ref a68, .ref a69, .ref a77, .ref a82, .ref a84, .ref a88, .ref a91])), (a69, .inr (6, [.ref a70, .ref a75, .ref a76, .int n69_3])), (a70, .inl (ct 5, 4, .inr (.inr (.inr (.inr (fun i => if i < 4 then some (rr i) else none)))))), ((rr 0), .inl (ct 3, 60, .inr (.inl f71))), ((rr 1), .inl (ct 3, 60, .inr (.inl f72))), ((rr 2), .inl (ct 3, 60, .inr (.inl f73))), ((rr 3), .inl (ct 3, 60, .inr (.inl f74))), (a75, .inl (ct 0, 4, .inl f75)), (a76, .inl (ct 0, 4, .inl f76))])) (va_Qi (fun (r : Int32) (u : SU) => rg (-7) 0 r ∧ (r = 0 → rg 0 3 p0) ∧ (¬ r = (-2) → rg 0 3 p0) ∧ (r = 0 → rg 0 59 p1) ∧ True) (fun u t => va_P G vwCl ((fun u : SU => [(a0, .inr (10, [.ref a1, .ref a3, .ref a11, .ref a25, .ref a68, .ref a69, .ref a77, .ref a82, .ref a84, .ref a88, .ref a91])), (a69, .inr (6, [.ref a70, .ref a75, .ref a76, .int n69_3])), (a70, .inl (ct 5, 4, .inr (.inr (.inr (.inr (fun i => if i < 4 then some (rr i) else none)))))), ((rr 0), .inl (ct 3, 60, .inr (.inl (u.2.2 0)))), ((rr 1), .inl (ct 3, 60, .inr (.inl (u.2.2 1)))), ((rr 2), .inl (ct 3, 60, .inr (.inl (u.2.2 2)))), ((rr 3), .inl (ct 3, 60, .inr (.inl (u.2.2 3)))), (a75, .inl (ct 0, 4, .inl f75)), (a76, .inl (ct 0, 4, .inl f76))]) u) t.heap) (aset [(a0, .inr (10, [.ref a1, .ref a3, .ref a11, .ref a25, .ref a68, .ref a69, .ref a77, .ref a82, .ref a84, .ref a88, .ref a91])), (a69, .inr (6, [.ref a70, .ref a75, .ref a76, .int n69_3])), (a70, .inl (ct 5, 4, .inr (.inr (.inr (.inr (fun i => if i < 4 then some (rr i) else none)))))), ((rr 0), .inl (ct 3, 60, .inr (.inl f71))), ((rr 1), .inl (ct 3, 60, .inr (.inl f72))), ((rr 2), .inl (ct 3, 60, .inr (.inl f73))), ((rr 3), .inl (ct 3, 60, .inr (.inl f74))), (a75, .inl (ct 0, 4, .inl f75)), (a76, .inl (ct 0, 4, .inl f76))])) 0 0 (aset [(a0, .inr (10, [.ref a1, .ref a3, .ref a11, .ref a25, .ref a68, .ref a69, .ref a77, .ref a82, .ref a84, .ref a88, .ref a91])), (a69, .inr (6, [.ref a70, .ref a75, .ref a76, .int n69_3])), (a70, .inl (ct 5, 4, .inr (.inr (.inr (.inr (fun i => if i < 4 then some (rr i) else none)))))), ((rr 0), .inl (ct 3, 60, .inr (.inl f71))), ((rr 1), .inl (ct 3, 60, .inr (.inl f72))), ((rr 2), .inl (ct 3, 60, .inr (.inl f73))), ((rr 3), .inl (ct 3, 60, .inr (.inl f74))), (a75, .inl (ct 0, 4, .inl f75)), (a76, .inl (ct 0, 4, .inl f76))]) := by
  refine Met.ofW (cc := cX10_write) (maxL := 5) (ret := (some .int)) (by decide) rfl ?_
  intro p e s m args below meth c s₁ B hml hv
  obtain ⟨rfl, hP, hK, hD0⟩ := hv
  have hx := B.exec
  have hb := B.bytes
  have hr := B.returns
  have hts := atoms_spec (ws := wsX10_write) B.pre
  have hown : s.vm.findClass RX10 = some m.cls := findClass_of_methodNamed B.named
  have hlocks := B.notSynchronized
  have hD := hD0.aself
  generalize hAe : aset [(a0, .inr (10, [.ref a1, .ref a3, .ref a11, .ref a25, .ref a68, .ref a69, .ref a77, .ref a82, .ref a84, .ref a88, .ref a91])), (a69, .inr (6, [.ref a70, .ref a75, .ref a76, .int n69_3])), (a70, .inl (ct 5, 4, .inr (.inr (.inr (.inr (fun i => if i < 4 then some (rr i) else none)))))), ((rr 0), .inl (ct 3, 60, .inr (.inl f71))), ((rr 1), .inl (ct 3, 60, .inr (.inl f72))), ((rr 2), .inl (ct 3, 60, .inr (.inl f73))), ((rr 3), .inl (ct 3, 60, .inr (.inl f74))), (a75, .inl (ct 0, 4, .inl f75)), (a76, .inl (ct 0, 4, .inl f76))] = A at hD ⊢
  have hS : va_S A s.heap s.heap [] := va_S.rf
  have hl := lv_entry ([.ref a0, .int p0, .int p1, .long p2]) (n := 5) (Nat.le_of_ble_eq_true rfl)
  rw [lg_entry_eq]
  generalize (lg_sl ([.ref a0, .int p0, .int p1, .long p2]) ++ List.replicate (5 - (lg_sl ([.ref a0, .int p0, .int p1, .long p2])).length) Slot.unset).toArray = ls at hl ⊢
  have hl : lv_has ls 5 [(0, .ref a0), (1, .int p0), (2, .int p1), (3, .long p2)] := hl
  refine lv_aload_n hx hb dX10_write_0 rfl (lv_at hl 0 rfl) ?_
  refine va_get (D := G) (ci := 10) (v := .ref a69) (C := RX10) (T := TX10) (N := 11) hx hb hts (by decide +kernel) hown hK.1 hP 0 rfl rfl 5 (by decide) (hts (.fieldLink RX10 43 "CardHolder" "rows" "LCardHolder$Rows;") (by decide +kernel)) (fun _ h9 => h9) rfl dX10_write_1 ?_
  refine lv_iload_n hx hb dX10_write_4 rfl (lv_at hl 1 rfl) ?_
  refine ro_calli (va_runV (As := [.int p0]) (rest := []) ⟨hx, hb, hml, hown, hts⟩ (a_X6_isSlot l G ct a69 a70 a75 a76 n69_3 p0) (cwV 1 hts gX10_write_X6_isSlot rfl rfl rfl (by decide +kernel) ⟨Nat.le_of_ble_eq_true rfl, Nat.le_of_ble_eq_true rfl⟩) (ro_preV 6 0 hK (hP.sub [1] rfl) rfl rfl) rfl rfl hl.1 rfl (lv_room (Nat.le_of_ble_eq_true rfl)) dX10_write_5 ⟨Nat.zero_le _, Nat.zero_le _⟩) hS hP (fun r5 H locs wr5 hP hS => ?_)
  obtain ⟨p_1, p_2, -⟩ := wr5
  refine lv_if_ne (tgt := 14) hx hb dX10_write_8 (by decide) (fun c8 => ?_) (fun c8 => ?_)
  · have h_3 : rg 1 1 r5 := r_ne_lo_i c8 p_1 (by decide) (by decide)
    have h_4 : rg 0 3 p0 := (p_2 (rne h_3 (y := 0) (c := 0) (by decide) (by decide)))
    refine lv_aload_n hx hb dX10_write_14 rfl (lv_at hl 0 rfl) ?_
    refine va_get (D := G) (ci := 10) (v := .ref a69) (C := RX10) (T := TX10) (N := 11) hx hb hts (by decide +kernel) hown hK.1 hP 0 rfl rfl 5 (by decide) (hts (.fieldLink RX10 43 "CardHolder" "rows" "LCardHolder$Rows;") (by decide +kernel)) (fun _ h9 => h9) rfl dX10_write_15 ?_
    refine lv_iload_n hx hb dX10_write_18 rfl (lv_at hl 1 rfl) ?_
    refine ro_calli (va_runV (As := [.int p0]) (rest := []) ⟨hx, hb, hml, hown, hts⟩ (a_X6_isKept l G ct a69 a70 a75 a76 n69_3 p0) (cwV 1 hts gX10_write_X6_isKept rfl rfl rfl (by decide +kernel) ⟨Nat.le_of_ble_eq_true rfl, Nat.le_of_ble_eq_true rfl⟩) (ro_preV 6 0 hK (hP.sub [1] rfl) rfl rfl) rfl rfl hl.1 rfl (lv_room (Nat.le_of_ble_eq_true rfl)) dX10_write_19 ⟨Nat.zero_le _, Nat.zero_le _⟩) hS hP (fun r19 H locs wr19 hP hS => ?_)
    obtain ⟨p_5, p_6, -⟩ := wr19
    refine lv_if_ne (tgt := 28) hx hb dX10_write_22 (by decide) (fun c22 => ?_) (fun c22 => ?_)
    · have h_7 : rg 1 1 r19 := r_ne_lo_i c22 p_5 (by decide) (by decide)
      refine lv_aload_n hx hb dX10_write_28 rfl (lv_at hl 0 rfl) ?_
      refine va_get (D := G) (ci := 10) (v := .ref a69) (C := RX10) (T := TX10) (N := 11) hx hb hts (by decide +kernel) hown hK.1 hP 0 rfl rfl 5 (by decide) (hts (.fieldLink RX10 43 "CardHolder" "rows" "LCardHolder$Rows;") (by decide +kernel)) (fun _ h9 => h9) rfl dX10_write_29 ?_
      refine lv_iload_n hx hb dX10_write_32 rfl (lv_at hl 1 rfl) ?_
      refine lv_iload_n hx hb dX10_write_33 rfl (lv_at hl 2 rfl) ?_
      refine lv_iconst (v := 1) hx hb dX10_write_34 (by decide) ?_
      refine ro_calli (va_runV (As := [.int p0, .int p1, .int 1]) (rest := []) ⟨hx, hb, hml, hown, hts⟩ (a_X6_hasPlaces1 l G ct a69 a70 a75 a76 n69_3 f76 p0 p1 hp_f76) (cwV 3 hts gX10_write_X6_hasPlaces rfl rfl rfl (by decide +kernel) ⟨Nat.le_of_ble_eq_true rfl, Nat.le_of_ble_eq_true rfl⟩) (ro_preV 6 0 hK (hP.sub [1, 8] rfl) rfl rfl) rfl rfl hl.1 rfl (lv_room (Nat.le_of_ble_eq_true rfl)) dX10_write_35 ⟨Nat.zero_le _, Nat.zero_le _⟩) hS hP (fun r35 H locs wr35 hP hS => ?_)
      obtain ⟨p_8, p_9, p_10, -⟩ := wr35
      refine lv_if_ne (tgt := 44) hx hb dX10_write_38 (by decide) (fun c38 => ?_) (fun c38 => ?_)
      · have h_11 : rg 1 1 r35 := r_ne_lo_i c38 p_8 (by decide) (by decide)
        have h_12 : rg 0 59 p1 := (p_10 (rne h_11 (y := 0) (c := 0) (by decide) (by decide)))
        refine lv_aload_n hx hb dX10_write_44 rfl (lv_at hl 0 rfl) ?_
        refine va_get (D := G) (ci := 10) (v := .ref a69) (C := RX10) (T := TX10) (N := 11) hx hb hts (by decide +kernel) hown hK.1 hP 0 rfl rfl 5 (by decide) (hts (.fieldLink RX10 43 "CardHolder" "rows" "LCardHolder$Rows;") (by decide +kernel)) (fun _ h9 => h9) rfl dX10_write_45 ?_
        refine lv_iload_n hx hb dX10_write_48 rfl (lv_at hl 1 rfl) ?_
        refine lv_iload_n hx hb dX10_write_49 rfl (lv_at hl 2 rfl) ?_
        refine lv_lload_n hx hb dX10_write_50 rfl (lv_at hl 3 rfl) ?_
        refine wj_callv (wr := [(a0, .inr (10, [.ref a1, .ref a3, .ref a11, .ref a25, .ref a68, .ref a69, .ref a77, .ref a82, .ref a84, .ref a88, .ref a91]))]) (w1 := (fun u : SU => [(a69, .inr (6, [.ref a70, .ref a75, .ref a76, .int n69_3])), (a70, .inl (ct 5, 4, .inr (.inr (.inr (.inr (fun i => if i < 4 then some (rr i) else none)))))), ((rr 0), .inl (ct 3, 60, .inr (.inl (u.2.2 0)))), ((rr 1), .inl (ct 3, 60, .inr (.inl (u.2.2 1)))), ((rr 2), .inl (ct 3, 60, .inr (.inl (u.2.2 2)))), ((rr 3), .inl (ct 3, 60, .inr (.inl (u.2.2 3)))), (a75, .inl (ct 0, 4, .inl f75)), (a76, .inl (ct 0, 4, .inl f76))])) (va_runV (As := [.int p0, .int p1, .long p2]) (rest := []) ⟨hx, hb, hml, hown, hts⟩ (a_X6_set l G ct a69 a70 a75 a76 n69_3 rr f71 f72 f73 f74 f75 f76 p0 p1 p2 hp_f76) (cwV 3 hts gX10_write_X6_set rfl rfl rfl (by decide +kernel) ⟨Nat.le_of_ble_eq_true rfl, Nat.le_of_ble_eq_true rfl⟩) (wr_preV 6 0 hK (hP.sub [1, 2, 3, 4, 5, 6, 7, 8] rfl) (hD.sub [1, 2, 3, 4, 5, 6, 7, 8] (by decide) rfl) rfl rfl) rfl rfl hl.1 rfl (lv_room (Nat.le_of_ble_eq_true rfl)) dX10_write_51 ⟨Nat.zero_le _, Nat.zero_le _⟩) hS hP hD [1, 2, 3, 4, 5, 6, 7, 8] [0] rfl rfl (by decide) (fun _ => rfl) (fun ur51 H locs wr51 hP hD hS => ?_)
        have hP : va_P G vwCl [(a0, .inr (10, [.ref a1, .ref a3, .ref a11, .ref a25, .ref a68, .ref a69, .ref a77, .ref a82, .ref a84, .ref a88, .ref a91])), (a69, .inr (6, [.ref a70, .ref a75, .ref a76, .int n69_3])), (a70, .inl (ct 5, 4, .inr (.inr (.inr (.inr (fun i => if i < 4 then some (rr i) else none)))))), ((rr 0), .inl (ct 3, 60, .inr (.inl (ur51.2.2 0)))), ((rr 1), .inl (ct 3, 60, .inr (.inl (ur51.2.2 1)))), ((rr 2), .inl (ct 3, 60, .inr (.inl (ur51.2.2 2)))), ((rr 3), .inl (ct 3, 60, .inr (.inl (ur51.2.2 3)))), (a75, .inl (ct 0, 4, .inl f75)), (a76, .inl (ct 0, 4, .inl f76))] H := hP.sub [0, 1, 2, 3, 4, 5, 6, 7, 8] rfl
        have hD : va_D A [(a0, .inr (10, [.ref a1, .ref a3, .ref a11, .ref a25, .ref a68, .ref a69, .ref a77, .ref a82, .ref a84, .ref a88, .ref a91])), (a69, .inr (6, [.ref a70, .ref a75, .ref a76, .int n69_3])), (a70, .inl (ct 5, 4, .inr (.inr (.inr (.inr (fun i => if i < 4 then some (rr i) else none)))))), ((rr 0), .inl (ct 3, 60, .inr (.inl (ur51.2.2 0)))), ((rr 1), .inl (ct 3, 60, .inr (.inl (ur51.2.2 1)))), ((rr 2), .inl (ct 3, 60, .inr (.inl (ur51.2.2 2)))), ((rr 3), .inl (ct 3, 60, .inr (.inl (ur51.2.2 3)))), (a75, .inl (ct 0, 4, .inl f75)), (a76, .inl (ct 0, 4, .inl f76))] := hD.sub [0, 1, 2, 3, 4, 5, 6, 7, 8] (by decide) rfl
        refine lv_iconst (v := 0) hx hb dX10_write_54 (by decide) ?_
        exact W.iret (v := 0) hx hb hr (fun t ht hW => ⟨⟨0, (fun k => ([] : List Int32).getD k 0, fun k => ([] : List (Nat → Int32)).getD k (fun _ => 0), fun k => ([ur51.2.2 0, ur51.2.2 1, ur51.2.2 2, ur51.2.2 3] : List (Nat → Int64)).getD k (fun _ => 0)), rfl, ⟨(rg_w (c := (-7)) (d := 0) (rgn 0 (x := 0) (by decide)) (by decide)), (fun _ => h_4), (fun _ => h_4), (fun _ => h_12), trivial⟩, hp_at ht hP⟩, hS.F ht⟩) hS.2.2 dX10_write_55
      · have h_13 : rg 0 0 r35 := r_eq_l_i (e := 0) (f := 0) c38 p_8 (rgn 0 (x := 0) (by decide)) (by decide)
        refine lv_bipush (v := (-7)) hx hb dX10_write_41 (by decide) ?_
        exact W.iret (v := (-7)) hx hb hr (fun t ht hW => ⟨⟨(-7), (fun k => ([] : List Int32).getD k 0, fun k => ([] : List (Nat → Int32)).getD k (fun _ => 0), fun k => ([f71, f72, f73, f74] : List (Nat → Int64)).getD k (fun _ => 0)), rfl, ⟨(rg_w (c := (-7)) (d := 0) (rgn (-7) (x := (-7)) (by decide)) (by decide)), (fun _ => h_4), (fun _ => h_4), (fun hq => absurd hq (rne (rgn (-7) (x := (-7)) (by decide)) (y := 0) (c := 0) (by decide) (by decide))), trivial⟩, hp_at ht hP⟩, hS.F ht⟩) hS.2.2 dX10_write_43
    · have h_14 : rg 0 0 r19 := r_eq_l_i (e := 0) (f := 0) c22 p_5 (rgn 0 (x := 0) (by decide)) (by decide)
      refine lv_bipush (v := (-6)) hx hb dX10_write_25 (by decide) ?_
      exact W.iret (v := (-6)) hx hb hr (fun t ht hW => ⟨⟨(-6), (fun k => ([] : List Int32).getD k 0, fun k => ([] : List (Nat → Int32)).getD k (fun _ => 0), fun k => ([f71, f72, f73, f74] : List (Nat → Int64)).getD k (fun _ => 0)), rfl, ⟨(rg_w (c := (-7)) (d := 0) (rgn (-6) (x := (-6)) (by decide)) (by decide)), (fun _ => h_4), (fun _ => h_4), (fun hq => absurd hq (rne (rgn (-6) (x := (-6)) (by decide)) (y := 0) (c := 0) (by decide) (by decide))), trivial⟩, hp_at ht hP⟩, hS.F ht⟩) hS.2.2 dX10_write_27
  · have h_15 : rg 0 0 r5 := r_eq_l_i (e := 0) (f := 0) c8 p_1 (rgn 0 (x := 0) (by decide)) (by decide)
    refine lv_bipush (v := (-2)) hx hb dX10_write_11 (by decide) ?_
    exact W.iret (v := (-2)) hx hb hr (fun t ht hW => ⟨⟨(-2), (fun k => ([] : List Int32).getD k 0, fun k => ([] : List (Nat → Int32)).getD k (fun _ => 0), fun k => ([f71, f72, f73, f74] : List (Nat → Int64)).getD k (fun _ => 0)), rfl, ⟨(rg_w (c := (-7)) (d := 0) (rgn (-2) (x := (-2)) (by decide)) (by decide)), (fun hq => absurd hq (rne (rgn (-2) (x := (-2)) (by decide)) (y := 0) (c := 0) (by decide) (by decide))), (fun hq => absurd (req (rgn (-2) (x := (-2)) (by decide)) (y := (-2)) (by decide)) hq), (fun hq => absurd hq (rne (rgn (-2) (x := (-2)) (by decide)) (y := 0) (c := 0) (by decide) (by decide))), trivial⟩, hp_at ht hP⟩, hS.F ht⟩) hS.2.2 dX10_write_13

set_option maxHeartbeats 4000000 in
set_option maxRecDepth 100000 in
theorem a_X10_paste (l : Launch) (G : va_G) (ct : Nat → ClassId) (a0 : Nat) (a1 : Nat) (a3 : Nat) (a11 : Nat) (a25 : Nat) (a68 : Nat) (a69 : Nat) (a77 : Nat) (a82 : Nat) (a84 : Nat) (a88 : Nat) (a91 : Nat) (a70 : Nat) (a75 : Nat) (a76 : Nat) (n69_3 : Int32) (rr : Nat → Nat) (f71 : Nat → Int64) (f72 : Nat → Int64) (f73 : Nat → Int64) (f74 : Nat → Int64) (f75 : Nat → Int32) (f76 : Nat → Int32) (p0 : Int32) (p1 : Int32) (p2 : Int32) (p3 : Int32) (p4 : Int32) (hp_f76 : ar 0 60 f76) : Met l yX10_paste wsX10_paste ({ frames := 3, cells := 0, slots := 0, locals := 65 }) (va_Pc [.ref a0, .int p0, .int p1, .int p2, .int p3, .int p4] (wrP G ct [(a0, .inr (10, [.ref a1, .ref a3, .ref a11, .ref a25, .ref a68, .ref a69, .ref a77, .ref a82, .ref a84, .ref a88, .ref a91])), (a69, .inr (6, [.ref a70, .ref a75, .ref a76, .int n69_3])), (a70, .inl (ct 5, 4, .inr (.inr (.inr (.inr (fun i => if i < 4 then some (rr i) else none)))))), ((rr 0), .inl (ct 3, 60, .inr (.inl f71))), ((rr 1), .inl (ct 3, 60, .inr (.inl f72))), ((rr 2), .inl (ct 3, 60, .inr (.inl f73))), ((rr 3), .inl (ct 3, 60, .inr (.inl f74))), (a75, .inl (ct 0, 4, .inl f75)), (a76, .inl (ct 0, 4, .inl f76))])) (va_Qi (fun (r : Int32) (u : SU) => rg (-8) 0 r ∧ (r = 0 → rg 0 3 p0) ∧ (¬ r = (-2) → rg 0 3 p0) ∧ (r = 0 → rg 0 60 p1) ∧ (r = 0 → rg 0 3 p2) ∧ (¬ r = (-2) → rg 0 3 p2) ∧ (r = 0 → rg 0 60 p3) ∧ (r = 0 → rg 0 60 p4) ∧ True) (fun u t => va_P G vwCl ((fun u : SU => [(a0, .inr (10, [.ref a1, .ref a3, .ref a11, .ref a25, .ref a68, .ref a69, .ref a77, .ref a82, .ref a84, .ref a88, .ref a91])), (a69, .inr (6, [.ref a70, .ref a75, .ref a76, .int n69_3])), (a70, .inl (ct 5, 4, .inr (.inr (.inr (.inr (fun i => if i < 4 then some (rr i) else none)))))), ((rr 0), .inl (ct 3, 60, .inr (.inl (u.2.2 0)))), ((rr 1), .inl (ct 3, 60, .inr (.inl (u.2.2 1)))), ((rr 2), .inl (ct 3, 60, .inr (.inl (u.2.2 2)))), ((rr 3), .inl (ct 3, 60, .inr (.inl (u.2.2 3)))), (a75, .inl (ct 0, 4, .inl f75)), (a76, .inl (ct 0, 4, .inl f76))]) u) t.heap) (aset [(a0, .inr (10, [.ref a1, .ref a3, .ref a11, .ref a25, .ref a68, .ref a69, .ref a77, .ref a82, .ref a84, .ref a88, .ref a91])), (a69, .inr (6, [.ref a70, .ref a75, .ref a76, .int n69_3])), (a70, .inl (ct 5, 4, .inr (.inr (.inr (.inr (fun i => if i < 4 then some (rr i) else none)))))), ((rr 0), .inl (ct 3, 60, .inr (.inl f71))), ((rr 1), .inl (ct 3, 60, .inr (.inl f72))), ((rr 2), .inl (ct 3, 60, .inr (.inl f73))), ((rr 3), .inl (ct 3, 60, .inr (.inl f74))), (a75, .inl (ct 0, 4, .inl f75)), (a76, .inl (ct 0, 4, .inl f76))])) 0 0 (aset [(a0, .inr (10, [.ref a1, .ref a3, .ref a11, .ref a25, .ref a68, .ref a69, .ref a77, .ref a82, .ref a84, .ref a88, .ref a91])), (a69, .inr (6, [.ref a70, .ref a75, .ref a76, .int n69_3])), (a70, .inl (ct 5, 4, .inr (.inr (.inr (.inr (fun i => if i < 4 then some (rr i) else none)))))), ((rr 0), .inl (ct 3, 60, .inr (.inl f71))), ((rr 1), .inl (ct 3, 60, .inr (.inl f72))), ((rr 2), .inl (ct 3, 60, .inr (.inl f73))), ((rr 3), .inl (ct 3, 60, .inr (.inl f74))), (a75, .inl (ct 0, 4, .inl f75)), (a76, .inl (ct 0, 4, .inl f76))]) := by
  refine Met.ofW (cc := cX10_paste) (maxL := 6) (ret := (some .int)) (by decide) rfl ?_
  intro p e s m args below meth c s₁ B hml hv
  obtain ⟨rfl, hP, hK, hD0⟩ := hv
  have hx := B.exec
  have hb := B.bytes
  have hr := B.returns
  have hts := atoms_spec (ws := wsX10_paste) B.pre
  have hown : s.vm.findClass RX10 = some m.cls := findClass_of_methodNamed B.named
  have hlocks := B.notSynchronized
  have hD := hD0.aself
  generalize hAe : aset [(a0, .inr (10, [.ref a1, .ref a3, .ref a11, .ref a25, .ref a68, .ref a69, .ref a77, .ref a82, .ref a84, .ref a88, .ref a91])), (a69, .inr (6, [.ref a70, .ref a75, .ref a76, .int n69_3])), (a70, .inl (ct 5, 4, .inr (.inr (.inr (.inr (fun i => if i < 4 then some (rr i) else none)))))), ((rr 0), .inl (ct 3, 60, .inr (.inl f71))), ((rr 1), .inl (ct 3, 60, .inr (.inl f72))), ((rr 2), .inl (ct 3, 60, .inr (.inl f73))), ((rr 3), .inl (ct 3, 60, .inr (.inl f74))), (a75, .inl (ct 0, 4, .inl f75)), (a76, .inl (ct 0, 4, .inl f76))] = A at hD ⊢
  have hS : va_S A s.heap s.heap [] := va_S.rf
  have hl := lv_entry ([.ref a0, .int p0, .int p1, .int p2, .int p3, .int p4]) (n := 6) (Nat.le_of_ble_eq_true rfl)
  rw [lg_entry_eq]
  generalize (lg_sl ([.ref a0, .int p0, .int p1, .int p2, .int p3, .int p4]) ++ List.replicate (6 - (lg_sl ([.ref a0, .int p0, .int p1, .int p2, .int p3, .int p4])).length) Slot.unset).toArray = ls at hl ⊢
  have hl : lv_has ls 6 [(0, .ref a0), (1, .int p0), (2, .int p1), (3, .int p2), (4, .int p3), (5, .int p4)] := hl
  refine lv_aload_n hx hb dX10_paste_0 rfl (lv_at hl 0 rfl) ?_
  refine va_get (D := G) (ci := 10) (v := .ref a69) (C := RX10) (T := TX10) (N := 11) hx hb hts (by decide +kernel) hown hK.1 hP 0 rfl rfl 5 (by decide) (hts (.fieldLink RX10 43 "CardHolder" "rows" "LCardHolder$Rows;") (by decide +kernel)) (fun _ h9 => h9) rfl dX10_paste_1 ?_
  refine lv_iload_n hx hb dX10_paste_4 rfl (lv_at hl 1 rfl) ?_
  refine ro_calli (va_runV (As := [.int p0]) (rest := []) ⟨hx, hb, hml, hown, hts⟩ (a_X6_isSlot l G ct a69 a70 a75 a76 n69_3 p0) (cwV 1 hts gX10_paste_X6_isSlot rfl rfl rfl (by decide +kernel) ⟨Nat.le_of_ble_eq_true rfl, Nat.le_of_ble_eq_true rfl⟩) (ro_preV 6 0 hK (hP.sub [1] rfl) rfl rfl) rfl rfl hl.1 rfl (lv_room (Nat.le_of_ble_eq_true rfl)) dX10_paste_5 ⟨Nat.zero_le _, Nat.zero_le _⟩) hS hP (fun r5 H locs wr5 hP hS => ?_)
  obtain ⟨p_1, p_2, -⟩ := wr5
  refine lv_if_eq (tgt := 22) hx hb dX10_paste_8 (by decide) (fun c8 => ?_) (fun c8 => ?_)
  · have h_3 : rg 0 0 r5 := r_eq_l_i (e := 0) (f := 0) c8 p_1 (rgn 0 (x := 0) (by decide)) (by decide)
    refine lv_bipush (v := (-2)) hx hb dX10_paste_22 (by decide) ?_
    exact W.iret (v := (-2)) hx hb hr (fun t ht hW => ⟨⟨(-2), (fun k => ([] : List Int32).getD k 0, fun k => ([] : List (Nat → Int32)).getD k (fun _ => 0), fun k => ([f71, f72, f73, f74] : List (Nat → Int64)).getD k (fun _ => 0)), rfl, ⟨(rg_w (c := (-8)) (d := 0) (rgn (-2) (x := (-2)) (by decide)) (by decide)), (fun hq => absurd hq (rne (rgn (-2) (x := (-2)) (by decide)) (y := 0) (c := 0) (by decide) (by decide))), (fun hq => absurd (req (rgn (-2) (x := (-2)) (by decide)) (y := (-2)) (by decide)) hq), (fun hq => absurd hq (rne (rgn (-2) (x := (-2)) (by decide)) (y := 0) (c := 0) (by decide) (by decide))), (fun hq => absurd hq (rne (rgn (-2) (x := (-2)) (by decide)) (y := 0) (c := 0) (by decide) (by decide))), (fun hq => absurd (req (rgn (-2) (x := (-2)) (by decide)) (y := (-2)) (by decide)) hq), (fun hq => absurd hq (rne (rgn (-2) (x := (-2)) (by decide)) (y := 0) (c := 0) (by decide) (by decide))), (fun hq => absurd hq (rne (rgn (-2) (x := (-2)) (by decide)) (y := 0) (c := 0) (by decide) (by decide))), trivial⟩, hp_at ht hP⟩, hS.F ht⟩) hS.2.2 dX10_paste_24
  · have h_4 : rg 1 1 r5 := r_ne_lo_i c8 p_1 (by decide) (by decide)
    have h_5 : rg 0 3 p0 := (p_2 (rne h_4 (y := 0) (c := 0) (by decide) (by decide)))
    refine lv_aload_n hx hb dX10_paste_11 rfl (lv_at hl 0 rfl) ?_
    refine va_get (D := G) (ci := 10) (v := .ref a69) (C := RX10) (T := TX10) (N := 11) hx hb hts (by decide +kernel) hown hK.1 hP 0 rfl rfl 5 (by decide) (hts (.fieldLink RX10 43 "CardHolder" "rows" "LCardHolder$Rows;") (by decide +kernel)) (fun _ h9 => h9) rfl dX10_paste_12 ?_
    refine lv_iload_n hx hb dX10_paste_15 rfl (lv_at hl 3 rfl) ?_
    refine ro_calli (va_runV (As := [.int p2]) (rest := []) ⟨hx, hb, hml, hown, hts⟩ (a_X6_isSlot l G ct a69 a70 a75 a76 n69_3 p2) (cwV 1 hts gX10_paste_X6_isSlot rfl rfl rfl (by decide +kernel) ⟨Nat.le_of_ble_eq_true rfl, Nat.le_of_ble_eq_true rfl⟩) (ro_preV 6 0 hK (hP.sub [1] rfl) rfl rfl) rfl rfl hl.1 rfl (lv_room (Nat.le_of_ble_eq_true rfl)) dX10_paste_16 ⟨Nat.zero_le _, Nat.zero_le _⟩) hS hP (fun r16 H locs wr16 hP hS => ?_)
    obtain ⟨p_6, p_7, -⟩ := wr16
    refine lv_if_ne (tgt := 25) hx hb dX10_paste_19 (by decide) (fun c19 => ?_) (fun c19 => ?_)
    · have h_8 : rg 1 1 r16 := r_ne_lo_i c19 p_6 (by decide) (by decide)
      have h_9 : rg 0 3 p2 := (p_7 (rne h_8 (y := 0) (c := 0) (by decide) (by decide)))
      refine lv_aload_n hx hb dX10_paste_25 rfl (lv_at hl 0 rfl) ?_
      refine va_get (D := G) (ci := 10) (v := .ref a69) (C := RX10) (T := TX10) (N := 11) hx hb hts (by decide +kernel) hown hK.1 hP 0 rfl rfl 5 (by decide) (hts (.fieldLink RX10 43 "CardHolder" "rows" "LCardHolder$Rows;") (by decide +kernel)) (fun _ h9 => h9) rfl dX10_paste_26 ?_
      refine lv_iload_n hx hb dX10_paste_29 rfl (lv_at hl 1 rfl) ?_
      refine ro_calli (va_runV (As := [.int p0]) (rest := []) ⟨hx, hb, hml, hown, hts⟩ (a_X6_isKept l G ct a69 a70 a75 a76 n69_3 p0) (cwV 1 hts gX10_paste_X6_isKept rfl rfl rfl (by decide +kernel) ⟨Nat.le_of_ble_eq_true rfl, Nat.le_of_ble_eq_true rfl⟩) (ro_preV 6 0 hK (hP.sub [1] rfl) rfl rfl) rfl rfl hl.1 rfl (lv_room (Nat.le_of_ble_eq_true rfl)) dX10_paste_30 ⟨Nat.zero_le _, Nat.zero_le _⟩) hS hP (fun r30 H locs wr30 hP hS => ?_)
      obtain ⟨p_10, p_11, -⟩ := wr30
      refine lv_if_eq (tgt := 47) hx hb dX10_paste_33 (by decide) (fun c33 => ?_) (fun c33 => ?_)
      · have h_12 : rg 0 0 r30 := r_eq_l_i (e := 0) (f := 0) c33 p_10 (rgn 0 (x := 0) (by decide)) (by decide)
        refine lv_bipush (v := (-6)) hx hb dX10_paste_47 (by decide) ?_
        exact W.iret (v := (-6)) hx hb hr (fun t ht hW => ⟨⟨(-6), (fun k => ([] : List Int32).getD k 0, fun k => ([] : List (Nat → Int32)).getD k (fun _ => 0), fun k => ([f71, f72, f73, f74] : List (Nat → Int64)).getD k (fun _ => 0)), rfl, ⟨(rg_w (c := (-8)) (d := 0) (rgn (-6) (x := (-6)) (by decide)) (by decide)), (fun _ => h_5), (fun _ => h_5), (fun hq => absurd hq (rne (rgn (-6) (x := (-6)) (by decide)) (y := 0) (c := 0) (by decide) (by decide))), (fun _ => h_9), (fun _ => h_9), (fun hq => absurd hq (rne (rgn (-6) (x := (-6)) (by decide)) (y := 0) (c := 0) (by decide) (by decide))), (fun hq => absurd hq (rne (rgn (-6) (x := (-6)) (by decide)) (y := 0) (c := 0) (by decide) (by decide))), trivial⟩, hp_at ht hP⟩, hS.F ht⟩) hS.2.2 dX10_paste_49
      · have h_13 : rg 1 1 r30 := r_ne_lo_i c33 p_10 (by decide) (by decide)
        refine lv_aload_n hx hb dX10_paste_36 rfl (lv_at hl 0 rfl) ?_
        refine va_get (D := G) (ci := 10) (v := .ref a69) (C := RX10) (T := TX10) (N := 11) hx hb hts (by decide +kernel) hown hK.1 hP 0 rfl rfl 5 (by decide) (hts (.fieldLink RX10 43 "CardHolder" "rows" "LCardHolder$Rows;") (by decide +kernel)) (fun _ h9 => h9) rfl dX10_paste_37 ?_
        refine lv_iload_n hx hb dX10_paste_40 rfl (lv_at hl 3 rfl) ?_
        refine ro_calli (va_runV (As := [.int p2]) (rest := []) ⟨hx, hb, hml, hown, hts⟩ (a_X6_isKept l G ct a69 a70 a75 a76 n69_3 p2) (cwV 1 hts gX10_paste_X6_isKept rfl rfl rfl (by decide +kernel) ⟨Nat.le_of_ble_eq_true rfl, Nat.le_of_ble_eq_true rfl⟩) (ro_preV 6 0 hK (hP.sub [1] rfl) rfl rfl) rfl rfl hl.1 rfl (lv_room (Nat.le_of_ble_eq_true rfl)) dX10_paste_41 ⟨Nat.zero_le _, Nat.zero_le _⟩) hS hP (fun r41 H locs wr41 hP hS => ?_)
        obtain ⟨p_14, p_15, -⟩ := wr41
        refine lv_if_ne (tgt := 50) hx hb dX10_paste_44 (by decide) (fun c44 => ?_) (fun c44 => ?_)
        · have h_16 : rg 1 1 r41 := r_ne_lo_i c44 p_14 (by decide) (by decide)
          refine lv_aload_n hx hb dX10_paste_50 rfl (lv_at hl 0 rfl) ?_
          refine va_get (D := G) (ci := 10) (v := .ref a69) (C := RX10) (T := TX10) (N := 11) hx hb hts (by decide +kernel) hown hK.1 hP 0 rfl rfl 5 (by decide) (hts (.fieldLink RX10 43 "CardHolder" "rows" "LCardHolder$Rows;") (by decide +kernel)) (fun _ h9 => h9) rfl dX10_paste_51 ?_
          refine va_get (D := G) (ci := 6) (v := .ref a75) (C := RX6) (T := TX6) (N := 4) hx hb hts (by decide +kernel) hown hK.1 hP 1 rfl rfl 1 (by decide) (hts (.fieldLink RX10 415 "CardHolder$Rows" "widths" "[I") (by decide +kernel)) (fun _ h9 => h9) rfl dX10_paste_54 ?_
          refine lv_iload_n hx hb dX10_paste_57 rfl (lv_at hl 1 rfl) ?_
          refine va_iald hx hb hK.1 hP 7 0 rfl rfl (in_rg h_5 (by decide)) dX10_paste_58 ?_
          refine lv_topi (fun z58 gz58 => ?_)
          refine lv_aload_n hx hb dX10_paste_59 rfl (lv_at hl 0 rfl) ?_
          refine va_get (D := G) (ci := 10) (v := .ref a69) (C := RX10) (T := TX10) (N := 11) hx hb hts (by decide +kernel) hown hK.1 hP 0 rfl rfl 5 (by decide) (hts (.fieldLink RX10 43 "CardHolder" "rows" "LCardHolder$Rows;") (by decide +kernel)) (fun _ h9 => h9) rfl dX10_paste_60 ?_
          refine va_get (D := G) (ci := 6) (v := .ref a75) (C := RX6) (T := TX6) (N := 4) hx hb hts (by decide +kernel) hown hK.1 hP 1 rfl rfl 1 (by decide) (hts (.fieldLink RX10 415 "CardHolder$Rows" "widths" "[I") (by decide +kernel)) (fun _ h9 => h9) rfl dX10_paste_63 ?_
          refine lv_iload_n hx hb dX10_paste_66 rfl (lv_at hl 3 rfl) ?_
          refine va_iald hx hb hK.1 hP 7 0 rfl rfl (in_rg h_9 (by decide)) dX10_paste_67 ?_
          refine lv_topi (fun z67 gz67 => ?_)
          refine lv_icmp_eq (tgt := 74) hx hb dX10_paste_68 (by decide) (fun c68 => ?_) (fun c68 => ?_)
          · refine lv_aload_n hx hb dX10_paste_74 rfl (lv_at hl 0 rfl) ?_
            refine va_get (D := G) (ci := 10) (v := .ref a69) (C := RX10) (T := TX10) (N := 11) hx hb hts (by decide +kernel) hown hK.1 hP 0 rfl rfl 5 (by decide) (hts (.fieldLink RX10 43 "CardHolder" "rows" "LCardHolder$Rows;") (by decide +kernel)) (fun _ h9 => h9) rfl dX10_paste_75 ?_
            refine lv_iload_n hx hb dX10_paste_78 rfl (lv_at hl 1 rfl) ?_
            refine lv_iload_n hx hb dX10_paste_79 rfl (lv_at hl 2 rfl) ?_
            refine lv_iload hx hb dX10_paste_80 (lv_at hl 5 rfl) ?_
            refine ro_calli (va_runV (As := [.int p0, .int p1, .int p4]) (rest := []) ⟨hx, hb, hml, hown, hts⟩ (a_X6_hasPlaces l G ct a69 a70 a75 a76 n69_3 f76 p0 p1 p4 hp_f76) (cwV 3 hts gX10_paste_X6_hasPlaces rfl rfl rfl (by decide +kernel) ⟨Nat.le_of_ble_eq_true rfl, Nat.le_of_ble_eq_true rfl⟩) (ro_preV 6 0 hK (hP.sub [1, 8] rfl) rfl rfl) rfl rfl hl.1 rfl (lv_room (Nat.le_of_ble_eq_true rfl)) dX10_paste_82 ⟨Nat.zero_le _, Nat.zero_le _⟩) hS hP (fun r82 H locs wr82 hP hS => ?_)
            obtain ⟨p_17, p_18, p_19, p_20, -⟩ := wr82
            refine lv_if_eq (tgt := 103) hx hb dX10_paste_85 (by decide) (fun c85 => ?_) (fun c85 => ?_)
            · have h_21 : rg 0 0 r82 := r_eq_l_i (e := 0) (f := 0) c85 p_17 (rgn 0 (x := 0) (by decide)) (by decide)
              refine lv_bipush (v := (-7)) hx hb dX10_paste_103 (by decide) ?_
              exact W.iret (v := (-7)) hx hb hr (fun t ht hW => ⟨⟨(-7), (fun k => ([] : List Int32).getD k 0, fun k => ([] : List (Nat → Int32)).getD k (fun _ => 0), fun k => ([f71, f72, f73, f74] : List (Nat → Int64)).getD k (fun _ => 0)), rfl, ⟨(rg_w (c := (-8)) (d := 0) (rgn (-7) (x := (-7)) (by decide)) (by decide)), (fun _ => h_5), (fun _ => h_5), (fun hq => absurd hq (rne (rgn (-7) (x := (-7)) (by decide)) (y := 0) (c := 0) (by decide) (by decide))), (fun _ => h_9), (fun _ => h_9), (fun hq => absurd hq (rne (rgn (-7) (x := (-7)) (by decide)) (y := 0) (c := 0) (by decide) (by decide))), (fun hq => absurd hq (rne (rgn (-7) (x := (-7)) (by decide)) (y := 0) (c := 0) (by decide) (by decide))), trivial⟩, hp_at ht hP⟩, hS.F ht⟩) hS.2.2 dX10_paste_105
            · have h_22 : rg 1 1 r82 := r_ne_lo_i c85 p_17 (by decide) (by decide)
              have h_23 : rg 0 60 p1 := (p_18 (rne h_22 (y := 0) (c := 0) (by decide) (by decide)))
              have h_24 : rg 0 60 p4 := (p_19 (rne h_22 (y := 0) (c := 0) (by decide) (by decide)))
              refine lv_aload_n hx hb dX10_paste_88 rfl (lv_at hl 0 rfl) ?_
              refine va_get (D := G) (ci := 10) (v := .ref a69) (C := RX10) (T := TX10) (N := 11) hx hb hts (by decide +kernel) hown hK.1 hP 0 rfl rfl 5 (by decide) (hts (.fieldLink RX10 43 "CardHolder" "rows" "LCardHolder$Rows;") (by decide +kernel)) (fun _ h9 => h9) rfl dX10_paste_89 ?_
              refine lv_iload_n hx hb dX10_paste_92 rfl (lv_at hl 3 rfl) ?_
              refine lv_iload hx hb dX10_paste_93 (lv_at hl 4 rfl) ?_
              refine lv_iload hx hb dX10_paste_95 (lv_at hl 5 rfl) ?_
              refine ro_calli (va_runV (As := [.int p2, .int p3, .int p4]) (rest := []) ⟨hx, hb, hml, hown, hts⟩ (a_X6_hasPlaces l G ct a69 a70 a75 a76 n69_3 f76 p2 p3 p4 hp_f76) (cwV 3 hts gX10_paste_X6_hasPlaces rfl rfl rfl (by decide +kernel) ⟨Nat.le_of_ble_eq_true rfl, Nat.le_of_ble_eq_true rfl⟩) (ro_preV 6 0 hK (hP.sub [1, 8] rfl) rfl rfl) rfl rfl hl.1 rfl (lv_room (Nat.le_of_ble_eq_true rfl)) dX10_paste_97 ⟨Nat.zero_le _, Nat.zero_le _⟩) hS hP (fun r97 H locs wr97 hP hS => ?_)
              obtain ⟨p_25, p_26, p_27, p_28, -⟩ := wr97
              refine lv_if_ne (tgt := 106) hx hb dX10_paste_100 (by decide) (fun c100 => ?_) (fun c100 => ?_)
              · have h_29 : rg 1 1 r97 := r_ne_lo_i c100 p_25 (by decide) (by decide)
                have h_30 : rg 0 60 p3 := (p_26 (rne h_29 (y := 0) (c := 0) (by decide) (by decide)))
                refine lv_aload_n hx hb dX10_paste_106 rfl (lv_at hl 0 rfl) ?_
                refine va_get (D := G) (ci := 10) (v := .ref a69) (C := RX10) (T := TX10) (N := 11) hx hb hts (by decide +kernel) hown hK.1 hP 0 rfl rfl 5 (by decide) (hts (.fieldLink RX10 43 "CardHolder" "rows" "LCardHolder$Rows;") (by decide +kernel)) (fun _ h9 => h9) rfl dX10_paste_107 ?_
                refine va_get (D := G) (ci := 6) (v := .ref a70) (C := RX6) (T := TX6) (N := 4) hx hb hts (by decide +kernel) hown hK.1 hP 1 rfl rfl 0 (by decide) (hts (.fieldLink RX10 418 "CardHolder$Rows" "numbers" "[[J") (by decide +kernel)) (fun _ h9 => h9) rfl dX10_paste_110 ?_
                refine lv_iload_n hx hb dX10_paste_113 rfl (lv_at hl 1 rfl) ?_
                rcases (sp4 h_5.1 (by have := h_5.2; omega)) with s114 | s114 | s114 | s114
                · refine ix_i (y := 0) s114 ?_
                  have h_31 : rg 0 0 p0 := r_eq_l_i (e := 0) (f := 0) s114 h_5 (rgn 0 (x := 0) (by decide)) (by decide)
                  refine va_aldL hx hb hK.1 hP 2 5 rfl rfl (in_lit (by decide)) dX10_paste_114 ?_
                  refine ix_r (y := .ref (rr 0)) rfl ?_
                  refine lv_iload_n hx hb dX10_paste_115 rfl (lv_at hl 2 rfl) ?_
                  refine lv_aload_n hx hb dX10_paste_116 rfl (lv_at hl 0 rfl) ?_
                  refine va_get (D := G) (ci := 10) (v := .ref a69) (C := RX10) (T := TX10) (N := 11) hx hb hts (by decide +kernel) hown hK.1 hP 0 rfl rfl 5 (by decide) (hts (.fieldLink RX10 43 "CardHolder" "rows" "LCardHolder$Rows;") (by decide +kernel)) (fun _ h9 => h9) rfl dX10_paste_117 ?_
                  refine va_get (D := G) (ci := 6) (v := .ref a70) (C := RX6) (T := TX6) (N := 4) hx hb hts (by decide +kernel) hown hK.1 hP 1 rfl rfl 0 (by decide) (hts (.fieldLink RX10 418 "CardHolder$Rows" "numbers" "[[J") (by decide +kernel)) (fun _ h9 => h9) rfl dX10_paste_120 ?_
                  refine lv_iload_n hx hb dX10_paste_123 rfl (lv_at hl 3 rfl) ?_
                  rcases (sp4 h_9.1 (by have := h_9.2; omega)) with s124 | s124 | s124 | s124
                  · refine ix_i (y := 0) s124 ?_
                    have h_32 : rg 0 0 p2 := r_eq_l_i (e := 0) (f := 0) s124 h_9 (rgn 0 (x := 0) (by decide)) (by decide)
                    refine va_aldL hx hb hK.1 hP 2 5 rfl rfl (in_lit (by decide)) dX10_paste_124 ?_
                    refine ix_r (y := .ref (rr 0)) rfl ?_
                    refine lv_iload hx hb dX10_paste_125 (lv_at hl 4 rfl) ?_
                    refine lv_iload hx hb dX10_paste_127 (lv_at hl 5 rfl) ?_
                    refine va_copyl (ty := .long) hx hb (hml.trans hl.1.symm) hown (hts (.methodLink RX10 422 arraycopyName) (by decide +kernel)) (hts (.native arraycopyName) (by decide +kernel)) (hts (.static arraycopyName) (by decide +kernel)) (hts (.initialized "java/lang/System") (by decide +kernel)) hK.1 hP hD hS 3 3 3 3 rfl rfl rfl rfl rfl (nneg h_23 (by decide)) (nneg h_30 (by decide)) (nneg h_24 (by decide)) (cp_le h_23 h_24 (by decide) (p_20 (rne h_22 (y := 0) (c := 0) (by decide) (by decide)))) (cp_le h_30 h_24 (by decide) (p_28 (rne h_29 (y := 0) (c := 0) (by decide) (by decide)))) (fun _ _ => rfl) (Nat.le_of_ble_eq_true rfl) (Nat.le_of_ble_eq_true rfl) dX10_paste_129 (fun H locs hP hD hS => ?_)
                    refine lv_iconst (v := 0) hx hb dX10_paste_132 (by decide) ?_
                    exact W.iret (v := 0) hx hb hr (fun t ht hW => ⟨⟨0, (fun k => ([] : List Int32).getD k 0, fun k => ([] : List (Nat → Int32)).getD k (fun _ => 0), fun k => ([va_cpy f71 f71 p1.toNatClampNeg p3.toNatClampNeg p4.toNatClampNeg, f72, f73, f74] : List (Nat → Int64)).getD k (fun _ => 0)), rfl, ⟨(rg_w (c := (-8)) (d := 0) (rgn 0 (x := 0) (by decide)) (by decide)), (fun _ => (rg_w (c := 0) (d := 3) h_31 (by decide))), (fun _ => (rg_w (c := 0) (d := 3) h_31 (by decide))), (fun _ => h_23), (fun _ => (rg_w (c := 0) (d := 3) h_32 (by decide))), (fun _ => (rg_w (c := 0) (d := 3) h_32 (by decide))), (fun _ => h_30), (fun _ => h_24), trivial⟩, hp_at ht hP⟩, hS.F ht⟩) hS.2.2 dX10_paste_133
                  · refine ix_i (y := 1) s124 ?_
                    have h_33 : rg 1 1 p2 := r_eq_l_i (e := 1) (f := 1) s124 h_9 (rgn 1 (x := 1) (by decide)) (by decide)
                    refine va_aldL hx hb hK.1 hP 2 5 rfl rfl (in_lit (by decide)) dX10_paste_124 ?_
                    refine ix_r (y := .ref (rr 1)) rfl ?_
                    refine lv_iload hx hb dX10_paste_125 (lv_at hl 4 rfl) ?_
                    refine lv_iload hx hb dX10_paste_127 (lv_at hl 5 rfl) ?_
                    refine va_copyl (ty := .long) hx hb (hml.trans hl.1.symm) hown (hts (.methodLink RX10 422 arraycopyName) (by decide +kernel)) (hts (.native arraycopyName) (by decide +kernel)) (hts (.static arraycopyName) (by decide +kernel)) (hts (.initialized "java/lang/System") (by decide +kernel)) hK.1 hP hD hS 3 4 3 3 rfl rfl rfl rfl rfl (nneg h_23 (by decide)) (nneg h_30 (by decide)) (nneg h_24 (by decide)) (cp_le h_23 h_24 (by decide) (p_20 (rne h_22 (y := 0) (c := 0) (by decide) (by decide)))) (cp_le h_30 h_24 (by decide) (p_28 (rne h_29 (y := 0) (c := 0) (by decide) (by decide)))) (fun _ _ => rfl) (Nat.le_of_ble_eq_true rfl) (Nat.le_of_ble_eq_true rfl) dX10_paste_129 (fun H locs hP hD hS => ?_)
                    refine lv_iconst (v := 0) hx hb dX10_paste_132 (by decide) ?_
                    exact W.iret (v := 0) hx hb hr (fun t ht hW => ⟨⟨0, (fun k => ([] : List Int32).getD k 0, fun k => ([] : List (Nat → Int32)).getD k (fun _ => 0), fun k => ([f71, va_cpy f71 f72 p1.toNatClampNeg p3.toNatClampNeg p4.toNatClampNeg, f73, f74] : List (Nat → Int64)).getD k (fun _ => 0)), rfl, ⟨(rg_w (c := (-8)) (d := 0) (rgn 0 (x := 0) (by decide)) (by decide)), (fun _ => (rg_w (c := 0) (d := 3) h_31 (by decide))), (fun _ => (rg_w (c := 0) (d := 3) h_31 (by decide))), (fun _ => h_23), (fun _ => (rg_w (c := 0) (d := 3) h_33 (by decide))), (fun _ => (rg_w (c := 0) (d := 3) h_33 (by decide))), (fun _ => h_30), (fun _ => h_24), trivial⟩, hp_at ht hP⟩, hS.F ht⟩) hS.2.2 dX10_paste_133
                  · refine ix_i (y := 2) s124 ?_
                    have h_34 : rg 2 2 p2 := r_eq_l_i (e := 2) (f := 2) s124 h_9 (rgn 2 (x := 2) (by decide)) (by decide)
                    refine va_aldL hx hb hK.1 hP 2 5 rfl rfl (in_lit (by decide)) dX10_paste_124 ?_
                    refine ix_r (y := .ref (rr 2)) rfl ?_
                    refine lv_iload hx hb dX10_paste_125 (lv_at hl 4 rfl) ?_
                    refine lv_iload hx hb dX10_paste_127 (lv_at hl 5 rfl) ?_
                    refine va_copyl (ty := .long) hx hb (hml.trans hl.1.symm) hown (hts (.methodLink RX10 422 arraycopyName) (by decide +kernel)) (hts (.native arraycopyName) (by decide +kernel)) (hts (.static arraycopyName) (by decide +kernel)) (hts (.initialized "java/lang/System") (by decide +kernel)) hK.1 hP hD hS 3 5 3 3 rfl rfl rfl rfl rfl (nneg h_23 (by decide)) (nneg h_30 (by decide)) (nneg h_24 (by decide)) (cp_le h_23 h_24 (by decide) (p_20 (rne h_22 (y := 0) (c := 0) (by decide) (by decide)))) (cp_le h_30 h_24 (by decide) (p_28 (rne h_29 (y := 0) (c := 0) (by decide) (by decide)))) (fun _ _ => rfl) (Nat.le_of_ble_eq_true rfl) (Nat.le_of_ble_eq_true rfl) dX10_paste_129 (fun H locs hP hD hS => ?_)
                    refine lv_iconst (v := 0) hx hb dX10_paste_132 (by decide) ?_
                    exact W.iret (v := 0) hx hb hr (fun t ht hW => ⟨⟨0, (fun k => ([] : List Int32).getD k 0, fun k => ([] : List (Nat → Int32)).getD k (fun _ => 0), fun k => ([f71, f72, va_cpy f71 f73 p1.toNatClampNeg p3.toNatClampNeg p4.toNatClampNeg, f74] : List (Nat → Int64)).getD k (fun _ => 0)), rfl, ⟨(rg_w (c := (-8)) (d := 0) (rgn 0 (x := 0) (by decide)) (by decide)), (fun _ => (rg_w (c := 0) (d := 3) h_31 (by decide))), (fun _ => (rg_w (c := 0) (d := 3) h_31 (by decide))), (fun _ => h_23), (fun _ => (rg_w (c := 0) (d := 3) h_34 (by decide))), (fun _ => (rg_w (c := 0) (d := 3) h_34 (by decide))), (fun _ => h_30), (fun _ => h_24), trivial⟩, hp_at ht hP⟩, hS.F ht⟩) hS.2.2 dX10_paste_133
                  · refine ix_i (y := 3) s124 ?_
                    have h_35 : rg 3 3 p2 := r_eq_l_i (e := 3) (f := 3) s124 h_9 (rgn 3 (x := 3) (by decide)) (by decide)
                    refine va_aldL hx hb hK.1 hP 2 5 rfl rfl (in_lit (by decide)) dX10_paste_124 ?_
                    refine ix_r (y := .ref (rr 3)) rfl ?_
                    refine lv_iload hx hb dX10_paste_125 (lv_at hl 4 rfl) ?_
                    refine lv_iload hx hb dX10_paste_127 (lv_at hl 5 rfl) ?_
                    refine va_copyl (ty := .long) hx hb (hml.trans hl.1.symm) hown (hts (.methodLink RX10 422 arraycopyName) (by decide +kernel)) (hts (.native arraycopyName) (by decide +kernel)) (hts (.static arraycopyName) (by decide +kernel)) (hts (.initialized "java/lang/System") (by decide +kernel)) hK.1 hP hD hS 3 6 3 3 rfl rfl rfl rfl rfl (nneg h_23 (by decide)) (nneg h_30 (by decide)) (nneg h_24 (by decide)) (cp_le h_23 h_24 (by decide) (p_20 (rne h_22 (y := 0) (c := 0) (by decide) (by decide)))) (cp_le h_30 h_24 (by decide) (p_28 (rne h_29 (y := 0) (c := 0) (by decide) (by decide)))) (fun _ _ => rfl) (Nat.le_of_ble_eq_true rfl) (Nat.le_of_ble_eq_true rfl) dX10_paste_129 (fun H locs hP hD hS => ?_)
                    refine lv_iconst (v := 0) hx hb dX10_paste_132 (by decide) ?_
                    exact W.iret (v := 0) hx hb hr (fun t ht hW => ⟨⟨0, (fun k => ([] : List Int32).getD k 0, fun k => ([] : List (Nat → Int32)).getD k (fun _ => 0), fun k => ([f71, f72, f73, va_cpy f71 f74 p1.toNatClampNeg p3.toNatClampNeg p4.toNatClampNeg] : List (Nat → Int64)).getD k (fun _ => 0)), rfl, ⟨(rg_w (c := (-8)) (d := 0) (rgn 0 (x := 0) (by decide)) (by decide)), (fun _ => (rg_w (c := 0) (d := 3) h_31 (by decide))), (fun _ => (rg_w (c := 0) (d := 3) h_31 (by decide))), (fun _ => h_23), (fun _ => (rg_w (c := 0) (d := 3) h_35 (by decide))), (fun _ => (rg_w (c := 0) (d := 3) h_35 (by decide))), (fun _ => h_30), (fun _ => h_24), trivial⟩, hp_at ht hP⟩, hS.F ht⟩) hS.2.2 dX10_paste_133
                · refine ix_i (y := 1) s114 ?_
                  have h_36 : rg 1 1 p0 := r_eq_l_i (e := 1) (f := 1) s114 h_5 (rgn 1 (x := 1) (by decide)) (by decide)
                  refine va_aldL hx hb hK.1 hP 2 5 rfl rfl (in_lit (by decide)) dX10_paste_114 ?_
                  refine ix_r (y := .ref (rr 1)) rfl ?_
                  refine lv_iload_n hx hb dX10_paste_115 rfl (lv_at hl 2 rfl) ?_
                  refine lv_aload_n hx hb dX10_paste_116 rfl (lv_at hl 0 rfl) ?_
                  refine va_get (D := G) (ci := 10) (v := .ref a69) (C := RX10) (T := TX10) (N := 11) hx hb hts (by decide +kernel) hown hK.1 hP 0 rfl rfl 5 (by decide) (hts (.fieldLink RX10 43 "CardHolder" "rows" "LCardHolder$Rows;") (by decide +kernel)) (fun _ h9 => h9) rfl dX10_paste_117 ?_
                  refine va_get (D := G) (ci := 6) (v := .ref a70) (C := RX6) (T := TX6) (N := 4) hx hb hts (by decide +kernel) hown hK.1 hP 1 rfl rfl 0 (by decide) (hts (.fieldLink RX10 418 "CardHolder$Rows" "numbers" "[[J") (by decide +kernel)) (fun _ h9 => h9) rfl dX10_paste_120 ?_
                  refine lv_iload_n hx hb dX10_paste_123 rfl (lv_at hl 3 rfl) ?_
                  rcases (sp4 h_9.1 (by have := h_9.2; omega)) with s124 | s124 | s124 | s124
                  · refine ix_i (y := 0) s124 ?_
                    have h_37 : rg 0 0 p2 := r_eq_l_i (e := 0) (f := 0) s124 h_9 (rgn 0 (x := 0) (by decide)) (by decide)
                    refine va_aldL hx hb hK.1 hP 2 5 rfl rfl (in_lit (by decide)) dX10_paste_124 ?_
                    refine ix_r (y := .ref (rr 0)) rfl ?_
                    refine lv_iload hx hb dX10_paste_125 (lv_at hl 4 rfl) ?_
                    refine lv_iload hx hb dX10_paste_127 (lv_at hl 5 rfl) ?_
                    refine va_copyl (ty := .long) hx hb (hml.trans hl.1.symm) hown (hts (.methodLink RX10 422 arraycopyName) (by decide +kernel)) (hts (.native arraycopyName) (by decide +kernel)) (hts (.static arraycopyName) (by decide +kernel)) (hts (.initialized "java/lang/System") (by decide +kernel)) hK.1 hP hD hS 4 3 3 3 rfl rfl rfl rfl rfl (nneg h_23 (by decide)) (nneg h_30 (by decide)) (nneg h_24 (by decide)) (cp_le h_23 h_24 (by decide) (p_20 (rne h_22 (y := 0) (c := 0) (by decide) (by decide)))) (cp_le h_30 h_24 (by decide) (p_28 (rne h_29 (y := 0) (c := 0) (by decide) (by decide)))) (fun _ _ => rfl) (Nat.le_of_ble_eq_true rfl) (Nat.le_of_ble_eq_true rfl) dX10_paste_129 (fun H locs hP hD hS => ?_)
                    refine lv_iconst (v := 0) hx hb dX10_paste_132 (by decide) ?_
                    exact W.iret (v := 0) hx hb hr (fun t ht hW => ⟨⟨0, (fun k => ([] : List Int32).getD k 0, fun k => ([] : List (Nat → Int32)).getD k (fun _ => 0), fun k => ([va_cpy f72 f71 p1.toNatClampNeg p3.toNatClampNeg p4.toNatClampNeg, f72, f73, f74] : List (Nat → Int64)).getD k (fun _ => 0)), rfl, ⟨(rg_w (c := (-8)) (d := 0) (rgn 0 (x := 0) (by decide)) (by decide)), (fun _ => (rg_w (c := 0) (d := 3) h_36 (by decide))), (fun _ => (rg_w (c := 0) (d := 3) h_36 (by decide))), (fun _ => h_23), (fun _ => (rg_w (c := 0) (d := 3) h_37 (by decide))), (fun _ => (rg_w (c := 0) (d := 3) h_37 (by decide))), (fun _ => h_30), (fun _ => h_24), trivial⟩, hp_at ht hP⟩, hS.F ht⟩) hS.2.2 dX10_paste_133
                  · refine ix_i (y := 1) s124 ?_
                    have h_38 : rg 1 1 p2 := r_eq_l_i (e := 1) (f := 1) s124 h_9 (rgn 1 (x := 1) (by decide)) (by decide)
                    refine va_aldL hx hb hK.1 hP 2 5 rfl rfl (in_lit (by decide)) dX10_paste_124 ?_
                    refine ix_r (y := .ref (rr 1)) rfl ?_
                    refine lv_iload hx hb dX10_paste_125 (lv_at hl 4 rfl) ?_
                    refine lv_iload hx hb dX10_paste_127 (lv_at hl 5 rfl) ?_
                    refine va_copyl (ty := .long) hx hb (hml.trans hl.1.symm) hown (hts (.methodLink RX10 422 arraycopyName) (by decide +kernel)) (hts (.native arraycopyName) (by decide +kernel)) (hts (.static arraycopyName) (by decide +kernel)) (hts (.initialized "java/lang/System") (by decide +kernel)) hK.1 hP hD hS 4 4 3 3 rfl rfl rfl rfl rfl (nneg h_23 (by decide)) (nneg h_30 (by decide)) (nneg h_24 (by decide)) (cp_le h_23 h_24 (by decide) (p_20 (rne h_22 (y := 0) (c := 0) (by decide) (by decide)))) (cp_le h_30 h_24 (by decide) (p_28 (rne h_29 (y := 0) (c := 0) (by decide) (by decide)))) (fun _ _ => rfl) (Nat.le_of_ble_eq_true rfl) (Nat.le_of_ble_eq_true rfl) dX10_paste_129 (fun H locs hP hD hS => ?_)
                    refine lv_iconst (v := 0) hx hb dX10_paste_132 (by decide) ?_
                    exact W.iret (v := 0) hx hb hr (fun t ht hW => ⟨⟨0, (fun k => ([] : List Int32).getD k 0, fun k => ([] : List (Nat → Int32)).getD k (fun _ => 0), fun k => ([f71, va_cpy f72 f72 p1.toNatClampNeg p3.toNatClampNeg p4.toNatClampNeg, f73, f74] : List (Nat → Int64)).getD k (fun _ => 0)), rfl, ⟨(rg_w (c := (-8)) (d := 0) (rgn 0 (x := 0) (by decide)) (by decide)), (fun _ => (rg_w (c := 0) (d := 3) h_36 (by decide))), (fun _ => (rg_w (c := 0) (d := 3) h_36 (by decide))), (fun _ => h_23), (fun _ => (rg_w (c := 0) (d := 3) h_38 (by decide))), (fun _ => (rg_w (c := 0) (d := 3) h_38 (by decide))), (fun _ => h_30), (fun _ => h_24), trivial⟩, hp_at ht hP⟩, hS.F ht⟩) hS.2.2 dX10_paste_133
                  · refine ix_i (y := 2) s124 ?_
                    have h_39 : rg 2 2 p2 := r_eq_l_i (e := 2) (f := 2) s124 h_9 (rgn 2 (x := 2) (by decide)) (by decide)
                    refine va_aldL hx hb hK.1 hP 2 5 rfl rfl (in_lit (by decide)) dX10_paste_124 ?_
                    refine ix_r (y := .ref (rr 2)) rfl ?_
                    refine lv_iload hx hb dX10_paste_125 (lv_at hl 4 rfl) ?_
                    refine lv_iload hx hb dX10_paste_127 (lv_at hl 5 rfl) ?_
                    refine va_copyl (ty := .long) hx hb (hml.trans hl.1.symm) hown (hts (.methodLink RX10 422 arraycopyName) (by decide +kernel)) (hts (.native arraycopyName) (by decide +kernel)) (hts (.static arraycopyName) (by decide +kernel)) (hts (.initialized "java/lang/System") (by decide +kernel)) hK.1 hP hD hS 4 5 3 3 rfl rfl rfl rfl rfl (nneg h_23 (by decide)) (nneg h_30 (by decide)) (nneg h_24 (by decide)) (cp_le h_23 h_24 (by decide) (p_20 (rne h_22 (y := 0) (c := 0) (by decide) (by decide)))) (cp_le h_30 h_24 (by decide) (p_28 (rne h_29 (y := 0) (c := 0) (by decide) (by decide)))) (fun _ _ => rfl) (Nat.le_of_ble_eq_true rfl) (Nat.le_of_ble_eq_true rfl) dX10_paste_129 (fun H locs hP hD hS => ?_)
                    refine lv_iconst (v := 0) hx hb dX10_paste_132 (by decide) ?_
                    exact W.iret (v := 0) hx hb hr (fun t ht hW => ⟨⟨0, (fun k => ([] : List Int32).getD k 0, fun k => ([] : List (Nat → Int32)).getD k (fun _ => 0), fun k => ([f71, f72, va_cpy f72 f73 p1.toNatClampNeg p3.toNatClampNeg p4.toNatClampNeg, f74] : List (Nat → Int64)).getD k (fun _ => 0)), rfl, ⟨(rg_w (c := (-8)) (d := 0) (rgn 0 (x := 0) (by decide)) (by decide)), (fun _ => (rg_w (c := 0) (d := 3) h_36 (by decide))), (fun _ => (rg_w (c := 0) (d := 3) h_36 (by decide))), (fun _ => h_23), (fun _ => (rg_w (c := 0) (d := 3) h_39 (by decide))), (fun _ => (rg_w (c := 0) (d := 3) h_39 (by decide))), (fun _ => h_30), (fun _ => h_24), trivial⟩, hp_at ht hP⟩, hS.F ht⟩) hS.2.2 dX10_paste_133
                  · refine ix_i (y := 3) s124 ?_
                    have h_40 : rg 3 3 p2 := r_eq_l_i (e := 3) (f := 3) s124 h_9 (rgn 3 (x := 3) (by decide)) (by decide)
                    refine va_aldL hx hb hK.1 hP 2 5 rfl rfl (in_lit (by decide)) dX10_paste_124 ?_
                    refine ix_r (y := .ref (rr 3)) rfl ?_
                    refine lv_iload hx hb dX10_paste_125 (lv_at hl 4 rfl) ?_
                    refine lv_iload hx hb dX10_paste_127 (lv_at hl 5 rfl) ?_
                    refine va_copyl (ty := .long) hx hb (hml.trans hl.1.symm) hown (hts (.methodLink RX10 422 arraycopyName) (by decide +kernel)) (hts (.native arraycopyName) (by decide +kernel)) (hts (.static arraycopyName) (by decide +kernel)) (hts (.initialized "java/lang/System") (by decide +kernel)) hK.1 hP hD hS 4 6 3 3 rfl rfl rfl rfl rfl (nneg h_23 (by decide)) (nneg h_30 (by decide)) (nneg h_24 (by decide)) (cp_le h_23 h_24 (by decide) (p_20 (rne h_22 (y := 0) (c := 0) (by decide) (by decide)))) (cp_le h_30 h_24 (by decide) (p_28 (rne h_29 (y := 0) (c := 0) (by decide) (by decide)))) (fun _ _ => rfl) (Nat.le_of_ble_eq_true rfl) (Nat.le_of_ble_eq_true rfl) dX10_paste_129 (fun H locs hP hD hS => ?_)
                    refine lv_iconst (v := 0) hx hb dX10_paste_132 (by decide) ?_
                    exact W.iret (v := 0) hx hb hr (fun t ht hW => ⟨⟨0, (fun k => ([] : List Int32).getD k 0, fun k => ([] : List (Nat → Int32)).getD k (fun _ => 0), fun k => ([f71, f72, f73, va_cpy f72 f74 p1.toNatClampNeg p3.toNatClampNeg p4.toNatClampNeg] : List (Nat → Int64)).getD k (fun _ => 0)), rfl, ⟨(rg_w (c := (-8)) (d := 0) (rgn 0 (x := 0) (by decide)) (by decide)), (fun _ => (rg_w (c := 0) (d := 3) h_36 (by decide))), (fun _ => (rg_w (c := 0) (d := 3) h_36 (by decide))), (fun _ => h_23), (fun _ => (rg_w (c := 0) (d := 3) h_40 (by decide))), (fun _ => (rg_w (c := 0) (d := 3) h_40 (by decide))), (fun _ => h_30), (fun _ => h_24), trivial⟩, hp_at ht hP⟩, hS.F ht⟩) hS.2.2 dX10_paste_133
                · refine ix_i (y := 2) s114 ?_
                  have h_41 : rg 2 2 p0 := r_eq_l_i (e := 2) (f := 2) s114 h_5 (rgn 2 (x := 2) (by decide)) (by decide)
                  refine va_aldL hx hb hK.1 hP 2 5 rfl rfl (in_lit (by decide)) dX10_paste_114 ?_
                  refine ix_r (y := .ref (rr 2)) rfl ?_
                  refine lv_iload_n hx hb dX10_paste_115 rfl (lv_at hl 2 rfl) ?_
                  refine lv_aload_n hx hb dX10_paste_116 rfl (lv_at hl 0 rfl) ?_
                  refine va_get (D := G) (ci := 10) (v := .ref a69) (C := RX10) (T := TX10) (N := 11) hx hb hts (by decide +kernel) hown hK.1 hP 0 rfl rfl 5 (by decide) (hts (.fieldLink RX10 43 "CardHolder" "rows" "LCardHolder$Rows;") (by decide +kernel)) (fun _ h9 => h9) rfl dX10_paste_117 ?_
                  refine va_get (D := G) (ci := 6) (v := .ref a70) (C := RX6) (T := TX6) (N := 4) hx hb hts (by decide +kernel) hown hK.1 hP 1 rfl rfl 0 (by decide) (hts (.fieldLink RX10 418 "CardHolder$Rows" "numbers" "[[J") (by decide +kernel)) (fun _ h9 => h9) rfl dX10_paste_120 ?_
                  refine lv_iload_n hx hb dX10_paste_123 rfl (lv_at hl 3 rfl) ?_
                  rcases (sp4 h_9.1 (by have := h_9.2; omega)) with s124 | s124 | s124 | s124
                  · refine ix_i (y := 0) s124 ?_
                    have h_42 : rg 0 0 p2 := r_eq_l_i (e := 0) (f := 0) s124 h_9 (rgn 0 (x := 0) (by decide)) (by decide)
                    refine va_aldL hx hb hK.1 hP 2 5 rfl rfl (in_lit (by decide)) dX10_paste_124 ?_
                    refine ix_r (y := .ref (rr 0)) rfl ?_
                    refine lv_iload hx hb dX10_paste_125 (lv_at hl 4 rfl) ?_
                    refine lv_iload hx hb dX10_paste_127 (lv_at hl 5 rfl) ?_
                    refine va_copyl (ty := .long) hx hb (hml.trans hl.1.symm) hown (hts (.methodLink RX10 422 arraycopyName) (by decide +kernel)) (hts (.native arraycopyName) (by decide +kernel)) (hts (.static arraycopyName) (by decide +kernel)) (hts (.initialized "java/lang/System") (by decide +kernel)) hK.1 hP hD hS 5 3 3 3 rfl rfl rfl rfl rfl (nneg h_23 (by decide)) (nneg h_30 (by decide)) (nneg h_24 (by decide)) (cp_le h_23 h_24 (by decide) (p_20 (rne h_22 (y := 0) (c := 0) (by decide) (by decide)))) (cp_le h_30 h_24 (by decide) (p_28 (rne h_29 (y := 0) (c := 0) (by decide) (by decide)))) (fun _ _ => rfl) (Nat.le_of_ble_eq_true rfl) (Nat.le_of_ble_eq_true rfl) dX10_paste_129 (fun H locs hP hD hS => ?_)
                    refine lv_iconst (v := 0) hx hb dX10_paste_132 (by decide) ?_
                    exact W.iret (v := 0) hx hb hr (fun t ht hW => ⟨⟨0, (fun k => ([] : List Int32).getD k 0, fun k => ([] : List (Nat → Int32)).getD k (fun _ => 0), fun k => ([va_cpy f73 f71 p1.toNatClampNeg p3.toNatClampNeg p4.toNatClampNeg, f72, f73, f74] : List (Nat → Int64)).getD k (fun _ => 0)), rfl, ⟨(rg_w (c := (-8)) (d := 0) (rgn 0 (x := 0) (by decide)) (by decide)), (fun _ => (rg_w (c := 0) (d := 3) h_41 (by decide))), (fun _ => (rg_w (c := 0) (d := 3) h_41 (by decide))), (fun _ => h_23), (fun _ => (rg_w (c := 0) (d := 3) h_42 (by decide))), (fun _ => (rg_w (c := 0) (d := 3) h_42 (by decide))), (fun _ => h_30), (fun _ => h_24), trivial⟩, hp_at ht hP⟩, hS.F ht⟩) hS.2.2 dX10_paste_133
                  · refine ix_i (y := 1) s124 ?_
                    have h_43 : rg 1 1 p2 := r_eq_l_i (e := 1) (f := 1) s124 h_9 (rgn 1 (x := 1) (by decide)) (by decide)
                    refine va_aldL hx hb hK.1 hP 2 5 rfl rfl (in_lit (by decide)) dX10_paste_124 ?_
                    refine ix_r (y := .ref (rr 1)) rfl ?_
                    refine lv_iload hx hb dX10_paste_125 (lv_at hl 4 rfl) ?_
                    refine lv_iload hx hb dX10_paste_127 (lv_at hl 5 rfl) ?_
                    refine va_copyl (ty := .long) hx hb (hml.trans hl.1.symm) hown (hts (.methodLink RX10 422 arraycopyName) (by decide +kernel)) (hts (.native arraycopyName) (by decide +kernel)) (hts (.static arraycopyName) (by decide +kernel)) (hts (.initialized "java/lang/System") (by decide +kernel)) hK.1 hP hD hS 5 4 3 3 rfl rfl rfl rfl rfl (nneg h_23 (by decide)) (nneg h_30 (by decide)) (nneg h_24 (by decide)) (cp_le h_23 h_24 (by decide) (p_20 (rne h_22 (y := 0) (c := 0) (by decide) (by decide)))) (cp_le h_30 h_24 (by decide) (p_28 (rne h_29 (y := 0) (c := 0) (by decide) (by decide)))) (fun _ _ => rfl) (Nat.le_of_ble_eq_true rfl) (Nat.le_of_ble_eq_true rfl) dX10_paste_129 (fun H locs hP hD hS => ?_)
                    refine lv_iconst (v := 0) hx hb dX10_paste_132 (by decide) ?_
                    exact W.iret (v := 0) hx hb hr (fun t ht hW => ⟨⟨0, (fun k => ([] : List Int32).getD k 0, fun k => ([] : List (Nat → Int32)).getD k (fun _ => 0), fun k => ([f71, va_cpy f73 f72 p1.toNatClampNeg p3.toNatClampNeg p4.toNatClampNeg, f73, f74] : List (Nat → Int64)).getD k (fun _ => 0)), rfl, ⟨(rg_w (c := (-8)) (d := 0) (rgn 0 (x := 0) (by decide)) (by decide)), (fun _ => (rg_w (c := 0) (d := 3) h_41 (by decide))), (fun _ => (rg_w (c := 0) (d := 3) h_41 (by decide))), (fun _ => h_23), (fun _ => (rg_w (c := 0) (d := 3) h_43 (by decide))), (fun _ => (rg_w (c := 0) (d := 3) h_43 (by decide))), (fun _ => h_30), (fun _ => h_24), trivial⟩, hp_at ht hP⟩, hS.F ht⟩) hS.2.2 dX10_paste_133
                  · refine ix_i (y := 2) s124 ?_
                    have h_44 : rg 2 2 p2 := r_eq_l_i (e := 2) (f := 2) s124 h_9 (rgn 2 (x := 2) (by decide)) (by decide)
                    refine va_aldL hx hb hK.1 hP 2 5 rfl rfl (in_lit (by decide)) dX10_paste_124 ?_
                    refine ix_r (y := .ref (rr 2)) rfl ?_
                    refine lv_iload hx hb dX10_paste_125 (lv_at hl 4 rfl) ?_
                    refine lv_iload hx hb dX10_paste_127 (lv_at hl 5 rfl) ?_
                    refine va_copyl (ty := .long) hx hb (hml.trans hl.1.symm) hown (hts (.methodLink RX10 422 arraycopyName) (by decide +kernel)) (hts (.native arraycopyName) (by decide +kernel)) (hts (.static arraycopyName) (by decide +kernel)) (hts (.initialized "java/lang/System") (by decide +kernel)) hK.1 hP hD hS 5 5 3 3 rfl rfl rfl rfl rfl (nneg h_23 (by decide)) (nneg h_30 (by decide)) (nneg h_24 (by decide)) (cp_le h_23 h_24 (by decide) (p_20 (rne h_22 (y := 0) (c := 0) (by decide) (by decide)))) (cp_le h_30 h_24 (by decide) (p_28 (rne h_29 (y := 0) (c := 0) (by decide) (by decide)))) (fun _ _ => rfl) (Nat.le_of_ble_eq_true rfl) (Nat.le_of_ble_eq_true rfl) dX10_paste_129 (fun H locs hP hD hS => ?_)
                    refine lv_iconst (v := 0) hx hb dX10_paste_132 (by decide) ?_
                    exact W.iret (v := 0) hx hb hr (fun t ht hW => ⟨⟨0, (fun k => ([] : List Int32).getD k 0, fun k => ([] : List (Nat → Int32)).getD k (fun _ => 0), fun k => ([f71, f72, va_cpy f73 f73 p1.toNatClampNeg p3.toNatClampNeg p4.toNatClampNeg, f74] : List (Nat → Int64)).getD k (fun _ => 0)), rfl, ⟨(rg_w (c := (-8)) (d := 0) (rgn 0 (x := 0) (by decide)) (by decide)), (fun _ => (rg_w (c := 0) (d := 3) h_41 (by decide))), (fun _ => (rg_w (c := 0) (d := 3) h_41 (by decide))), (fun _ => h_23), (fun _ => (rg_w (c := 0) (d := 3) h_44 (by decide))), (fun _ => (rg_w (c := 0) (d := 3) h_44 (by decide))), (fun _ => h_30), (fun _ => h_24), trivial⟩, hp_at ht hP⟩, hS.F ht⟩) hS.2.2 dX10_paste_133
                  · refine ix_i (y := 3) s124 ?_
                    have h_45 : rg 3 3 p2 := r_eq_l_i (e := 3) (f := 3) s124 h_9 (rgn 3 (x := 3) (by decide)) (by decide)
                    refine va_aldL hx hb hK.1 hP 2 5 rfl rfl (in_lit (by decide)) dX10_paste_124 ?_
                    refine ix_r (y := .ref (rr 3)) rfl ?_
                    refine lv_iload hx hb dX10_paste_125 (lv_at hl 4 rfl) ?_
                    refine lv_iload hx hb dX10_paste_127 (lv_at hl 5 rfl) ?_
                    refine va_copyl (ty := .long) hx hb (hml.trans hl.1.symm) hown (hts (.methodLink RX10 422 arraycopyName) (by decide +kernel)) (hts (.native arraycopyName) (by decide +kernel)) (hts (.static arraycopyName) (by decide +kernel)) (hts (.initialized "java/lang/System") (by decide +kernel)) hK.1 hP hD hS 5 6 3 3 rfl rfl rfl rfl rfl (nneg h_23 (by decide)) (nneg h_30 (by decide)) (nneg h_24 (by decide)) (cp_le h_23 h_24 (by decide) (p_20 (rne h_22 (y := 0) (c := 0) (by decide) (by decide)))) (cp_le h_30 h_24 (by decide) (p_28 (rne h_29 (y := 0) (c := 0) (by decide) (by decide)))) (fun _ _ => rfl) (Nat.le_of_ble_eq_true rfl) (Nat.le_of_ble_eq_true rfl) dX10_paste_129 (fun H locs hP hD hS => ?_)
                    refine lv_iconst (v := 0) hx hb dX10_paste_132 (by decide) ?_
                    exact W.iret (v := 0) hx hb hr (fun t ht hW => ⟨⟨0, (fun k => ([] : List Int32).getD k 0, fun k => ([] : List (Nat → Int32)).getD k (fun _ => 0), fun k => ([f71, f72, f73, va_cpy f73 f74 p1.toNatClampNeg p3.toNatClampNeg p4.toNatClampNeg] : List (Nat → Int64)).getD k (fun _ => 0)), rfl, ⟨(rg_w (c := (-8)) (d := 0) (rgn 0 (x := 0) (by decide)) (by decide)), (fun _ => (rg_w (c := 0) (d := 3) h_41 (by decide))), (fun _ => (rg_w (c := 0) (d := 3) h_41 (by decide))), (fun _ => h_23), (fun _ => (rg_w (c := 0) (d := 3) h_45 (by decide))), (fun _ => (rg_w (c := 0) (d := 3) h_45 (by decide))), (fun _ => h_30), (fun _ => h_24), trivial⟩, hp_at ht hP⟩, hS.F ht⟩) hS.2.2 dX10_paste_133
                · refine ix_i (y := 3) s114 ?_
                  have h_46 : rg 3 3 p0 := r_eq_l_i (e := 3) (f := 3) s114 h_5 (rgn 3 (x := 3) (by decide)) (by decide)
                  refine va_aldL hx hb hK.1 hP 2 5 rfl rfl (in_lit (by decide)) dX10_paste_114 ?_
                  refine ix_r (y := .ref (rr 3)) rfl ?_
                  refine lv_iload_n hx hb dX10_paste_115 rfl (lv_at hl 2 rfl) ?_
                  refine lv_aload_n hx hb dX10_paste_116 rfl (lv_at hl 0 rfl) ?_
                  refine va_get (D := G) (ci := 10) (v := .ref a69) (C := RX10) (T := TX10) (N := 11) hx hb hts (by decide +kernel) hown hK.1 hP 0 rfl rfl 5 (by decide) (hts (.fieldLink RX10 43 "CardHolder" "rows" "LCardHolder$Rows;") (by decide +kernel)) (fun _ h9 => h9) rfl dX10_paste_117 ?_
                  refine va_get (D := G) (ci := 6) (v := .ref a70) (C := RX6) (T := TX6) (N := 4) hx hb hts (by decide +kernel) hown hK.1 hP 1 rfl rfl 0 (by decide) (hts (.fieldLink RX10 418 "CardHolder$Rows" "numbers" "[[J") (by decide +kernel)) (fun _ h9 => h9) rfl dX10_paste_120 ?_
                  refine lv_iload_n hx hb dX10_paste_123 rfl (lv_at hl 3 rfl) ?_
                  rcases (sp4 h_9.1 (by have := h_9.2; omega)) with s124 | s124 | s124 | s124
                  · refine ix_i (y := 0) s124 ?_
                    have h_47 : rg 0 0 p2 := r_eq_l_i (e := 0) (f := 0) s124 h_9 (rgn 0 (x := 0) (by decide)) (by decide)
                    refine va_aldL hx hb hK.1 hP 2 5 rfl rfl (in_lit (by decide)) dX10_paste_124 ?_
                    refine ix_r (y := .ref (rr 0)) rfl ?_
                    refine lv_iload hx hb dX10_paste_125 (lv_at hl 4 rfl) ?_
                    refine lv_iload hx hb dX10_paste_127 (lv_at hl 5 rfl) ?_
                    refine va_copyl (ty := .long) hx hb (hml.trans hl.1.symm) hown (hts (.methodLink RX10 422 arraycopyName) (by decide +kernel)) (hts (.native arraycopyName) (by decide +kernel)) (hts (.static arraycopyName) (by decide +kernel)) (hts (.initialized "java/lang/System") (by decide +kernel)) hK.1 hP hD hS 6 3 3 3 rfl rfl rfl rfl rfl (nneg h_23 (by decide)) (nneg h_30 (by decide)) (nneg h_24 (by decide)) (cp_le h_23 h_24 (by decide) (p_20 (rne h_22 (y := 0) (c := 0) (by decide) (by decide)))) (cp_le h_30 h_24 (by decide) (p_28 (rne h_29 (y := 0) (c := 0) (by decide) (by decide)))) (fun _ _ => rfl) (Nat.le_of_ble_eq_true rfl) (Nat.le_of_ble_eq_true rfl) dX10_paste_129 (fun H locs hP hD hS => ?_)
                    refine lv_iconst (v := 0) hx hb dX10_paste_132 (by decide) ?_
                    exact W.iret (v := 0) hx hb hr (fun t ht hW => ⟨⟨0, (fun k => ([] : List Int32).getD k 0, fun k => ([] : List (Nat → Int32)).getD k (fun _ => 0), fun k => ([va_cpy f74 f71 p1.toNatClampNeg p3.toNatClampNeg p4.toNatClampNeg, f72, f73, f74] : List (Nat → Int64)).getD k (fun _ => 0)), rfl, ⟨(rg_w (c := (-8)) (d := 0) (rgn 0 (x := 0) (by decide)) (by decide)), (fun _ => (rg_w (c := 0) (d := 3) h_46 (by decide))), (fun _ => (rg_w (c := 0) (d := 3) h_46 (by decide))), (fun _ => h_23), (fun _ => (rg_w (c := 0) (d := 3) h_47 (by decide))), (fun _ => (rg_w (c := 0) (d := 3) h_47 (by decide))), (fun _ => h_30), (fun _ => h_24), trivial⟩, hp_at ht hP⟩, hS.F ht⟩) hS.2.2 dX10_paste_133
                  · refine ix_i (y := 1) s124 ?_
                    have h_48 : rg 1 1 p2 := r_eq_l_i (e := 1) (f := 1) s124 h_9 (rgn 1 (x := 1) (by decide)) (by decide)
                    refine va_aldL hx hb hK.1 hP 2 5 rfl rfl (in_lit (by decide)) dX10_paste_124 ?_
                    refine ix_r (y := .ref (rr 1)) rfl ?_
                    refine lv_iload hx hb dX10_paste_125 (lv_at hl 4 rfl) ?_
                    refine lv_iload hx hb dX10_paste_127 (lv_at hl 5 rfl) ?_
                    refine va_copyl (ty := .long) hx hb (hml.trans hl.1.symm) hown (hts (.methodLink RX10 422 arraycopyName) (by decide +kernel)) (hts (.native arraycopyName) (by decide +kernel)) (hts (.static arraycopyName) (by decide +kernel)) (hts (.initialized "java/lang/System") (by decide +kernel)) hK.1 hP hD hS 6 4 3 3 rfl rfl rfl rfl rfl (nneg h_23 (by decide)) (nneg h_30 (by decide)) (nneg h_24 (by decide)) (cp_le h_23 h_24 (by decide) (p_20 (rne h_22 (y := 0) (c := 0) (by decide) (by decide)))) (cp_le h_30 h_24 (by decide) (p_28 (rne h_29 (y := 0) (c := 0) (by decide) (by decide)))) (fun _ _ => rfl) (Nat.le_of_ble_eq_true rfl) (Nat.le_of_ble_eq_true rfl) dX10_paste_129 (fun H locs hP hD hS => ?_)
                    refine lv_iconst (v := 0) hx hb dX10_paste_132 (by decide) ?_
                    exact W.iret (v := 0) hx hb hr (fun t ht hW => ⟨⟨0, (fun k => ([] : List Int32).getD k 0, fun k => ([] : List (Nat → Int32)).getD k (fun _ => 0), fun k => ([f71, va_cpy f74 f72 p1.toNatClampNeg p3.toNatClampNeg p4.toNatClampNeg, f73, f74] : List (Nat → Int64)).getD k (fun _ => 0)), rfl, ⟨(rg_w (c := (-8)) (d := 0) (rgn 0 (x := 0) (by decide)) (by decide)), (fun _ => (rg_w (c := 0) (d := 3) h_46 (by decide))), (fun _ => (rg_w (c := 0) (d := 3) h_46 (by decide))), (fun _ => h_23), (fun _ => (rg_w (c := 0) (d := 3) h_48 (by decide))), (fun _ => (rg_w (c := 0) (d := 3) h_48 (by decide))), (fun _ => h_30), (fun _ => h_24), trivial⟩, hp_at ht hP⟩, hS.F ht⟩) hS.2.2 dX10_paste_133
                  · refine ix_i (y := 2) s124 ?_
                    have h_49 : rg 2 2 p2 := r_eq_l_i (e := 2) (f := 2) s124 h_9 (rgn 2 (x := 2) (by decide)) (by decide)
                    refine va_aldL hx hb hK.1 hP 2 5 rfl rfl (in_lit (by decide)) dX10_paste_124 ?_
                    refine ix_r (y := .ref (rr 2)) rfl ?_
                    refine lv_iload hx hb dX10_paste_125 (lv_at hl 4 rfl) ?_
                    refine lv_iload hx hb dX10_paste_127 (lv_at hl 5 rfl) ?_
                    refine va_copyl (ty := .long) hx hb (hml.trans hl.1.symm) hown (hts (.methodLink RX10 422 arraycopyName) (by decide +kernel)) (hts (.native arraycopyName) (by decide +kernel)) (hts (.static arraycopyName) (by decide +kernel)) (hts (.initialized "java/lang/System") (by decide +kernel)) hK.1 hP hD hS 6 5 3 3 rfl rfl rfl rfl rfl (nneg h_23 (by decide)) (nneg h_30 (by decide)) (nneg h_24 (by decide)) (cp_le h_23 h_24 (by decide) (p_20 (rne h_22 (y := 0) (c := 0) (by decide) (by decide)))) (cp_le h_30 h_24 (by decide) (p_28 (rne h_29 (y := 0) (c := 0) (by decide) (by decide)))) (fun _ _ => rfl) (Nat.le_of_ble_eq_true rfl) (Nat.le_of_ble_eq_true rfl) dX10_paste_129 (fun H locs hP hD hS => ?_)
                    refine lv_iconst (v := 0) hx hb dX10_paste_132 (by decide) ?_
                    exact W.iret (v := 0) hx hb hr (fun t ht hW => ⟨⟨0, (fun k => ([] : List Int32).getD k 0, fun k => ([] : List (Nat → Int32)).getD k (fun _ => 0), fun k => ([f71, f72, va_cpy f74 f73 p1.toNatClampNeg p3.toNatClampNeg p4.toNatClampNeg, f74] : List (Nat → Int64)).getD k (fun _ => 0)), rfl, ⟨(rg_w (c := (-8)) (d := 0) (rgn 0 (x := 0) (by decide)) (by decide)), (fun _ => (rg_w (c := 0) (d := 3) h_46 (by decide))), (fun _ => (rg_w (c := 0) (d := 3) h_46 (by decide))), (fun _ => h_23), (fun _ => (rg_w (c := 0) (d := 3) h_49 (by decide))), (fun _ => (rg_w (c := 0) (d := 3) h_49 (by decide))), (fun _ => h_30), (fun _ => h_24), trivial⟩, hp_at ht hP⟩, hS.F ht⟩) hS.2.2 dX10_paste_133
                  · refine ix_i (y := 3) s124 ?_
                    have h_50 : rg 3 3 p2 := r_eq_l_i (e := 3) (f := 3) s124 h_9 (rgn 3 (x := 3) (by decide)) (by decide)
                    refine va_aldL hx hb hK.1 hP 2 5 rfl rfl (in_lit (by decide)) dX10_paste_124 ?_
                    refine ix_r (y := .ref (rr 3)) rfl ?_
                    refine lv_iload hx hb dX10_paste_125 (lv_at hl 4 rfl) ?_
                    refine lv_iload hx hb dX10_paste_127 (lv_at hl 5 rfl) ?_
                    refine va_copyl (ty := .long) hx hb (hml.trans hl.1.symm) hown (hts (.methodLink RX10 422 arraycopyName) (by decide +kernel)) (hts (.native arraycopyName) (by decide +kernel)) (hts (.static arraycopyName) (by decide +kernel)) (hts (.initialized "java/lang/System") (by decide +kernel)) hK.1 hP hD hS 6 6 3 3 rfl rfl rfl rfl rfl (nneg h_23 (by decide)) (nneg h_30 (by decide)) (nneg h_24 (by decide)) (cp_le h_23 h_24 (by decide) (p_20 (rne h_22 (y := 0) (c := 0) (by decide) (by decide)))) (cp_le h_30 h_24 (by decide) (p_28 (rne h_29 (y := 0) (c := 0) (by decide) (by decide)))) (fun _ _ => rfl) (Nat.le_of_ble_eq_true rfl) (Nat.le_of_ble_eq_true rfl) dX10_paste_129 (fun H locs hP hD hS => ?_)
                    refine lv_iconst (v := 0) hx hb dX10_paste_132 (by decide) ?_
                    exact W.iret (v := 0) hx hb hr (fun t ht hW => ⟨⟨0, (fun k => ([] : List Int32).getD k 0, fun k => ([] : List (Nat → Int32)).getD k (fun _ => 0), fun k => ([f71, f72, f73, va_cpy f74 f74 p1.toNatClampNeg p3.toNatClampNeg p4.toNatClampNeg] : List (Nat → Int64)).getD k (fun _ => 0)), rfl, ⟨(rg_w (c := (-8)) (d := 0) (rgn 0 (x := 0) (by decide)) (by decide)), (fun _ => (rg_w (c := 0) (d := 3) h_46 (by decide))), (fun _ => (rg_w (c := 0) (d := 3) h_46 (by decide))), (fun _ => h_23), (fun _ => (rg_w (c := 0) (d := 3) h_50 (by decide))), (fun _ => (rg_w (c := 0) (d := 3) h_50 (by decide))), (fun _ => h_30), (fun _ => h_24), trivial⟩, hp_at ht hP⟩, hS.F ht⟩) hS.2.2 dX10_paste_133
              · have h_51 : rg 0 0 r97 := r_eq_l_i (e := 0) (f := 0) c100 p_25 (rgn 0 (x := 0) (by decide)) (by decide)
                refine lv_bipush (v := (-7)) hx hb dX10_paste_103 (by decide) ?_
                exact W.iret (v := (-7)) hx hb hr (fun t ht hW => ⟨⟨(-7), (fun k => ([] : List Int32).getD k 0, fun k => ([] : List (Nat → Int32)).getD k (fun _ => 0), fun k => ([f71, f72, f73, f74] : List (Nat → Int64)).getD k (fun _ => 0)), rfl, ⟨(rg_w (c := (-8)) (d := 0) (rgn (-7) (x := (-7)) (by decide)) (by decide)), (fun _ => h_5), (fun _ => h_5), (fun _ => h_23), (fun _ => h_9), (fun _ => h_9), (fun hq => absurd hq (rne (rgn (-7) (x := (-7)) (by decide)) (y := 0) (c := 0) (by decide) (by decide))), (fun _ => h_24), trivial⟩, hp_at ht hP⟩, hS.F ht⟩) hS.2.2 dX10_paste_105
          · refine lv_bipush (v := (-8)) hx hb dX10_paste_71 (by decide) ?_
            exact W.iret (v := (-8)) hx hb hr (fun t ht hW => ⟨⟨(-8), (fun k => ([] : List Int32).getD k 0, fun k => ([] : List (Nat → Int32)).getD k (fun _ => 0), fun k => ([f71, f72, f73, f74] : List (Nat → Int64)).getD k (fun _ => 0)), rfl, ⟨(rg_w (c := (-8)) (d := 0) (rgn (-8) (x := (-8)) (by decide)) (by decide)), (fun _ => h_5), (fun _ => h_5), (fun hq => absurd hq (rne (rgn (-8) (x := (-8)) (by decide)) (y := 0) (c := 0) (by decide) (by decide))), (fun _ => h_9), (fun _ => h_9), (fun hq => absurd hq (rne (rgn (-8) (x := (-8)) (by decide)) (y := 0) (c := 0) (by decide) (by decide))), (fun hq => absurd hq (rne (rgn (-8) (x := (-8)) (by decide)) (y := 0) (c := 0) (by decide) (by decide))), trivial⟩, hp_at ht hP⟩, hS.F ht⟩) hS.2.2 dX10_paste_73
        · have h_52 : rg 0 0 r41 := r_eq_l_i (e := 0) (f := 0) c44 p_14 (rgn 0 (x := 0) (by decide)) (by decide)
          refine lv_bipush (v := (-6)) hx hb dX10_paste_47 (by decide) ?_
          exact W.iret (v := (-6)) hx hb hr (fun t ht hW => ⟨⟨(-6), (fun k => ([] : List Int32).getD k 0, fun k => ([] : List (Nat → Int32)).getD k (fun _ => 0), fun k => ([f71, f72, f73, f74] : List (Nat → Int64)).getD k (fun _ => 0)), rfl, ⟨(rg_w (c := (-8)) (d := 0) (rgn (-6) (x := (-6)) (by decide)) (by decide)), (fun _ => h_5), (fun _ => h_5), (fun hq => absurd hq (rne (rgn (-6) (x := (-6)) (by decide)) (y := 0) (c := 0) (by decide) (by decide))), (fun _ => h_9), (fun _ => h_9), (fun hq => absurd hq (rne (rgn (-6) (x := (-6)) (by decide)) (y := 0) (c := 0) (by decide) (by decide))), (fun hq => absurd hq (rne (rgn (-6) (x := (-6)) (by decide)) (y := 0) (c := 0) (by decide) (by decide))), trivial⟩, hp_at ht hP⟩, hS.F ht⟩) hS.2.2 dX10_paste_49
    · have h_53 : rg 0 0 r16 := r_eq_l_i (e := 0) (f := 0) c19 p_6 (rgn 0 (x := 0) (by decide)) (by decide)
      refine lv_bipush (v := (-2)) hx hb dX10_paste_22 (by decide) ?_
      exact W.iret (v := (-2)) hx hb hr (fun t ht hW => ⟨⟨(-2), (fun k => ([] : List Int32).getD k 0, fun k => ([] : List (Nat → Int32)).getD k (fun _ => 0), fun k => ([f71, f72, f73, f74] : List (Nat → Int64)).getD k (fun _ => 0)), rfl, ⟨(rg_w (c := (-8)) (d := 0) (rgn (-2) (x := (-2)) (by decide)) (by decide)), (fun _ => h_5), (fun _ => h_5), (fun hq => absurd hq (rne (rgn (-2) (x := (-2)) (by decide)) (y := 0) (c := 0) (by decide) (by decide))), (fun hq => absurd hq (rne (rgn (-2) (x := (-2)) (by decide)) (y := 0) (c := 0) (by decide) (by decide))), (fun hq => absurd (req (rgn (-2) (x := (-2)) (by decide)) (y := (-2)) (by decide)) hq), (fun hq => absurd hq (rne (rgn (-2) (x := (-2)) (by decide)) (y := 0) (c := 0) (by decide) (by decide))), (fun hq => absurd hq (rne (rgn (-2) (x := (-2)) (by decide)) (y := 0) (c := 0) (by decide) (by decide))), trivial⟩, hp_at ht hP⟩, hS.F ht⟩) hS.2.2 dX10_paste_24
