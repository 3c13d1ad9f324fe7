theorem dX10_bonds_0 : decode cX10_bonds 0 = .ok (.aload_n 0, 1) := by decide +kernel
theorem dX10_bonds_1 : decode cX10_bonds 1 = .ok (.getfield 28, 3) := by decide +kernel
theorem dX10_bonds_4 : decode cX10_bonds 4 = .ok (.getfield 147, 3) := by decide +kernel
theorem dX10_bonds_7 : decode cX10_bonds 7 = .ok (.getfield 366, 3) := by decide +kernel
theorem dX10_bonds_10 : decode cX10_bonds 10 = .ok (.areturn, 1) := by decide +kernel
theorem dX10_hasCity_0 : decode cX10_hasCity 0 = .ok (.aload_n 0, 1) := by decide +kernel
theorem dX10_hasCity_1 : decode cX10_hasCity 1 = .ok (.getfield 28, 3) := by decide +kernel
theorem dX10_hasCity_4 : decode cX10_hasCity 4 = .ok (.getfield 49, 3) := by decide +kernel
theorem dX10_hasCity_7 : decode cX10_hasCity 7 = .ok (.getfield 113, 3) := by decide +kernel
theorem dX10_hasCity_10 : decode cX10_hasCity 10 = .ok (.ifCond .le 7, 3) := by decide +kernel
theorem dX10_hasCity_17 : decode cX10_hasCity 17 = .ok (.iconst 0, 1) := by decide +kernel
theorem dX10_hasCity_18 : decode cX10_hasCity 18 = .ok (.ireturn, 1) := by decide +kernel
theorem dX10_hasCity_13 : decode cX10_hasCity 13 = .ok (.iconst 1, 1) := by decide +kernel
theorem dX10_hasCity_14 : decode cX10_hasCity 14 = .ok (.goto 4, 3) := by decide +kernel
theorem dX10_isPerson_0 : decode cX10_isPerson 0 = .ok (.aload_n 0, 1) := by decide +kernel
theorem dX10_isPerson_1 : decode cX10_isPerson 1 = .ok (.getfield 28, 3) := by decide +kernel
theorem dX10_isPerson_4 : decode cX10_isPerson 4 = .ok (.getfield 147, 3) := by decide +kernel
theorem dX10_isPerson_7 : decode cX10_isPerson 7 = .ok (.getfield 366, 3) := by decide +kernel
theorem dX10_isPerson_10 : decode cX10_isPerson 10 = .ok (.iload_n 1, 1) := by decide +kernel
set_option maxRecDepth 20000 in
theorem ggX10_isPerson_X0_has : GoodIn wsX10_isPerson wsX0_has := goodIn_r _ [8, 9, 33, 34] (by rfl) (by decide +kernel)
set_option maxRecDepth 20000 in
theorem gX10_isPerson_X0_has : GoodIn wsX10_isPerson (wsV RX10 428 RX0 yX0_has wsX0_has) := goodIn_app (goodIn_r _ [4, 5, 6, 7] (by rfl) (by decide +kernel)) ggX10_isPerson_X0_has
theorem dX10_isPerson_11 : decode cX10_isPerson 11 = .ok (.invokevirtual 428, 3) := by decide +kernel
theorem dX10_isPerson_14 : decode cX10_isPerson 14 = .ok (.ireturn, 1) := by decide +kernel
theorem dX10_isPersonSet_0 : decode cX10_isPersonSet 0 = .ok (.iload_n 1, 1) := by decide +kernel
theorem dX10_isPersonSet_1 : decode cX10_isPersonSet 1 = .ok (.ifCond .lt 18, 3) := by decide +kernel
theorem dX10_isPersonSet_19 : decode cX10_isPersonSet 19 = .ok (.iconst 0, 1) := by decide +kernel
theorem dX10_isPersonSet_20 : decode cX10_isPersonSet 20 = .ok (.ireturn, 1) := by decide +kernel
theorem dX10_isPersonSet_4 : decode cX10_isPersonSet 4 = .ok (.iload_n 1, 1) := by decide +kernel
theorem dX10_isPersonSet_5 : decode cX10_isPersonSet 5 = .ok (.aload_n 0, 1) := by decide +kernel
set_option maxRecDepth 20000 in
theorem ggX10_isPersonSet_X10_bonds : GoodIn wsX10_isPersonSet wsX10_bonds := goodIn_r _ [5, 6, 7, 8, 15, 16, 17, 18, 19, 20, 21, 22, 23, 24, 25, 26, 27, 28, 29, 30, 31, 32, 33, 34, 35, 36, 37] (by rfl) (by decide +kernel)
set_option maxRecDepth 20000 in
theorem gX10_isPersonSet_X10_bonds : GoodIn wsX10_isPersonSet (wsV RX10 134 RX10 yX10_bonds wsX10_bonds) := goodIn_app (goodIn_r _ [1, 2, 3, 4] (by rfl) (by decide +kernel)) ggX10_isPersonSet_X10_bonds
theorem dX10_isPersonSet_6 : decode cX10_isPersonSet 6 = .ok (.invokevirtual 134, 3) := by decide +kernel
set_option maxRecDepth 20000 in
theorem ggX10_isPersonSet_X0_everyone : GoodIn wsX10_isPersonSet wsX0_everyone := goodIn_r _ [13, 14, 38, 39] (by rfl) (by decide +kernel)
set_option maxRecDepth 20000 in
theorem gX10_isPersonSet_X0_everyone : GoodIn wsX10_isPersonSet (wsV RX10 330 RX0 yX0_everyone wsX0_everyone) := goodIn_app (goodIn_r _ [9, 10, 11, 12] (by rfl) (by decide +kernel)) ggX10_isPersonSet_X0_everyone
theorem dX10_isPersonSet_9 : decode cX10_isPersonSet 9 = .ok (.invokevirtual 330, 3) := by decide +kernel
theorem dX10_isPersonSet_12 : decode cX10_isPersonSet 12 = .ok (.if_icmp .gt 7, 3) := by decide +kernel
theorem dX10_isPersonSet_15 : decode cX10_isPersonSet 15 = .ok (.iconst 1, 1) := by decide +kernel
theorem dX10_isPersonSet_16 : decode cX10_isPersonSet 16 = .ok (.goto 4, 3) := by decide +kernel
theorem dX10_canDuel_0 : decode cX10_canDuel 0 = .ok (.aload_n 0, 1) := by decide +kernel
theorem dX10_canDuel_1 : decode cX10_canDuel 1 = .ok (.iload_n 1, 1) := by decide +kernel
set_option maxRecDepth 20000 in
theorem ggX10_canDuel_X10_isPerson : GoodIn wsX10_canDuel wsX10_isPerson := goodIn_r _ [5, 6, 7, 8, 9, 10, 11, 12, 13, 14, 29, 30, 31, 32, 33, 34, 35, 36, 37, 38, 39, 40, 41, 42, 43, 44, 45, 46, 47, 48, 49, 50, 51, 52, 53] (by rfl) (by decide +kernel)
set_option maxRecDepth 20000 in
theorem gX10_canDuel_X10_isPerson : GoodIn wsX10_canDuel (wsV RX10 124 RX10 yX10_isPerson wsX10_isPerson) := goodIn_app (goodIn_r _ [1, 2, 3, 4] (by rfl) (by decide +kernel)) ggX10_canDuel_X10_isPerson
theorem dX10_canDuel_2 : decode cX10_canDuel 2 = .ok (.invokevirtual 124, 3) := by decide +kernel
theorem dX10_canDuel_5 : decode cX10_canDuel 5 = .ok (.ifCond .eq 42, 3) := by decide +kernel
theorem dX10_canDuel_47 : decode cX10_canDuel 47 = .ok (.iconst 0, 1) := by decide +kernel
theorem dX10_canDuel_48 : decode cX10_canDuel 48 = .ok (.ireturn, 1) := by decide +kernel
theorem dX10_canDuel_8 : decode cX10_canDuel 8 = .ok (.aload_n 0, 1) := by decide +kernel
theorem dX10_canDuel_9 : decode cX10_canDuel 9 = .ok (.iload_n 2, 1) := by decide +kernel
theorem dX10_canDuel_10 : decode cX10_canDuel 10 = .ok (.invokevirtual 124, 3) := by decide +kernel
theorem dX10_canDuel_13 : decode cX10_canDuel 13 = .ok (.ifCond .eq 34, 3) := by decide +kernel
theorem dX10_canDuel_16 : decode cX10_canDuel 16 = .ok (.iload_n 1, 1) := by decide +kernel
theorem dX10_canDuel_17 : decode cX10_canDuel 17 = .ok (.iload_n 2, 1) := by decide +kernel
theorem dX10_canDuel_18 : decode cX10_canDuel 18 = .ok (.if_icmp .eq 29, 3) := by decide +kernel
theorem dX10_canDuel_21 : decode cX10_canDuel 21 = .ok (.aload_n 0, 1) := by decide +kernel
set_option maxRecDepth 20000 in
theorem ggX10_canDuel_X10_bonds : GoodIn wsX10_canDuel wsX10_bonds := goodIn_r _ [18, 6, 7, 8, 29, 30, 31, 32, 33, 34, 35, 36, 37, 38, 39, 40, 41, 42, 43, 44, 45, 46, 47, 48, 49, 50, 51] (by rfl) (by decide +kernel)
set_option maxRecDepth 20000 in
theorem gX10_canDuel_X10_bonds : GoodIn wsX10_canDuel (wsV RX10 134 RX10 yX10_bonds wsX10_bonds) := goodIn_app (goodIn_r _ [15, 16, 17, 4] (by rfl) (by decide +kernel)) ggX10_canDuel_X10_bonds
theorem dX10_canDuel_22 : decode cX10_canDuel 22 = .ok (.invokevirtual 134, 3) := by decide +kernel
theorem dX10_canDuel_25 : decode cX10_canDuel 25 = .ok (.iload_n 1, 1) := by decide +kernel
set_option maxRecDepth 20000 in
theorem ggX10_canDuel_X0_handOf : GoodIn wsX10_canDuel wsX0_handOf := goodIn_r _ [22, 14, 23, 24, 25, 12, 26, 27, 28, 10, 11, 13, 52, 53] (by rfl) (by decide +kernel)
set_option maxRecDepth 20000 in
theorem gX10_canDuel_X0_handOf : GoodIn wsX10_canDuel (wsV RX10 141 RX0 yX0_handOf wsX0_handOf) := goodIn_app (goodIn_r _ [19, 20, 21, 12] (by rfl) (by decide +kernel)) ggX10_canDuel_X0_handOf
theorem dX10_canDuel_26 : decode cX10_canDuel 26 = .ok (.invokevirtual 141, 3) := by decide +kernel
theorem dX10_canDuel_29 : decode cX10_canDuel 29 = .ok (.ifCond .eq 18, 3) := by decide +kernel
theorem dX10_canDuel_32 : decode cX10_canDuel 32 = .ok (.aload_n 0, 1) := by decide +kernel
theorem dX10_canDuel_33 : decode cX10_canDuel 33 = .ok (.invokevirtual 134, 3) := by decide +kernel
theorem dX10_canDuel_36 : decode cX10_canDuel 36 = .ok (.iload_n 2, 1) := by decide +kernel
theorem dX10_canDuel_37 : decode cX10_canDuel 37 = .ok (.invokevirtual 141, 3) := by decide +kernel
theorem dX10_canDuel_40 : decode cX10_canDuel 40 = .ok (.ifCond .eq 7, 3) := by decide +kernel
theorem dX10_canDuel_43 : decode cX10_canDuel 43 = .ok (.iconst 1, 1) := by decide +kernel
theorem dX10_canDuel_44 : decode cX10_canDuel 44 = .ok (.goto 4, 3) := by decide +kernel
theorem dX10_slotState_0 : decode cX10_slotState 0 = .ok (.aload_n 0, 1) := by decide +kernel
theorem dX10_slotState_1 : decode cX10_slotState 1 = .ok (.getfield 43, 3) := by decide +kernel
theorem dX10_slotState_4 : decode cX10_slotState 4 = .ok (.iload_n 1, 1) := by decide +kernel
set_option maxRecDepth 20000 in
theorem ggX10_slotState_X6_isSlot : GoodIn wsX10_slotState wsX6_isSlot := goodIn_r _ [6] (by rfl) (by decide +kernel)
set_option maxRecDepth 20000 in
theorem gX10_slotState_X6_isSlot : GoodIn wsX10_slotState (wsV RX10 397 RX6 yX6_isSlot wsX6_isSlot) := goodIn_app (goodIn_r _ [2, 3, 4, 5] (by rfl) (by decide +kernel)) ggX10_slotState_X6_isSlot
theorem dX10_slotState_5 : decode cX10_slotState 5 = .ok (.invokevirtual 397, 3) := by decide +kernel
theorem dX10_slotState_8 : decode cX10_slotState 8 = .ok (.ifCond .eq 10, 3) := by decide +kernel
theorem dX10_slotState_18 : decode cX10_slotState 18 = .ok (.bipush (-2), 2) := by decide +kernel
theorem dX10_slotState_20 : decode cX10_slotState 20 = .ok (.ireturn, 1) := by decide +kernel
theorem dX10_slotState_11 : decode cX10_slotState 11 = .ok (.aload_n 0, 1) := by decide +kernel
set_option maxRecDepth 20000 in
theorem ggX10_slotState_X10_hasCity : GoodIn wsX10_slotState wsX10_hasCity := goodIn_r _ [11, 12, 13, 14, 23, 24, 25, 26, 27, 28, 29, 30, 31, 32, 33, 34, 35, 36, 37, 38, 39, 40, 41, 42, 43, 44] (by rfl) (by decide +kernel)
set_option maxRecDepth 20000 in
theorem gX10_slotState_X10_hasCity : GoodIn wsX10_slotState (wsV RX10 163 RX10 yX10_hasCity wsX10_hasCity) := goodIn_app (goodIn_r _ [7, 8, 9, 10] (by rfl) (by decide +kernel)) ggX10_slotState_X10_hasCity
theorem dX10_slotState_12 : decode cX10_slotState 12 = .ok (.invokevirtual 163, 3) := by decide +kernel
theorem dX10_slotState_15 : decode cX10_slotState 15 = .ok (.ifCond .ne 6, 3) := by decide +kernel
theorem dX10_slotState_21 : decode cX10_slotState 21 = .ok (.aload_n 0, 1) := by decide +kernel
theorem dX10_slotState_22 : decode cX10_slotState 22 = .ok (.getfield 43, 3) := by decide +kernel
theorem dX10_slotState_25 : decode cX10_slotState 25 = .ok (.iload_n 1, 1) := by decide +kernel
set_option maxRecDepth 20000 in
theorem ggX10_slotState_X6_isKept : GoodIn wsX10_slotState wsX6_isKept := goodIn_r _ [18, 19, 20, 3, 4, 5, 6, 21, 10, 22, 45, 46, 47, 48] (by rfl) (by decide +kernel)
set_option maxRecDepth 20000 in
theorem gX10_slotState_X6_isKept : GoodIn wsX10_slotState (wsV RX10 404 RX6 yX6_isKept wsX6_isKept) := goodIn_app (goodIn_r _ [15, 16, 17, 5] (by rfl) (by decide +kernel)) ggX10_slotState_X6_isKept
theorem dX10_slotState_26 : decode cX10_slotState 26 = .ok (.invokevirtual 404, 3) := by decide +kernel
theorem dX10_slotState_29 : decode cX10_slotState 29 = .ok (.ifCond .eq 7, 3) := by decide +kernel
theorem dX10_slotState_36 : decode cX10_slotState 36 = .ok (.bipush (-6), 2) := by decide +kernel
theorem dX10_slotState_38 : decode cX10_slotState 38 = .ok (.ireturn, 1) := by decide +kernel
theorem dX10_slotState_32 : decode cX10_slotState 32 = .ok (.iconst 0, 1) := by decide +kernel
theorem dX10_slotState_33 : decode cX10_slotState 33 = .ok (.goto 5, 3) := by decide +kernel
theorem dX10_deedRowState_0 : decode cX10_deedRowState 0 = .ok (.aload_n 0, 1) := by decide +kernel
theorem dX10_deedRowState_1 : decode cX10_deedRowState 1 = .ok (.iload_n 1, 1) := by decide +kernel
set_option maxRecDepth 20000 in
theorem ggX10_deedRowState_X10_slotState : GoodIn wsX10_deedRowState wsX10_slotState := goodIn_r _ [7, 1, 8, 9, 10, 11, 12, 13, 14, 15, 6, 16, 17, 18, 19, 20, 21, 22, 23, 24, 25, 26, 27, 43, 44, 45, 46, 47, 48, 49, 50, 51, 52, 53, 54, 55, 56, 57, 58, 59, 60, 61, 62, 63, 64, 65, 66, 67, 68] (by rfl) (by decide +kernel)
set_option maxRecDepth 20000 in
theorem gX10_deedRowState_X10_slotState : GoodIn wsX10_deedRowState (wsV RX10 431 RX10 yX10_slotState wsX10_slotState) := goodIn_app (goodIn_r _ [3, 4, 5, 6] (by rfl) (by decide +kernel)) ggX10_deedRowState_X10_slotState
theorem dX10_deedRowState_2 : decode cX10_deedRowState 2 = .ok (.invokevirtual 431, 3) := by decide +kernel
theorem dX10_deedRowState_5 : decode cX10_deedRowState 5 = .ok (.istore_n 2, 1) := by decide +kernel
theorem dX10_deedRowState_6 : decode cX10_deedRowState 6 = .ok (.iload_n 2, 1) := by decide +kernel
theorem dX10_deedRowState_7 : decode cX10_deedRowState 7 = .ok (.ifCond .eq 5, 3) := by decide +kernel
theorem dX10_deedRowState_12 : decode cX10_deedRowState 12 = .ok (.iconst 0, 1) := by decide +kernel
theorem dX10_deedRowState_13 : decode cX10_deedRowState 13 = .ok (.istore_n 3, 1) := by decide +kernel
theorem dX10_deedRowState_14 : decode cX10_deedRowState 14 = .ok (.iload_n 3, 1) := by decide +kernel
theorem dX10_deedRowState_15 : decode cX10_deedRowState 15 = .ok (.aload_n 0, 1) := by decide +kernel
theorem dX10_deedRowState_16 : decode cX10_deedRowState 16 = .ok (.getfield 43, 3) := by decide +kernel
theorem dX10_deedRowState_19 : decode cX10_deedRowState 19 = .ok (.iload_n 1, 1) := by decide +kernel
set_option maxRecDepth 20000 in
theorem ggX10_deedRowState_X6_sizeOf : GoodIn wsX10_deedRowState wsX6_sizeOf := goodIn_r _ [31, 32, 25, 9, 10, 11, 12, 65, 66, 67, 68] (by rfl) (by decide +kernel)
set_option maxRecDepth 20000 in
theorem gX10_deedRowState_X6_sizeOf : GoodIn wsX10_deedRowState (wsV RX10 434 RX6 yX6_sizeOf wsX6_sizeOf) := goodIn_app (goodIn_r _ [28, 29, 30, 11] (by rfl) (by decide +kernel)) ggX10_deedRowState_X6_sizeOf
theorem dX10_deedRowState_20 : decode cX10_deedRowState 20 = .ok (.invokevirtual 434, 3) := by decide +kernel
theorem dX10_deedRowState_23 : decode cX10_deedRowState 23 = .ok (.if_icmp .ge 39, 3) := by decide +kernel
theorem dX10_deedRowState_62 : decode cX10_deedRowState 62 = .ok (.iconst 0, 1) := by decide +kernel
theorem dX10_deedRowState_63 : decode cX10_deedRowState 63 = .ok (.ireturn, 1) := by decide +kernel
theorem dX10_deedRowState_26 : decode cX10_deedRowState 26 = .ok (.aload_n 0, 1) := by decide +kernel
theorem dX10_deedRowState_27 : decode cX10_deedRowState 27 = .ok (.getfield 43, 3) := by decide +kernel
theorem dX10_deedRowState_30 : decode cX10_deedRowState 30 = .ok (.iload_n 1, 1) := by decide +kernel
theorem dX10_deedRowState_31 : decode cX10_deedRowState 31 = .ok (.iload_n 3, 1) := by decide +kernel
set_option maxRecDepth 20000 in
theorem ggX10_deedRowState_X6_get : GoodIn wsX10_deedRowState wsX6_get := goodIn_r _ [36, 37, 38, 39, 40, 11, 41, 42, 29, 30, 31, 32, 25, 9, 10, 12, 65, 66, 67, 68] (by rfl) (by decide +kernel)
set_option maxRecDepth 20000 in
theorem gX10_deedRowState_X6_get : GoodIn wsX10_deedRowState (wsV RX10 437 RX6 yX6_get wsX6_get) := goodIn_app (goodIn_r _ [33, 34, 35, 11] (by rfl) (by decide +kernel)) ggX10_deedRowState_X6_get
theorem dX10_deedRowState_32 : decode cX10_deedRowState 32 = .ok (.invokevirtual 437, 3) := by decide +kernel
theorem dX10_deedRowState_35 : decode cX10_deedRowState 35 = .ok (.lstore 4, 2) := by decide +kernel
theorem dX10_deedRowState_37 : decode cX10_deedRowState 37 = .ok (.lload 4, 2) := by decide +kernel
theorem dX10_deedRowState_39 : decode cX10_deedRowState 39 = .ok (.lconst 0, 1) := by decide +kernel
theorem dX10_deedRowState_40 : decode cX10_deedRowState 40 = .ok (.lcmp, 1) := by decide +kernel
theorem dX10_deedRowState_41 : decode cX10_deedRowState 41 = .ok (.ifCond .lt 12, 3) := by decide +kernel
theorem dX10_deedRowState_53 : decode cX10_deedRowState 53 = .ok (.bipush (-2), 2) := by decide +kernel
theorem dX10_deedRowState_55 : decode cX10_deedRowState 55 = .ok (.ireturn, 1) := by decide +kernel
theorem dX10_deedRowState_44 : decode cX10_deedRowState 44 = .ok (.lload 4, 2) := by decide +kernel
theorem dX10_deedRowState_46 : decode cX10_deedRowState 46 = .ok (.ldc2_w 441, 3) := by decide +kernel
theorem dX10_deedRowState_49 : decode cX10_deedRowState 49 = .ok (.lcmp, 1) := by decide +kernel
theorem dX10_deedRowState_50 : decode cX10_deedRowState 50 = .ok (.ifCond .lt 6, 3) := by decide +kernel
theorem dX10_deedRowState_56 : decode cX10_deedRowState 56 = .ok (.iinc 3 1, 3) := by decide +kernel
theorem dX10_deedRowState_59 : decode cX10_deedRowState 59 = .ok (.goto (-45), 3) := by decide +kernel
theorem dX10_deedRowState_10 : decode cX10_deedRowState 10 = .ok (.iload_n 2, 1) := by decide +kernel
theorem dX10_deedRowState_11 : decode cX10_deedRowState 11 = .ok (.ireturn, 1) := by decide +kernel
theorem dX10_isAsking_0 : decode cX10_isAsking 0 = .ok (.aload_n 0, 1) := by decide +kernel
set_option maxRecDepth 20000 in
theorem ggX10_isAsking_X10_bonds : GoodIn wsX10_isAsking wsX10_bonds := goodIn_r _ [8, 9, 10, 11, 33, 34, 35, 36, 37, 38, 39, 40, 41, 42, 43, 44, 45, 46, 47, 48, 49, 50, 51, 52, 53, 54, 55] (by rfl) (by decide +kernel)
set_option maxRecDepth 20000 in
theorem gX10_isAsking_X10_bonds : GoodIn wsX10_isAsking (wsV RX10 134 RX10 yX10_bonds wsX10_bonds) := goodIn_app (goodIn_r _ [4, 5, 6, 7] (by rfl) (by decide +kernel)) ggX10_isAsking_X10_bonds
theorem dX10_isAsking_1 : decode cX10_isAsking 1 = .ok (.invokevirtual 134, 3) := by decide +kernel
theorem dX10_isAsking_4 : decode cX10_isAsking 4 = .ok (.getfield 238, 3) := by decide +kernel
theorem dX10_isAsking_7 : decode cX10_isAsking 7 = .ok (.i2l, 1) := by decide +kernel
theorem dX10_isAsking_8 : decode cX10_isAsking 8 = .ok (.lstore_n 3, 1) := by decide +kernel
theorem dX10_isAsking_9 : decode cX10_isAsking 9 = .ok (.aload_n 0, 1) := by decide +kernel
theorem dX10_isAsking_10 : decode cX10_isAsking 10 = .ok (.getfield 43, 3) := by decide +kernel
theorem dX10_isAsking_13 : decode cX10_isAsking 13 = .ok (.iload_n 1, 1) := by decide +kernel
theorem dX10_isAsking_14 : decode cX10_isAsking 14 = .ok (.iload_n 2, 1) := by decide +kernel
set_option maxRecDepth 20000 in
theorem ggX10_isAsking_X6_get : GoodIn wsX10_isAsking wsX6_get := goodIn_r _ [16, 17, 18, 19, 20, 15, 21, 22, 23, 24, 25, 26, 27, 28, 29, 30, 56, 57, 58, 59] (by rfl) (by decide +kernel)
set_option maxRecDepth 20000 in
theorem gX10_isAsking_X6_get : GoodIn wsX10_isAsking (wsV RX10 437 RX6 yX6_get wsX6_get) := goodIn_app (goodIn_r _ [12, 13, 14, 15] (by rfl) (by decide +kernel)) ggX10_isAsking_X6_get
theorem dX10_isAsking_15 : decode cX10_isAsking 15 = .ok (.invokevirtual 437, 3) := by decide +kernel
theorem dX10_isAsking_18 : decode cX10_isAsking 18 = .ok (.lstore 5, 2) := by decide +kernel
theorem dX10_isAsking_20 : decode cX10_isAsking 20 = .ok (.aload_n 0, 1) := by decide +kernel
theorem dX10_isAsking_21 : decode cX10_isAsking 21 = .ok (.getfield 43, 3) := by decide +kernel
theorem dX10_isAsking_24 : decode cX10_isAsking 24 = .ok (.iload_n 1, 1) := by decide +kernel
theorem dX10_isAsking_25 : decode cX10_isAsking 25 = .ok (.iload_n 2, 1) := by decide +kernel
theorem dX10_isAsking_26 : decode cX10_isAsking 26 = .ok (.iconst 1, 1) := by decide +kernel
theorem dX10_isAsking_27 : decode cX10_isAsking 27 = .ok (.iadd, 1) := by decide +kernel
theorem dX10_isAsking_28 : decode cX10_isAsking 28 = .ok (.invokevirtual 437, 3) := by decide +kernel
theorem dX10_isAsking_31 : decode cX10_isAsking 31 = .ok (.lstore 7, 2) := by decide +kernel
theorem dX10_isAsking_33 : decode cX10_isAsking 33 = .ok (.aload_n 0, 1) := by decide +kernel
theorem dX10_isAsking_34 : decode cX10_isAsking 34 = .ok (.getfield 43, 3) := by decide +kernel
theorem dX10_isAsking_37 : decode cX10_isAsking 37 = .ok (.iload_n 1, 1) := by decide +kernel
theorem dX10_isAsking_38 : decode cX10_isAsking 38 = .ok (.iload_n 2, 1) := by decide +kernel
theorem dX10_isAsking_39 : decode cX10_isAsking 39 = .ok (.iconst 2, 1) := by decide +kernel
theorem dX10_isAsking_40 : decode cX10_isAsking 40 = .ok (.iadd, 1) := by decide +kernel
theorem dX10_isAsking_41 : decode cX10_isAsking 41 = .ok (.invokevirtual 437, 3) := by decide +kernel
theorem dX10_isAsking_44 : decode cX10_isAsking 44 = .ok (.lstore 9, 2) := by decide +kernel
theorem dX10_isAsking_46 : decode cX10_isAsking 46 = .ok (.lload 5, 2) := by decide +kernel
theorem dX10_isAsking_48 : decode cX10_isAsking 48 = .ok (.lconst 0, 1) := by decide +kernel
theorem dX10_isAsking_49 : decode cX10_isAsking 49 = .ok (.lcmp, 1) := by decide +kernel
theorem dX10_isAsking_50 : decode cX10_isAsking 50 = .ok (.ifCond .lt 44, 3) := by decide +kernel
theorem dX10_isAsking_94 : decode cX10_isAsking 94 = .ok (.iconst 0, 1) := by decide +kernel
theorem dX10_isAsking_95 : decode cX10_isAsking 95 = .ok (.ireturn, 1) := by decide +kernel
theorem dX10_isAsking_53 : decode cX10_isAsking 53 = .ok (.lload 5, 2) := by decide +kernel
theorem dX10_isAsking_55 : decode cX10_isAsking 55 = .ok (.lload_n 3, 1) := by decide +kernel
theorem dX10_isAsking_56 : decode cX10_isAsking 56 = .ok (.lcmp, 1) := by decide +kernel
theorem dX10_isAsking_57 : decode cX10_isAsking 57 = .ok (.ifCond .ge 37, 3) := by decide +kernel
theorem dX10_isAsking_60 : decode cX10_isAsking 60 = .ok (.lload 7, 2) := by decide +kernel
theorem dX10_isAsking_62 : decode cX10_isAsking 62 = .ok (.lconst 0, 1) := by decide +kernel
theorem dX10_isAsking_63 : decode cX10_isAsking 63 = .ok (.lcmp, 1) := by decide +kernel
theorem dX10_isAsking_64 : decode cX10_isAsking 64 = .ok (.ifCond .lt 30, 3) := by decide +kernel
theorem dX10_isAsking_67 : decode cX10_isAsking 67 = .ok (.lload 7, 2) := by decide +kernel
theorem dX10_isAsking_69 : decode cX10_isAsking 69 = .ok (.lload_n 3, 1) := by decide +kernel
theorem dX10_isAsking_70 : decode cX10_isAsking 70 = .ok (.lcmp, 1) := by decide +kernel
theorem dX10_isAsking_71 : decode cX10_isAsking 71 = .ok (.ifCond .ge 23, 3) := by decide +kernel
theorem dX10_isAsking_74 : decode cX10_isAsking 74 = .ok (.lload 9, 2) := by decide +kernel
theorem dX10_isAsking_76 : decode cX10_isAsking 76 = .ok (.lconst 0, 1) := by decide +kernel
theorem dX10_isAsking_77 : decode cX10_isAsking 77 = .ok (.lcmp, 1) := by decide +kernel
theorem dX10_isAsking_78 : decode cX10_isAsking 78 = .ok (.ifCond .lt 16, 3) := by decide +kernel
theorem dX10_isAsking_81 : decode cX10_isAsking 81 = .ok (.lload 9, 2) := by decide +kernel
theorem dX10_isAsking_83 : decode cX10_isAsking 83 = .ok (.ldc2_w 441, 3) := by decide +kernel
theorem dX10_isAsking_86 : decode cX10_isAsking 86 = .ok (.lcmp, 1) := by decide +kernel
theorem dX10_isAsking_87 : decode cX10_isAsking 87 = .ok (.ifCond .ge 7, 3) := by decide +kernel
theorem dX10_isAsking_90 : decode cX10_isAsking 90 = .ok (.iconst 1, 1) := by decide +kernel
theorem dX10_isAsking_91 : decode cX10_isAsking 91 = .ok (.goto 4, 3) := by decide +kernel
theorem dX10_askingRowState_0 : decode cX10_askingRowState 0 = .ok (.aload_n 0, 1) := by decide +kernel
theorem dX10_askingRowState_1 : decode cX10_askingRowState 1 = .ok (.iload_n 1, 1) := by decide +kernel
set_option maxRecDepth 20000 in
theorem ggX10_askingRowState_X10_slotState : GoodIn wsX10_askingRowState wsX10_slotState := goodIn_r _ [6, 1, 7, 8, 9, 10, 11, 12, 13, 14, 5, 15, 16, 17, 18, 19, 20, 21, 22, 23, 24, 25, 26, 60, 61, 62, 63, 64, 65, 66, 67, 68, 69, 70, 71, 72, 73, 74, 75, 76, 77, 78, 79, 80, 81, 82, 83, 84, 85] (by rfl) (by decide +kernel)
set_option maxRecDepth 20000 in
theorem gX10_askingRowState_X10_slotState : GoodIn wsX10_askingRowState (wsV RX10 431 RX10 yX10_slotState wsX10_slotState) := goodIn_app (goodIn_r _ [2, 3, 4, 5] (by rfl) (by decide +kernel)) ggX10_askingRowState_X10_slotState
theorem dX10_askingRowState_2 : decode cX10_askingRowState 2 = .ok (.invokevirtual 431, 3) := by decide +kernel
theorem dX10_askingRowState_5 : decode cX10_askingRowState 5 = .ok (.istore_n 2, 1) := by decide +kernel
theorem dX10_askingRowState_6 : decode cX10_askingRowState 6 = .ok (.iload_n 2, 1) := by decide +kernel
theorem dX10_askingRowState_7 : decode cX10_askingRowState 7 = .ok (.ifCond .eq 5, 3) := by decide +kernel
theorem dX10_askingRowState_12 : decode cX10_askingRowState 12 = .ok (.aload_n 0, 1) := by decide +kernel
theorem dX10_askingRowState_13 : decode cX10_askingRowState 13 = .ok (.getfield 43, 3) := by decide +kernel
theorem dX10_askingRowState_16 : decode cX10_askingRowState 16 = .ok (.iload_n 1, 1) := by decide +kernel
set_option maxRecDepth 20000 in
theorem ggX10_askingRowState_X6_sizeOf : GoodIn wsX10_askingRowState wsX6_sizeOf := goodIn_r _ [30, 31, 24, 8, 9, 10, 11, 82, 83, 84, 85] (by rfl) (by decide +kernel)
set_option maxRecDepth 20000 in
theorem gX10_askingRowState_X6_sizeOf : GoodIn wsX10_askingRowState (wsV RX10 434 RX6 yX6_sizeOf wsX6_sizeOf) := goodIn_app (goodIn_r _ [27, 28, 29, 10] (by rfl) (by decide +kernel)) ggX10_askingRowState_X6_sizeOf
theorem dX10_askingRowState_17 : decode cX10_askingRowState 17 = .ok (.invokevirtual 434, 3) := by decide +kernel
theorem dX10_askingRowState_20 : decode cX10_askingRowState 20 = .ok (.iconst 3, 1) := by decide +kernel
theorem dX10_askingRowState_21 : decode cX10_askingRowState 21 = .ok (.irem, 1) := by decide +kernel
theorem dX10_askingRowState_22 : decode cX10_askingRowState 22 = .ok (.ifCond .eq 6, 3) := by decide +kernel
theorem dX10_askingRowState_28 : decode cX10_askingRowState 28 = .ok (.iconst 0, 1) := by decide +kernel
theorem dX10_askingRowState_29 : decode cX10_askingRowState 29 = .ok (.istore_n 3, 1) := by decide +kernel
theorem dX10_askingRowState_30 : decode cX10_askingRowState 30 = .ok (.iload_n 3, 1) := by decide +kernel
theorem dX10_askingRowState_31 : decode cX10_askingRowState 31 = .ok (.aload_n 0, 1) := by decide +kernel
theorem dX10_askingRowState_32 : decode cX10_askingRowState 32 = .ok (.getfield 43, 3) := by decide +kernel
theorem dX10_askingRowState_35 : decode cX10_askingRowState 35 = .ok (.iload_n 1, 1) := by decide +kernel
theorem dX10_askingRowState_36 : decode cX10_askingRowState 36 = .ok (.invokevirtual 434, 3) := by decide +kernel
theorem dX10_askingRowState_39 : decode cX10_askingRowState 39 = .ok (.if_icmp .ge 33, 3) := by decide +kernel
theorem dX10_askingRowState_72 : decode cX10_askingRowState 72 = .ok (.iconst 0, 1) := by decide +kernel
theorem dX10_askingRowState_73 : decode cX10_askingRowState 73 = .ok (.ireturn, 1) := by decide +kernel
theorem dX10_askingRowState_42 : decode cX10_askingRowState 42 = .ok (.aload_n 0, 1) := by decide +kernel
theorem dX10_askingRowState_43 : decode cX10_askingRowState 43 = .ok (.getfield 43, 3) := by decide +kernel
theorem dX10_askingRowState_46 : decode cX10_askingRowState 46 = .ok (.iload_n 1, 1) := by decide +kernel
theorem dX10_askingRowState_47 : decode cX10_askingRowState 47 = .ok (.iload_n 3, 1) := by decide +kernel
set_option maxRecDepth 20000 in
theorem ggX10_askingRowState_X6_isDayEnd : GoodIn wsX10_askingRowState wsX6_isDayEnd := goodIn_r _ [35, 36, 37, 38, 39, 10, 40, 41, 42, 43, 44, 45, 46, 28, 29, 30, 31, 24, 8, 9, 11, 82, 83, 84, 85] (by rfl) (by decide +kernel)
set_option maxRecDepth 20000 in
theorem gX10_askingRowState_X6_isDayEnd : GoodIn wsX10_askingRowState (wsV RX10 443 RX6 yX6_isDayEnd wsX6_isDayEnd) := goodIn_app (goodIn_r _ [32, 33, 34, 10] (by rfl) (by decide +kernel)) ggX10_askingRowState_X6_isDayEnd
theorem dX10_askingRowState_48 : decode cX10_askingRowState 48 = .ok (.invokevirtual 443, 3) := by decide +kernel
theorem dX10_askingRowState_66 : decode cX10_askingRowState 66 = .ok (.iinc 3 3, 3) := by decide +kernel
theorem dX10_askingRowState_69 : decode cX10_askingRowState 69 = .ok (.goto (-39), 3) := by decide +kernel
theorem dX10_askingRowState_51 : decode cX10_askingRowState 51 = .ok (.ifCond .ne 15, 3) := by decide +kernel
theorem dX10_askingRowState_54 : decode cX10_askingRowState 54 = .ok (.aload_n 0, 1) := by decide +kernel
theorem dX10_askingRowState_55 : decode cX10_askingRowState 55 = .ok (.iload_n 1, 1) := by decide +kernel
theorem dX10_askingRowState_56 : decode cX10_askingRowState 56 = .ok (.iload_n 3, 1) := by decide +kernel
set_option maxRecDepth 20000 in
theorem ggX10_askingRowState_X10_isAsking : GoodIn wsX10_askingRowState wsX10_isAsking := goodIn_r _ [50, 51, 1, 52, 53, 54, 55, 5, 56, 16, 57, 58, 59, 38, 39, 10, 40, 41, 42, 43, 44, 45, 46, 28, 29, 30, 31, 24, 8, 9, 11, 86, 87, 60, 61, 62, 63, 64, 65, 66, 67, 68, 69, 70, 71, 72, 73, 74, 88, 89, 90, 91, 92, 93, 94, 95, 82, 83, 84, 85] (by rfl) (by decide +kernel)
set_option maxRecDepth 20000 in
theorem gX10_askingRowState_X10_isAsking : GoodIn wsX10_askingRowState (wsV RX10 446 RX10 yX10_isAsking wsX10_isAsking) := goodIn_app (goodIn_r _ [47, 48, 49, 5] (by rfl) (by decide +kernel)) ggX10_askingRowState_X10_isAsking
theorem dX10_askingRowState_57 : decode cX10_askingRowState 57 = .ok (.invokevirtual 446, 3) := by decide +kernel
theorem dX10_askingRowState_60 : decode cX10_askingRowState 60 = .ok (.ifCond .ne 6, 3) := by decide +kernel
theorem dX10_askingRowState_63 : decode cX10_askingRowState 63 = .ok (.bipush (-2), 2) := by decide +kernel
theorem dX10_askingRowState_65 : decode cX10_askingRowState 65 = .ok (.ireturn, 1) := by decide +kernel
theorem dX10_askingRowState_25 : decode cX10_askingRowState 25 = .ok (.bipush (-2), 2) := by decide +kernel
theorem dX10_askingRowState_27 : decode cX10_askingRowState 27 = .ok (.ireturn, 1) := by decide +kernel
theorem dX10_askingRowState_10 : decode cX10_askingRowState 10 = .ok (.iload_n 2, 1) := by decide +kernel
theorem dX10_askingRowState_11 : decode cX10_askingRowState 11 = .ok (.ireturn, 1) := by decide +kernel
theorem dX10_runTrial_0 : decode cX10_runTrial 0 = .ok (.aload_n 0, 1) := by decide +kernel
theorem dX10_runTrial_1 : decode cX10_runTrial 1 = .ok (.getfield 56, 3) := by decide +kernel
set_option maxRecDepth 20000 in
theorem ggX10_runTrial_X2_begin : GoodIn wsX10_runTrial wsX2_begin := goodIn_r _ [7, 8, 9, 10, 11, 12, 13, 14, 15, 16, 17, 18, 19, 20, 21, 22, 23, 24, 25, 26, 112, 113, 114, 115, 116, 117, 118, 119, 120, 121, 122, 123, 124, 125, 126, 127, 128] (by rfl) (by decide +kernel)
set_option maxRecDepth 20000 in
theorem gX10_runTrial_X2_begin : GoodIn wsX10_runTrial (wsV RX10 449 RX2 yX2_begin wsX2_begin) := goodIn_app (goodIn_r _ [3, 4, 5, 6] (by rfl) (by decide +kernel)) ggX10_runTrial_X2_begin
theorem dX10_runTrial_4 : decode cX10_runTrial 4 = .ok (.invokevirtual 449, 3) := by decide +kernel
theorem dX10_runTrial_7 : decode cX10_runTrial 7 = .ok (.iconst 0, 1) := by decide +kernel
theorem dX10_runTrial_8 : decode cX10_runTrial 8 = .ok (.istore_n 2, 1) := by decide +kernel
theorem dX10_runTrial_9 : decode cX10_runTrial 9 = .ok (.iload_n 2, 1) := by decide +kernel
theorem dX10_runTrial_10 : decode cX10_runTrial 10 = .ok (.aload_n 0, 1) := by decide +kernel
theorem dX10_runTrial_11 : decode cX10_runTrial 11 = .ok (.getfield 43, 3) := by decide +kernel
theorem dX10_runTrial_14 : decode cX10_runTrial 14 = .ok (.iload_n 1, 1) := by decide +kernel
set_option maxRecDepth 20000 in
theorem ggX10_runTrial_X6_sizeOf : GoodIn wsX10_runTrial wsX6_sizeOf := goodIn_r _ [31, 32, 33, 34, 35, 30, 36, 129, 130, 131, 132] (by rfl) (by decide +kernel)
set_option maxRecDepth 20000 in
theorem gX10_runTrial_X6_sizeOf : GoodIn wsX10_runTrial (wsV RX10 434 RX6 yX6_sizeOf wsX6_sizeOf) := goodIn_app (goodIn_r _ [27, 28, 29, 30] (by rfl) (by decide +kernel)) ggX10_runTrial_X6_sizeOf
theorem dX10_runTrial_15 : decode cX10_runTrial 15 = .ok (.invokevirtual 434, 3) := by decide +kernel
theorem dX10_runTrial_18 : decode cX10_runTrial 18 = .ok (.if_icmp .ge 98, 3) := by decide +kernel
theorem dX10_runTrial_116 : decode cX10_runTrial 116 = .ok (.aload_n 0, 1) := by decide +kernel
theorem dX10_runTrial_117 : decode cX10_runTrial 117 = .ok (.getfield 43, 3) := by decide +kernel
theorem dX10_runTrial_120 : decode cX10_runTrial 120 = .ok (.iload_n 1, 1) := by decide +kernel
theorem dX10_runTrial_121 : decode cX10_runTrial 121 = .ok (.invokevirtual 434, 3) := by decide +kernel
theorem dX10_runTrial_124 : decode cX10_runTrial 124 = .ok (.iconst 3, 1) := by decide +kernel
theorem dX10_runTrial_125 : decode cX10_runTrial 125 = .ok (.idiv, 1) := by decide +kernel
theorem dX10_runTrial_126 : decode cX10_runTrial 126 = .ok (.ireturn, 1) := by decide +kernel
theorem dX10_runTrial_21 : decode cX10_runTrial 21 = .ok (.aload_n 0, 1) := by decide +kernel
theorem dX10_runTrial_22 : decode cX10_runTrial 22 = .ok (.getfield 43, 3) := by decide +kernel
theorem dX10_runTrial_25 : decode cX10_runTrial 25 = .ok (.iload_n 1, 1) := by decide +kernel
theorem dX10_runTrial_26 : decode cX10_runTrial 26 = .ok (.iload_n 2, 1) := by decide +kernel
set_option maxRecDepth 20000 in
theorem ggX10_runTrial_X6_isDayEnd : GoodIn wsX10_runTrial wsX6_isDayEnd := goodIn_r _ [40, 41, 42, 43, 44, 30, 45, 46, 47, 48, 49, 50, 51, 28, 29, 31, 32, 33, 34, 35, 36, 129, 130, 131, 132] (by rfl) (by decide +kernel)
set_option maxRecDepth 20000 in
theorem gX10_runTrial_X6_isDayEnd : GoodIn wsX10_runTrial (wsV RX10 443 RX6 yX6_isDayEnd wsX6_isDayEnd) := goodIn_app (goodIn_r _ [37, 38, 39, 30] (by rfl) (by decide +kernel)) ggX10_runTrial_X6_isDayEnd
theorem dX10_runTrial_27 : decode cX10_runTrial 27 = .ok (.invokevirtual 443, 3) := by decide +kernel
theorem dX10_runTrial_110 : decode cX10_runTrial 110 = .ok (.iinc 2 3, 3) := by decide +kernel
theorem dX10_runTrial_113 : decode cX10_runTrial 113 = .ok (.goto (-104), 3) := by decide +kernel
theorem dX10_runTrial_30 : decode cX10_runTrial 30 = .ok (.ifCond .eq 13, 3) := by decide +kernel
theorem dX10_runTrial_43 : decode cX10_runTrial 43 = .ok (.aload_n 0, 1) := by decide +kernel
theorem dX10_runTrial_44 : decode cX10_runTrial 44 = .ok (.getfield 43, 3) := by decide +kernel
theorem dX10_runTrial_47 : decode cX10_runTrial 47 = .ok (.iload_n 1, 1) := by decide +kernel
theorem dX10_runTrial_48 : decode cX10_runTrial 48 = .ok (.iload_n 2, 1) := by decide +kernel
set_option maxRecDepth 20000 in
theorem ggX10_runTrial_X6_get : GoodIn wsX10_runTrial wsX6_get := goodIn_r _ [45, 46, 47, 48, 49, 30, 50, 51, 28, 29, 31, 32, 33, 34, 35, 36, 129, 130, 131, 132] (by rfl) (by decide +kernel)
set_option maxRecDepth 20000 in
theorem gX10_runTrial_X6_get : GoodIn wsX10_runTrial (wsV RX10 437 RX6 yX6_get wsX6_get) := goodIn_app (goodIn_r _ [73, 43, 44, 30] (by rfl) (by decide +kernel)) ggX10_runTrial_X6_get
theorem dX10_runTrial_49 : decode cX10_runTrial 49 = .ok (.invokevirtual 437, 3) := by decide +kernel
theorem dX10_runTrial_52 : decode cX10_runTrial 52 = .ok (.l2i, 1) := by decide +kernel
theorem dX10_runTrial_53 : decode cX10_runTrial 53 = .ok (.istore_n 3, 1) := by decide +kernel
theorem dX10_runTrial_54 : decode cX10_runTrial 54 = .ok (.aload_n 0, 1) := by decide +kernel
theorem dX10_runTrial_55 : decode cX10_runTrial 55 = .ok (.getfield 43, 3) := by decide +kernel
theorem dX10_runTrial_58 : decode cX10_runTrial 58 = .ok (.iload_n 1, 1) := by decide +kernel
theorem dX10_runTrial_59 : decode cX10_runTrial 59 = .ok (.iload_n 2, 1) := by decide +kernel
theorem dX10_runTrial_60 : decode cX10_runTrial 60 = .ok (.iconst 1, 1) := by decide +kernel
theorem dX10_runTrial_61 : decode cX10_runTrial 61 = .ok (.iadd, 1) := by decide +kernel
theorem dX10_runTrial_62 : decode cX10_runTrial 62 = .ok (.invokevirtual 437, 3) := by decide +kernel
theorem dX10_runTrial_65 : decode cX10_runTrial 65 = .ok (.l2i, 1) := by decide +kernel
theorem dX10_runTrial_66 : decode cX10_runTrial 66 = .ok (.istore 4, 2) := by decide +kernel
theorem dX10_runTrial_68 : decode cX10_runTrial 68 = .ok (.aload_n 0, 1) := by decide +kernel
theorem dX10_runTrial_69 : decode cX10_runTrial 69 = .ok (.getfield 43, 3) := by decide +kernel
theorem dX10_runTrial_72 : decode cX10_runTrial 72 = .ok (.iload_n 1, 1) := by decide +kernel
theorem dX10_runTrial_73 : decode cX10_runTrial 73 = .ok (.iload_n 2, 1) := by decide +kernel
theorem dX10_runTrial_74 : decode cX10_runTrial 74 = .ok (.iconst 2, 1) := by decide +kernel
theorem dX10_runTrial_75 : decode cX10_runTrial 75 = .ok (.iadd, 1) := by decide +kernel
theorem dX10_runTrial_76 : decode cX10_runTrial 76 = .ok (.invokevirtual 437, 3) := by decide +kernel
theorem dX10_runTrial_79 : decode cX10_runTrial 79 = .ok (.l2i, 1) := by decide +kernel
theorem dX10_runTrial_80 : decode cX10_runTrial 80 = .ok (.istore 5, 2) := by decide +kernel
theorem dX10_runTrial_82 : decode cX10_runTrial 82 = .ok (.aload_n 0, 1) := by decide +kernel
theorem dX10_runTrial_83 : decode cX10_runTrial 83 = .ok (.getfield 56, 3) := by decide +kernel
theorem dX10_runTrial_86 : decode cX10_runTrial 86 = .ok (.iload_n 3, 1) := by decide +kernel
theorem dX10_runTrial_87 : decode cX10_runTrial 87 = .ok (.iload 4, 2) := by decide +kernel
theorem dX10_runTrial_89 : decode cX10_runTrial 89 = .ok (.iload 5, 2) := by decide +kernel
set_option maxRecDepth 20000 in
theorem ggX10_runTrial_X2_refusal : GoodIn wsX10_runTrial wsX2_refusal := goodIn_r _ [77, 9, 78, 79, 80, 6, 81, 8, 12, 61, 62, 63, 19, 64, 22, 65, 66, 67, 68, 21, 58, 59, 60, 82, 83, 84, 85, 86, 87, 88, 89, 112, 113, 114, 115, 116, 117, 118, 119, 127, 128, 120, 121, 122, 123, 124, 125, 126] (by rfl) (by decide +kernel)
set_option maxRecDepth 20000 in
theorem gX10_runTrial_X2_refusal : GoodIn wsX10_runTrial (wsV RX10 203 RX2 yX2_refusal wsX2_refusal) := goodIn_app (goodIn_r _ [74, 75, 76, 6] (by rfl) (by decide +kernel)) ggX10_runTrial_X2_refusal
theorem dX10_runTrial_91 : decode cX10_runTrial 91 = .ok (.invokevirtual 203, 3) := by decide +kernel
theorem dX10_runTrial_94 : decode cX10_runTrial 94 = .ok (.ifCond .eq 7, 3) := by decide +kernel
theorem dX10_runTrial_101 : decode cX10_runTrial 101 = .ok (.aload_n 0, 1) := by decide +kernel
theorem dX10_runTrial_102 : decode cX10_runTrial 102 = .ok (.getfield 56, 3) := by decide +kernel
theorem dX10_runTrial_105 : decode cX10_runTrial 105 = .ok (.iload 4, 2) := by decide +kernel
set_option maxRecDepth 20000 in
theorem ggX10_runTrial_X2_wearCard : GoodIn wsX10_runTrial wsX2_wearCard := goodIn_r _ [93, 8, 12, 11, 9, 94, 66, 67, 19, 68, 21, 95, 96, 97, 85, 98, 87, 99, 100, 89, 69, 70, 71, 72, 22, 65, 112, 113, 114, 115, 116, 117, 118, 119, 127, 128, 120, 121, 122, 123, 124, 125, 126] (by rfl) (by decide +kernel)
set_option maxRecDepth 20000 in
theorem gX10_runTrial_X2_wearCard : GoodIn wsX10_runTrial (wsV RX10 454 RX2 yX2_wearCard wsX2_wearCard) := goodIn_app (goodIn_r _ [90, 91, 92, 6] (by rfl) (by decide +kernel)) ggX10_runTrial_X2_wearCard
theorem dX10_runTrial_107 : decode cX10_runTrial 107 = .ok (.invokevirtual 454, 3) := by decide +kernel
theorem dX10_runTrial_97 : decode cX10_runTrial 97 = .ok (.iload_n 2, 1) := by decide +kernel
theorem dX10_runTrial_98 : decode cX10_runTrial 98 = .ok (.iconst 3, 1) := by decide +kernel
theorem dX10_runTrial_99 : decode cX10_runTrial 99 = .ok (.idiv, 1) := by decide +kernel
theorem dX10_runTrial_100 : decode cX10_runTrial 100 = .ok (.ireturn, 1) := by decide +kernel
theorem dX10_runTrial_33 : decode cX10_runTrial 33 = .ok (.aload_n 0, 1) := by decide +kernel
theorem dX10_runTrial_34 : decode cX10_runTrial 34 = .ok (.getfield 56, 3) := by decide +kernel
set_option maxRecDepth 20000 in
theorem ggX10_runTrial_X2_endDay : GoodIn wsX10_runTrial wsX2_endDay := goodIn_r _ [55, 8, 56, 13, 57, 12, 14, 58, 59, 60, 61, 62, 63, 19, 64, 22, 65, 66, 67, 68, 21, 69, 70, 71, 72, 112, 113, 114, 115, 116, 117, 118, 119, 127, 128] (by rfl) (by decide +kernel)
set_option maxRecDepth 20000 in
theorem gX10_runTrial_X2_endDay : GoodIn wsX10_runTrial (wsV RX10 451 RX2 yX2_endDay wsX2_endDay) := goodIn_app (goodIn_r _ [52, 53, 54, 6] (by rfl) (by decide +kernel)) ggX10_runTrial_X2_endDay
theorem dX10_runTrial_37 : decode cX10_runTrial 37 = .ok (.invokevirtual 451, 3) := by decide +kernel
theorem dX10_runTrial_40 : decode cX10_runTrial 40 = .ok (.goto 70, 3) := by decide +kernel
set_option maxHeartbeats 4000000 in
set_option maxRecDepth 100000 in
theorem a_X10_bonds (l : Launch) (G : va_G) (ct : Nat → ClassId) (a0 : Nat) (a1 : Nat) (a3 : Nat) (a11 : Nat) (a25 : Nat) (a68 : Nat) (a69 : Nat) (a77 : Nat) (a82 : Nat) (a84 : Nat) (a88 : Nat) (a91 : Nat) (a12 : Nat) (a19 : Nat) (a24 : Nat) (n11_3 : Int32) (a20 : Nat) (a22 : Nat) (a23 : Nat) (n19_4 : Int32) (n19_5 : Int32) (n19_6 : Int32) (n19_7 : Int32)  : Met l yX10_bonds wsX10_bonds ({ frames := 0, cells := 0, slots := 0, locals := 0 }) (va_Pc [.ref a0] (roP G ct [(a0, .inr (10, [.ref a1, .ref a3, .ref a11, .ref a25, .ref a68, .ref a69, .ref a77, .ref a82, .ref a84, .ref a88, .ref a91])), (a11, .inr (4, [.ref a12, .ref a19, .ref a24, .int n11_3])), (a19, .inr (2, [.ref a12, .ref a20, .ref a22, .ref a23, .int n19_4, .int n19_5, .int n19_6, .int n19_7]))])) (roQr (a20)) 0 0 no := by
  refine Met.ofW (cc := cX10_bonds) (maxL := 1) (ret := (some (.object "CardHolder$Bonds"))) (by decide) rfl ?_
  intro p e s m args below meth c s₁ B hml hv
  obtain ⟨rfl, hP, hK⟩ := hv
  have hx := B.exec
  have hb := B.bytes
  have hr := B.returns
  have hts := atoms_spec (ws := wsX10_bonds) B.pre
  have hown : s.vm.findClass RX10 = some m.cls := findClass_of_methodNamed B.named
  have hlocks := B.notSynchronized
  have hS : va_S no s.heap s.heap [] := va_S.rf
  have hl := lv_entry ([.ref a0]) (n := 1) (Nat.le_of_ble_eq_true rfl)
  rw [lg_entry_eq]
  generalize (lg_sl ([.ref a0]) ++ List.replicate (1 - (lg_sl ([.ref a0])).length) Slot.unset).toArray = ls at hl ⊢
  have hl : lv_has ls 1 [(0, .ref a0)] := hl
  refine lv_aload_n hx hb dX10_bonds_0 rfl (lv_at hl 0 rfl) ?_
  refine va_get (D := G) (ci := 10) (v := .ref a11) (C := RX10) (T := TX10) (N := 11) hx hb hts (by decide +kernel) hown hK.1 hP 0 rfl rfl 2 (by decide) (hts (.fieldLink RX10 28 "CardHolder" "play" "LCardHolder$Play;") (by decide +kernel)) (fun _ h9 => h9) rfl dX10_bonds_1 ?_
  refine va_get (D := G) (ci := 4) (v := .ref a19) (C := RX4) (T := TX4) (N := 4) hx hb hts (by decide +kernel) hown hK.1 hP 1 rfl rfl 1 (by decide) (hts (.fieldLink RX10 147 "CardHolder$Play" "hands" "LCardHolder$Hands;") (by decide +kernel)) (fun _ h9 => h9) rfl dX10_bonds_4 ?_
  refine va_get (D := G) (ci := 2) (v := .ref a20) (C := RX2) (T := TX2) (N := 8) hx hb hts (by decide +kernel) hown hK.1 hP 2 rfl rfl 1 (by decide) (hts (.fieldLink RX10 366 "CardHolder$Hands" "bonds" "LCardHolder$Bonds;") (by decide +kernel)) (fun _ h9 => h9) rfl dX10_bonds_7 ?_
  exact W.aret (v := .ref a20) hx hb hr (Or.inl ⟨_, rfl⟩) (Or.inr ⟨_, rfl⟩) (fun t ht hW => ⟨⟨(), a20, rfl, trivial, rfl⟩, hS.F ht⟩) hS.2.2 dX10_bonds_10

set_option maxHeartbeats 4000000 in
set_option maxRecDepth 100000 in
theorem a_X10_hasCity (l : Launch) (G : va_G) (ct : Nat → ClassId) (a0 : Nat) (a1 : Nat) (a3 : Nat) (a11 : Nat) (a25 : Nat) (a68 : Nat) (a69 : Nat) (a77 : Nat) (a82 : Nat) (a84 : Nat) (a88 : Nat) (a91 : Nat) (a12 : Nat) (a19 : Nat) (a24 : Nat) (n11_3 : Int32) (a13 : Nat) (a15 : Nat) (a16 : Nat) (a17 : Nat) (a18 : Nat) (n12_5 : Int32) (n12_6 : Int32)  : Met l yX10_hasCity wsX10_hasCity ({ frames := 0, cells := 0, slots := 0, locals := 0 }) (va_Pc [.ref a0] (roP G ct [(a0, .inr (10, [.ref a1, .ref a3, .ref a11, .ref a25, .ref a68, .ref a69, .ref a77, .ref a82, .ref a84, .ref a88, .ref a91])), (a11, .inr (4, [.ref a12, .ref a19, .ref a24, .int n11_3])), (a12, .inr (9, [.ref a13, .ref a15, .ref a16, .ref a17, .ref a18, .int n12_5, .int n12_6]))])) (roQ (fun r => rg 0 1 r ∧ (¬ r = 0 → rg 1 2147483647 n12_5) ∧ (r = 0 → rg (-2147483648) 0 n12_5) ∧ True)) 0 0 no := by
  refine Met.ofW (cc := cX10_hasCity) (maxL := 1) (ret := (some .boolean)) (by decide) rfl ?_
  intro p e s m args below meth c s₁ B hml hv
  obtain ⟨rfl, hP, hK⟩ := hv
  have hx := B.exec
  have hb := B.bytes
  have hr := B.returns
  have hts := atoms_spec (ws := wsX10_hasCity) B.pre
  have hown : s.vm.findClass RX10 = some m.cls := findClass_of_methodNamed B.named
  have hlocks := B.notSynchronized
  have hS : va_S no s.heap s.heap [] := va_S.rf
  have hl := lv_entry ([.ref a0]) (n := 1) (Nat.le_of_ble_eq_true rfl)
  rw [lg_entry_eq]
  generalize (lg_sl ([.ref a0]) ++ List.replicate (1 - (lg_sl ([.ref a0])).length) Slot.unset).toArray = ls at hl ⊢
  have hl : lv_has ls 1 [(0, .ref a0)] := hl
  refine lv_aload_n hx hb dX10_hasCity_0 rfl (lv_at hl 0 rfl) ?_
  refine va_get (D := G) (ci := 10) (v := .ref a11) (C := RX10) (T := TX10) (N := 11) hx hb hts (by decide +kernel) hown hK.1 hP 0 rfl rfl 2 (by decide) (hts (.fieldLink RX10 28 "CardHolder" "play" "LCardHolder$Play;") (by decide +kernel)) (fun _ h9 => h9) rfl dX10_hasCity_1 ?_
  refine va_get (D := G) (ci := 4) (v := .ref a12) (C := RX4) (T := TX4) (N := 4) hx hb hts (by decide +kernel) hown hK.1 hP 1 rfl rfl 0 (by decide) (hts (.fieldLink RX10 49 "CardHolder$Play" "town" "LCardHolder$Town;") (by decide +kernel)) (fun _ h9 => h9) rfl dX10_hasCity_4 ?_
  refine va_get (D := G) (ci := 9) (v := .int n12_5) (C := RX9) (T := TX9) (N := 7) hx hb hts (by decide +kernel) hown hK.1 hP 2 rfl rfl 5 (by decide) (hts (.fieldLink RX10 113 "CardHolder$Town" "lines" "I") (by decide +kernel)) (fun _ h9 => h9) rfl dX10_hasCity_7 ?_
  refine lv_if_le (tgt := 17) hx hb dX10_hasCity_10 (by decide) (fun c10 => ?_) (fun c10 => ?_)
  · have h_1 : rg (-2147483648) 0 n12_5 := r_le_l_i c10 (rg_t n12_5) (rgn 0 (x := 0) (by decide))
    refine lv_iconst (v := 0) hx hb dX10_hasCity_17 (by decide) ?_
    exact W.zret (v := 0) (ty := .boolean) hx hb hr (rfl) (fun t ht hW => ⟨⟨0, (), rfl, ⟨(rg_w (c := 0) (d := 1) (rgn 0 (x := 0) (by decide)) (by decide)), (fun hq => absurd (req (rgn 0 (x := 0) (by decide)) (y := 0) (by decide)) hq), (fun _ => h_1), trivial⟩, trivial⟩, hS.F ht⟩) hS.2.2 dX10_hasCity_18
  · have h_2 : rg 1 2147483647 n12_5 := r_lt_r_i (nle_i c10) (rgn 0 (x := 0) (by decide)) (rg_t n12_5) (by decide)
    refine lv_iconst (v := 1) hx hb dX10_hasCity_13 (by decide) ?_
    refine lv_goto (tgt := 18) hx hb dX10_hasCity_14 (by decide) ?_
    exact W.zret (v := 1) (ty := .boolean) hx hb hr (rfl) (fun t ht hW => ⟨⟨1, (), rfl, ⟨(rg_w (c := 0) (d := 1) (rgn 1 (x := 1) (by decide)) (by decide)), (fun _ => h_2), (fun hq => absurd hq (rne (rgn 1 (x := 1) (by decide)) (y := 0) (c := 0) (by decide) (by decide))), trivial⟩, trivial⟩, hS.F ht⟩) hS.2.2 dX10_hasCity_18

set_option maxHeartbeats 4000000 in
set_option maxRecDepth 100000 in
theorem a_X10_isPerson (l : Launch) (G : va_G) (ct : Nat → ClassId) (a0 : Nat) (a1 : Nat) (a3 : Nat) (a11 : Nat) (a25 : Nat) (a68 : Nat) (a69 : Nat) (a77 : Nat) (a82 : Nat) (a84 : Nat) (a88 : Nat) (a91 : Nat) (a12 : Nat) (a19 : Nat) (a24 : Nat) (n11_3 : Int32) (a20 : Nat) (a22 : Nat) (a23 : Nat) (n19_4 : Int32) (n19_5 : Int32) (n19_6 : Int32) (n19_7 : Int32) (a21 : Nat) (n20_1 : Int32) (p0 : Int32) (hp_n20_1 : rg 0 8 n20_1) : Met l yX10_isPerson wsX10_isPerson ({ frames := 1, cells := 0, slots := 0, locals := 21 }) (va_Pc [.ref a0, .int p0] (roP G ct [(a0, .inr (10, [.ref a1, .ref a3, .ref a11, .ref a25, .ref a68, .ref a69, .ref a77, .ref a82, .ref a84, .ref a88, .ref a91])), (a11, .inr (4, [.ref a12, .ref a19, .ref a24, .int n11_3])), (a19, .inr (2, [.ref a12, .ref a20, .ref a22, .ref a23, .int n19_4, .int n19_5, .int n19_6, .int n19_7])), (a20, .inr (0, [.ref a21, .int n20_1]))])) (roQ (fun r => rg 0 1 r ∧ (¬ r = 0 → rg 0 7 p0) ∧ (¬ r = 0 → rg 1 8 n20_1) ∧ True)) 0 0 no := by
  refine Met.ofW (cc := cX10_isPerson) (maxL := 2) (ret := (some .boolean)) (by decide) rfl ?_
  intro p e s m args below meth c s₁ B hml hv
  obtain ⟨rfl, hP, hK⟩ := hv
  have hx := B.exec
  have hb := B.bytes
  have hr := B.returns
  have hts := atoms_spec (ws := wsX10_isPerson) B.pre
  have hown : s.vm.findClass RX10 = some m.cls := findClass_of_methodNamed B.named
  have hlocks := B.notSynchronized
  have hS : va_S no s.heap s.heap [] := va_S.rf
  have hl := lv_entry ([.ref a0, .int p0]) (n := 2) (Nat.le_of_ble_eq_true rfl)
  rw [lg_entry_eq]
  generalize (lg_sl ([.ref a0, .int p0]) ++ List.replicate (2 - (lg_sl ([.ref a0, .int p0])).length) Slot.unset).toArray = ls at hl ⊢
  have hl : lv_has ls 2 [(0, .ref a0), (1, .int p0)] := hl
  refine lv_aload_n hx hb dX10_isPerson_0 rfl (lv_at hl 0 rfl) ?_
  refine va_get (D := G) (ci := 10) (v := .ref a11) (C := RX10) (T := TX10) (N := 11) hx hb hts (by decide +kernel) hown hK.1 hP 0 rfl rfl 2 (by decide) (hts (.fieldLink RX10 28 "CardHolder" "play" "LCardHolder$Play;") (by decide +kernel)) (fun _ h9 => h9) rfl dX10_isPerson_1 ?_
  refine va_get (D := G) (ci := 4) (v := .ref a19) (C := RX4) (T := TX4) (N := 4) hx hb hts (by decide +kernel) hown hK.1 hP 1 rfl rfl 1 (by decide) (hts (.fieldLink RX10 147 "CardHolder$Play" "hands" "LCardHolder$Hands;") (by decide +kernel)) (fun _ h9 => h9) rfl dX10_isPerson_4 ?_
  refine va_get (D := G) (ci := 2) (v := .ref a20) (C := RX2) (T := TX2) (N := 8) hx hb hts (by decide +kernel) hown hK.1 hP 2 rfl rfl 1 (by decide) (hts (.fieldLink RX10 366 "CardHolder$Hands" "bonds" "LCardHolder$Bonds;") (by decide +kernel)) (fun _ h9 => h9) rfl dX10_isPerson_7 ?_
  refine lv_iload_n hx hb dX10_isPerson_10 rfl (lv_at hl 1 rfl) ?_
  refine ro_calli (va_runV (As := [.int p0]) (rest := []) ⟨hx, hb, hml, hown, hts⟩ (a_X0_has l G ct a20 a21 n20_1 p0 hp_n20_1) (cwV 1 hts gX10_isPerson_X0_has rfl rfl rfl (by decide +kernel) ⟨Nat.le_of_ble_eq_true rfl, Nat.le_of_ble_eq_true rfl⟩) (ro_preV 0 0 hK (hP.sub [3] rfl) rfl rfl) rfl rfl hl.1 rfl (lv_room (Nat.le_of_ble_eq_true rfl)) dX10_isPerson_11 ⟨Nat.zero_le _, Nat.zero_le _⟩) hS hP (fun r11 H locs wr11 hP hS => ?_)
  obtain ⟨p_1, p_2, p_3, -⟩ := wr11
  exact W.zret (v := r11) (ty := .boolean) hx hb hr (nar_rg p_1) (fun t ht hW => ⟨⟨r11, (), rfl, ⟨p_1, (fun hq => rg_w (p_2 hq) (by decide)), (fun hq => rg_w (p_3 hq) (by decide)), trivial⟩, trivial⟩, hS.F ht⟩) hS.2.2 dX10_isPerson_14

set_option maxHeartbeats 4000000 in
set_option maxRecDepth 100000 in
theorem a_X10_isPersonSet (l : Launch) (G : va_G) (ct : Nat → ClassId) (a0 : Nat) (a1 : Nat) (a3 : Nat) (a11 : Nat) (a25 : Nat) (a68 : Nat) (a69 : Nat) (a77 : Nat) (a82 : Nat) (a84 : Nat) (a88 : Nat) (a91 : Nat) (a12 : Nat) (a19 : Nat) (a24 : Nat) (n11_3 : Int32) (a20 : Nat) (a22 : Nat) (a23 : Nat) (n19_4 : Int32) (n19_5 : Int32) (n19_6 : Int32) (n19_7 : Int32) (a21 : Nat) (n20_1 : Int32) (p0 : Int32) (hp_n20_1 : rg 0 8 n20_1) : Met l yX10_isPersonSet wsX10_isPersonSet ({ frames := 1, cells := 0, slots := 0, locals := 20 }) (va_Pc [.ref a0, .int p0] (roP G ct [(a0, .inr (10, [.ref a1, .ref a3, .ref a11, .ref a25, .ref a68, .ref a69, .ref a77, .ref a82, .ref a84, .ref a88, .ref a91])), (a11, .inr (4, [.ref a12, .ref a19, .ref a24, .int n11_3])), (a19, .inr (2, [.ref a12, .ref a20, .ref a22, .ref a23, .int n19_4, .int n19_5, .int n19_6, .int n19_7])), (a20, .inr (0, [.ref a21, .int n20_1]))])) (roQ (fun r => rg 0 1 r ∧ (¬ r = 0 → rg 0 255 p0) ∧ True)) 0 0 no := by
  refine Met.ofW (cc := cX10_isPersonSet) (maxL := 2) (ret := (some .boolean)) (by decide) rfl ?_
  intro p e s m args below meth c s₁ B hml hv
  obtain ⟨rfl, hP, hK⟩ := hv
  have hx := B.exec
  have hb := B.bytes
  have hr := B.returns
  have hts := atoms_spec (ws := wsX10_isPersonSet) B.pre
  have hown : s.vm.findClass RX10 = some m.cls := findClass_of_methodNamed B.named
  have hlocks := B.notSynchronized
  have hS : va_S no s.heap s.heap [] := va_S.rf
  have hl := lv_entry ([.ref a0, .int p0]) (n := 2) (Nat.le_of_ble_eq_true rfl)
  rw [lg_entry_eq]
  generalize (lg_sl ([.ref a0, .int p0]) ++ List.replicate (2 - (lg_sl ([.ref a0, .int p0])).length) Slot.unset).toArray = ls at hl ⊢
  have hl : lv_has ls 2 [(0, .ref a0), (1, .int p0)] := hl
  refine lv_iload_n hx hb dX10_isPersonSet_0 rfl (lv_at hl 1 rfl) ?_
  refine lv_if_lt (tgt := 19) hx hb dX10_isPersonSet_1 (by decide) (fun c1 => ?_) (fun c1 => ?_)
  · have h_1 : rg (-2147483648) (-1) p0 := r_lt_l_i c1 (rg_t p0) (rgn 0 (x := 0) (by decide)) (by decide)
    refine lv_iconst (v := 0) hx hb dX10_isPersonSet_19 (by decide) ?_
    exact W.zret (v := 0) (ty := .boolean) hx hb hr (rfl) (fun t ht hW => ⟨⟨0, (), rfl, ⟨(rg_w (c := 0) (d := 1) (rgn 0 (x := 0) (by decide)) (by decide)), (fun hq => absurd (req (rgn 0 (x := 0) (by decide)) (y := 0) (by decide)) hq), trivial⟩, trivial⟩, hS.F ht⟩) hS.2.2 dX10_isPersonSet_20
  · have h_2 : rg 0 2147483647 p0 := r_le_r_i (nlt_i c1) (rgn 0 (x := 0) (by decide)) (rg_t p0)
    refine lv_iload_n hx hb dX10_isPersonSet_4 rfl (lv_at hl 1 rfl) ?_
    refine lv_aload_n hx hb dX10_isPersonSet_5 rfl (lv_at hl 0 rfl) ?_
    refine ro_callr (va_runV (As := []) (rest := [.int p0]) ⟨hx, hb, hml, hown, hts⟩ (a_X10_bonds l G ct a0 a1 a3 a11 a25 a68 a69 a77 a82 a84 a88 a91 a12 a19 a24 n11_3 a20 a22 a23 n19_4 n19_5 n19_6 n19_7) (cwV 0 hts gX10_isPersonSet_X10_bonds rfl rfl rfl (by decide +kernel) ⟨Nat.le_of_ble_eq_true rfl, Nat.le_of_ble_eq_true rfl⟩) (ro_preV 10 0 hK (hP.sub [0, 1, 2] rfl) rfl rfl) rfl rfl hl.1 rfl (lv_room (Nat.le_of_ble_eq_true rfl)) dX10_isPersonSet_6 ⟨Nat.zero_le _, Nat.zero_le _⟩) hS hP (fun H locs hP hS => ?_)
    refine ro_calli (va_runV (As := []) (rest := [.int p0]) ⟨hx, hb, hml, hown, hts⟩ (a_X0_everyone l G ct a20 a21 n20_1 hp_n20_1) (cwV 0 hts gX10_isPersonSet_X0_everyone rfl rfl rfl (by decide +kernel) ⟨Nat.le_of_ble_eq_true rfl, Nat.le_of_ble_eq_true rfl⟩) (ro_preV 0 0 hK (hP.sub [3] rfl) rfl rfl) rfl rfl hl.1 rfl (lv_room (Nat.le_of_ble_eq_true rfl)) dX10_isPersonSet_9 ⟨Nat.zero_le _, Nat.zero_le _⟩) hS hP (fun r9 H locs wr9 hP hS => ?_)
    obtain ⟨p_3, -⟩ := wr9
    refine lv_icmp_gt (tgt := 19) hx hb dX10_isPersonSet_12 (by decide) (fun c12 => ?_) (fun c12 => ?_)
    · have h_4 : rg 1 2147483647 p0 := r_lt_r_i c12 p_3 h_2 (by decide)
      refine lv_iconst (v := 0) hx hb dX10_isPersonSet_19 (by decide) ?_
      exact W.zret (v := 0) (ty := .boolean) hx hb hr (rfl) (fun t ht hW => ⟨⟨0, (), rfl, ⟨(rg_w (c := 0) (d := 1) (rgn 0 (x := 0) (by decide)) (by decide)), (fun hq => absurd (req (rgn 0 (x := 0) (by decide)) (y := 0) (by decide)) hq), trivial⟩, trivial⟩, hS.F ht⟩) hS.2.2 dX10_isPersonSet_20
    · have h_5 : rg 0 255 p0 := r_le_l_i (nlt_i c12) h_2 p_3
      refine lv_iconst (v := 1) hx hb dX10_isPersonSet_15 (by decide) ?_
      refine lv_goto (tgt := 20) hx hb dX10_isPersonSet_16 (by decide) ?_
      exact W.zret (v := 1) (ty := .boolean) hx hb hr (rfl) (fun t ht hW => ⟨⟨1, (), rfl, ⟨(rg_w (c := 0) (d := 1) (rgn 1 (x := 1) (by decide)) (by decide)), (fun _ => h_5), trivial⟩, trivial⟩, hS.F ht⟩) hS.2.2 dX10_isPersonSet_20

set_option maxHeartbeats 4000000 in
set_option maxRecDepth 100000 in
theorem a_X10_canDuel (l : Launch) (G : va_G) (ct : Nat → ClassId) (a0 : Nat) (a1 : Nat) (a3 : Nat) (a11 : Nat) (a25 : Nat) (a68 : Nat) (a69 : Nat) (a77 : Nat) (a82 : Nat) (a84 : Nat) (a88 : Nat) (a91 : Nat) (a12 : Nat) (a19 : Nat) (a24 : Nat) (n11_3 : Int32) (a20 : Nat) (a22 : Nat) (a23 : Nat) (n19_4 : Int32) (n19_5 : Int32) (n19_6 : Int32) (n19_7 : Int32) (a21 : Nat) (n20_1 : Int32) (f21 : Nat → Int32) (p0 : Int32) (p1 : Int32) (hp_n20_1 : rg 0 8 n20_1) : Met l yX10_canDuel wsX10_canDuel ({ frames := 3, cells := 0, slots := 0, locals := 65 }) (va_Pc [.ref a0, .int p0, .int p1] (roP G ct [(a0, .inr (10, [.ref a1, .ref a3, .ref a11, .ref a25, .ref a68, .ref a69, .ref a77, .ref a82, .ref a84, .ref a88, .ref a91])), (a11, .inr (4, [.ref a12, .ref a19, .ref a24, .int n11_3])), (a19, .inr (2, [.ref a12, .ref a20, .ref a22, .ref a23, .int n19_4, .int n19_5, .int n19_6, .int n19_7])), (a20, .inr (0, [.ref a21, .int n20_1])), (a21, .inl (ct 0, 8, .inl f21))])) (roQ (fun r => rg 0 1 r ∧ (¬ r = 0 → rg 0 7 p0) ∧ (¬ r = 0 → rg 0 7 p1) ∧ (¬ r = 0 → rg 1 8 n20_1) ∧ True)) 0 0 no := by
  refine Met.ofW (cc := cX10_canDuel) (maxL := 3) (ret := (some .boolean)) (by decide) rfl ?_
  intro p e s m args below meth c s₁ B hml hv
  obtain ⟨rfl, hP, hK⟩ := hv
  have hx := B.exec
  have hb := B.bytes
  have hr := B.returns
  have hts := atoms_spec (ws := wsX10_canDuel) B.pre
  have hown : s.vm.findClass RX10 = some m.cls := findClass_of_methodNamed B.named
  have hlocks := B.notSynchronized
  have hS : va_S no s.heap s.heap [] := va_S.rf
  have hl := lv_entry ([.ref a0, .int p0, .int p1]) (n := 3) (Nat.le_of_ble_eq_true rfl)
  rw [lg_entry_eq]
  generalize (lg_sl ([.ref a0, .int p0, .int p1]) ++ List.replicate (3 - (lg_sl ([.ref a0, .int p0, .int p1])).length) Slot.unset).toArray = ls at hl ⊢
  have hl : lv_has ls 3 [(0, .ref a0), (1, .int p0), (2, .int p1)] := hl
  refine lv_aload_n hx hb dX10_canDuel_0 rfl (lv_at hl 0 rfl) ?_
  refine lv_iload_n hx hb dX10_canDuel_1 rfl (lv_at hl 1 rfl) ?_
  refine ro_calli (va_runV (As := [.int p0]) (rest := []) ⟨hx, hb, hml, hown, hts⟩ (a_X10_isPerson l G ct a0 a1 a3 a11 a25 a68 a69 a77 a82 a84 a88 a91 a12 a19 a24 n11_3 a20 a22 a23 n19_4 n19_5 n19_6 n19_7 a21 n20_1 p0 hp_n20_1) (cwV 1 hts gX10_canDuel_X10_isPerson rfl rfl rfl (by decide +kernel) ⟨Nat.le_of_ble_eq_true rfl, Nat.le_of_ble_eq_true rfl⟩) (ro_preV 10 0 hK (hP.sub [0, 1, 2, 3] rfl) rfl rfl) rfl rfl hl.1 rfl (lv_room (Nat.le_of_ble_eq_true rfl)) dX10_canDuel_2 ⟨Nat.zero_le _, Nat.zero_le _⟩) hS hP (fun r2 H locs wr2 hP hS => ?_)
  obtain ⟨p_1, p_2, p_3, -⟩ := wr2
  refine lv_if_eq (tgt := 47) hx hb dX10_canDuel_5 (by decide) (fun c5 => ?_) (fun c5 => ?_)
  · have h_4 : rg 0 0 r2 := r_eq_l_i (e := 0) (f := 0) c5 p_1 (rgn 0 (x := 0) (by decide)) (by decide)
    refine lv_iconst (v := 0) hx hb dX10_canDuel_47 (by decide) ?_
    exact W.zret (v := 0) (ty := .boolean) hx hb hr (rfl) (fun t ht hW => ⟨⟨0, (), rfl, ⟨(rg_w (c := 0) (d := 1) (rgn 0 (x := 0) (by decide)) (by decide)), (fun hq => absurd (req (rgn 0 (x := 0) (by decide)) (y := 0) (by decide)) hq), (fun hq => absurd (req (rgn 0 (x := 0) (by decide)) (y := 0) (by decide)) hq), (fun hq => absurd (req (rgn 0 (x := 0) (by decide)) (y := 0) (by decide)) hq), trivial⟩, trivial⟩, hS.F ht⟩) hS.2.2 dX10_canDuel_48
  · have h_5 : rg 1 1 r2 := r_ne_lo_i c5 p_1 (by decide) (by decide)
    have h_6 : rg 0 7 p0 := (p_2 (rne h_5 (y := 0) (c := 0) (by decide) (by decide)))
    have h_7 : rg 1 8 n20_1 := (p_3 (rne h_5 (y := 0) (c := 0) (by decide) (by decide)))
    refine lv_aload_n hx hb dX10_canDuel_8 rfl (lv_at hl 0 rfl) ?_
    refine lv_iload_n hx hb dX10_canDuel_9 rfl (lv_at hl 2 rfl) ?_
    refine ro_calli (va_runV (As := [.int p1]) (rest := []) ⟨hx, hb, hml, hown, hts⟩ (a_X10_isPerson l G ct a0 a1 a3 a11 a25 a68 a69 a77 a82 a84 a88 a91 a12 a19 a24 n11_3 a20 a22 a23 n19_4 n19_5 n19_6 n19_7 a21 n20_1 p1 (rg_w (c := 0) (d := 8) h_7 (by decide))) (cwV 1 hts gX10_canDuel_X10_isPerson rfl rfl rfl (by decide +kernel) ⟨Nat.le_of_ble_eq_true rfl, Nat.le_of_ble_eq_true rfl⟩) (ro_preV 10 0 hK (hP.sub [0, 1, 2, 3] rfl) rfl rfl) rfl rfl hl.1 rfl (lv_room (Nat.le_of_ble_eq_true rfl)) dX10_canDuel_10 ⟨Nat.zero_le _, Nat.zero_le _⟩) hS hP (fun r10 H locs wr10 hP hS => ?_)
    obtain ⟨p_8, p_9, p_10, -⟩ := wr10
    refine lv_if_eq (tgt := 47) hx hb dX10_canDuel_13 (by decide) (fun c13 => ?_) (fun c13 => ?_)
    · have h_11 : rg 0 0 r10 := r_eq_l_i (e := 0) (f := 0) c13 p_8 (rgn 0 (x := 0) (by decide)) (by decide)
      refine lv_iconst (v := 0) hx hb dX10_canDuel_47 (by decide) ?_
      exact W.zret (v := 0) (ty := .boolean) hx hb hr (rfl) (fun t ht hW => ⟨⟨0, (), rfl, ⟨(rg_w (c := 0) (d := 1) (rgn 0 (x := 0) (by decide)) (by decide)), (fun _ => h_6), (fun hq => absurd (req (rgn 0 (x := 0) (by decide)) (y := 0) (by decide)) hq), (fun _ => h_7), trivial⟩, trivial⟩, hS.F ht⟩) hS.2.2 dX10_canDuel_48
    · have h_12 : rg 1 1 r10 := r_ne_lo_i c13 p_8 (by decide) (by decide)
      have h_13 : rg 0 7 p1 := (p_9 (rne h_12 (y := 0) (c := 0) (by decide) (by decide)))
      refine lv_iload_n hx hb dX10_canDuel_16 rfl (lv_at hl 1 rfl) ?_
      refine lv_iload_n hx hb dX10_canDuel_17 rfl (lv_at hl 2 rfl) ?_
      refine lv_icmp_eq (tgt := 47) hx hb dX10_canDuel_18 (by decide) (fun c18 => ?_) (fun c18 => ?_)
      · refine lv_iconst (v := 0) hx hb dX10_canDuel_47 (by decide) ?_
        exact W.zret (v := 0) (ty := .boolean) hx hb hr (rfl) (fun t ht hW => ⟨⟨0, (), rfl, ⟨(rg_w (c := 0) (d := 1) (rgn 0 (x := 0) (by decide)) (by decide)), (fun _ => h_6), (fun _ => h_13), (fun _ => h_7), trivial⟩, trivial⟩, hS.F ht⟩) hS.2.2 dX10_canDuel_48
      · refine lv_aload_n hx hb dX10_canDuel_21 rfl (lv_at hl 0 rfl) ?_
        refine ro_callr (va_runV (As := []) (rest := []) ⟨hx, hb, hml, hown, hts⟩ (a_X10_bonds l G ct a0 a1 a3 a11 a25 a68 a69 a77 a82 a84 a88 a91 a12 a19 a24 n11_3 a20 a22 a23 n19_4 n19_5 n19_6 n19_7) (cwV 0 hts gX10_canDuel_X10_bonds rfl rfl rfl (by decide +kernel) ⟨Nat.le_of_ble_eq_true rfl, Nat.le_of_ble_eq_true rfl⟩) (ro_preV 10 0 hK (hP.sub [0, 1, 2] rfl) rfl rfl) rfl rfl hl.1 rfl (lv_room (Nat.le_of_ble_eq_true rfl)) dX10_canDuel_22 ⟨Nat.zero_le _, Nat.zero_le _⟩) hS hP (fun H locs hP hS => ?_)
        refine lv_iload_n hx hb dX10_canDuel_25 rfl (lv_at hl 1 rfl) ?_
        refine ro_calli (va_runV (As := [.int p0]) (rest := []) ⟨hx, hb, hml, hown, hts⟩ (a_X0_handOf l G ct a20 a21 n20_1 f21 p0 (rg_w (c := 0) (d := 8) h_7 (by decide))) (cwV 1 hts gX10_canDuel_X0_handOf rfl rfl rfl (by decide +kernel) ⟨Nat.le_of_ble_eq_true rfl, Nat.le_of_ble_eq_true rfl⟩) (ro_preV 0 0 hK (hP.sub [3, 4] rfl) rfl rfl) rfl rfl hl.1 rfl (lv_room (Nat.le_of_ble_eq_true rfl)) dX10_canDuel_26 ⟨Nat.zero_le _, Nat.zero_le _⟩) hS hP (fun r26 H locs wr26 hP hS => ?_)
        obtain ⟨p_14, -⟩ := wr26
        refine lv_if_eq (tgt := 47) hx hb dX10_canDuel_29 (by decide) (fun c29 => ?_) (fun c29 => ?_)
        · have h_15 : rg 0 0 r26 := r_eq_l_i (e := 0) (f := 0) c29 p_14 (rgn 0 (x := 0) (by decide)) (by decide)
          refine lv_iconst (v := 0) hx hb dX10_canDuel_47 (by decide) ?_
          exact W.zret (v := 0) (ty := .boolean) hx hb hr (rfl) (fun t ht hW => ⟨⟨0, (), rfl, ⟨(rg_w (c := 0) (d := 1) (rgn 0 (x := 0) (by decide)) (by decide)), (fun _ => h_6), (fun _ => h_13), (fun _ => h_7), trivial⟩, trivial⟩, hS.F ht⟩) hS.2.2 dX10_canDuel_48
        · have h_16 : rg 1 255 r26 := r_ne_lo_i c29 p_14 (by decide) (by decide)
          refine lv_aload_n hx hb dX10_canDuel_32 rfl (lv_at hl 0 rfl) ?_
          refine ro_callr (va_runV (As := []) (rest := []) ⟨hx, hb, hml, hown, hts⟩ (a_X10_bonds l G ct a0 a1 a3 a11 a25 a68 a69 a77 a82 a84 a88 a91 a12 a19 a24 n11_3 a20 a22 a23 n19_4 n19_5 n19_6 n19_7) (cwV 0 hts gX10_canDuel_X10_bonds rfl rfl rfl (by decide +kernel) ⟨Nat.le_of_ble_eq_true rfl, Nat.le_of_ble_eq_true rfl⟩) (ro_preV 10 0 hK (hP.sub [0, 1, 2] rfl) rfl rfl) rfl rfl hl.1 rfl (lv_room (Nat.le_of_ble_eq_true rfl)) dX10_canDuel_33 ⟨Nat.zero_le _, Nat.zero_le _⟩) hS hP (fun H locs hP hS => ?_)
          refine lv_iload_n hx hb dX10_canDuel_36 rfl (lv_at hl 2 rfl) ?_
          refine ro_calli (va_runV (As := [.int p1]) (rest := []) ⟨hx, hb, hml, hown, hts⟩ (a_X0_handOf l G ct a20 a21 n20_1 f21 p1 (rg_w (c := 0) (d := 8) h_7 (by decide))) (cwV 1 hts gX10_canDuel_X0_handOf rfl rfl rfl (by decide +kernel) ⟨Nat.le_of_ble_eq_true rfl, Nat.le_of_ble_eq_true rfl⟩) (ro_preV 0 0 hK (hP.sub [3, 4] rfl) rfl rfl) rfl rfl hl.1 rfl (lv_room (Nat.le_of_ble_eq_true rfl)) dX10_canDuel_37 ⟨Nat.zero_le _, Nat.zero_le _⟩) hS hP (fun r37 H locs wr37 hP hS => ?_)
          obtain ⟨p_17, -⟩ := wr37
          refine lv_if_eq (tgt := 47) hx hb dX10_canDuel_40 (by decide) (fun c40 => ?_) (fun c40 => ?_)
          · have h_18 : rg 0 0 r37 := r_eq_l_i (e := 0) (f := 0) c40 p_17 (rgn 0 (x := 0) (by decide)) (by decide)
            refine lv_iconst (v := 0) hx hb dX10_canDuel_47 (by decide) ?_
            exact W.zret (v := 0) (ty := .boolean) hx hb hr (rfl) (fun t ht hW => ⟨⟨0, (), rfl, ⟨(rg_w (c := 0) (d := 1) (rgn 0 (x := 0) (by decide)) (by decide)), (fun _ => h_6), (fun _ => h_13), (fun _ => h_7), trivial⟩, trivial⟩, hS.F ht⟩) hS.2.2 dX10_canDuel_48
          · have h_19 : rg 1 255 r37 := r_ne_lo_i c40 p_17 (by decide) (by decide)
            refine lv_iconst (v := 1) hx hb dX10_canDuel_43 (by decide) ?_
            refine lv_goto (tgt := 48) hx hb dX10_canDuel_44 (by decide) ?_
            exact W.zret (v := 1) (ty := .boolean) hx hb hr (rfl) (fun t ht hW => ⟨⟨1, (), rfl, ⟨(rg_w (c := 0) (d := 1) (rgn 1 (x := 1) (by decide)) (by decide)), (fun _ => h_6), (fun _ => h_13), (fun _ => h_7), trivial⟩, trivial⟩, hS.F ht⟩) hS.2.2 dX10_canDuel_48

set_option maxHeartbeats 4000000 in
set_option maxRecDepth 100000 in
theorem a_X10_slotState (l : Launch) (G : va_G) (ct : Nat → ClassId) (a0 : Nat) (a1 : Nat) (a3 : Nat) (a11 : Nat) (a25 : Nat) (a68 : Nat) (a69 : Nat) (a77 : Nat) (a82 : Nat) (a84 : Nat) (a88 : Nat) (a91 : Nat) (a12 : Nat) (a19 : Nat) (a24 : Nat) (n11_3 : Int32) (a13 : Nat) (a15 : Nat) (a16 : Nat) (a17 : Nat) (a18 : Nat) (n12_5 : Int32) (n12_6 : Int32) (a70 : Nat) (a75 : Nat) (a76 : Nat) (n69_3 : Int32) (p0 : Int32)  : Met l yX10_slotState wsX10_slotState ({ frames := 2, cells := 0, slots := 0, locals := 42 }) (va_Pc [.ref a0, .int p0] (roP G ct [(a0, .inr (10, [.ref a1, .ref a3, .ref a11, .ref a25, .ref a68, .ref a69, .ref a77, .ref a82, .ref a84, .ref a88, .ref a91])), (a11, .inr (4, [.ref a12, .ref a19, .ref a24, .int n11_3])), (a12, .inr (9, [.ref a13, .ref a15, .ref a16, .ref a17, .ref a18, .int n12_5, .int n12_6])), (a69, .inr (6, [.ref a70, .ref a75, .ref a76, .int n69_3]))])) (roQ (fun r => rg (-6) 0 r ∧ (r = 0 → rg 0 3 p0) ∧ (¬ r = (-2) → rg 0 3 p0) ∧ (r = 0 → rg 1 2147483647 n12_5) ∧ (¬ r = (-2) → rg 1 2147483647 n12_5) ∧ True)) 0 0 no := by
  refine Met.ofW (cc := cX10_slotState) (maxL := 2) (ret := (some .int)) (by decide) rfl ?_
  intro p e s m args below meth c s₁ B hml hv
  obtain ⟨rfl, hP, hK⟩ := hv
  have hx := B.exec
  have hb := B.bytes
  have hr := B.returns
  have hts := atoms_spec (ws := wsX10_slotState) B.pre
  have hown : s.vm.findClass RX10 = some m.cls := findClass_of_methodNamed B.named
  have hlocks := B.notSynchronized
  have hS : va_S no s.heap s.heap [] := va_S.rf
  have hl := lv_entry ([.ref a0, .int p0]) (n := 2) (Nat.le_of_ble_eq_true rfl)
  rw [lg_entry_eq]
  generalize (lg_sl ([.ref a0, .int p0]) ++ List.replicate (2 - (lg_sl ([.ref a0, .int p0])).length) Slot.unset).toArray = ls at hl ⊢
  have hl : lv_has ls 2 [(0, .ref a0), (1, .int p0)] := hl
  refine lv_aload_n hx hb dX10_slotState_0 rfl (lv_at hl 0 rfl) ?_
  refine va_get (D := G) (ci := 10) (v := .ref a69) (C := RX10) (T := TX10) (N := 11) hx hb hts (by decide +kernel) hown hK.1 hP 0 rfl rfl 5 (by decide) (hts (.fieldLink RX10 43 "CardHolder" "rows" "LCardHolder$Rows;") (by decide +kernel)) (fun _ h9 => h9) rfl dX10_slotState_1 ?_
  refine lv_iload_n hx hb dX10_slotState_4 rfl (lv_at hl 1 rfl) ?_
  refine ro_calli (va_runV (As := [.int p0]) (rest := []) ⟨hx, hb, hml, hown, hts⟩ (a_X6_isSlot l G ct a69 a70 a75 a76 n69_3 p0) (cwV 1 hts gX10_slotState_X6_isSlot rfl rfl rfl (by decide +kernel) ⟨Nat.le_of_ble_eq_true rfl, Nat.le_of_ble_eq_true rfl⟩) (ro_preV 6 0 hK (hP.sub [3] rfl) rfl rfl) rfl rfl hl.1 rfl (lv_room (Nat.le_of_ble_eq_true rfl)) dX10_slotState_5 ⟨Nat.zero_le _, Nat.zero_le _⟩) hS hP (fun r5 H locs wr5 hP hS => ?_)
  obtain ⟨p_1, p_2, -⟩ := wr5
  refine lv_if_eq (tgt := 18) hx hb dX10_slotState_8 (by decide) (fun c8 => ?_) (fun c8 => ?_)
  · have h_3 : rg 0 0 r5 := r_eq_l_i (e := 0) (f := 0) c8 p_1 (rgn 0 (x := 0) (by decide)) (by decide)
    refine lv_bipush (v := (-2)) hx hb dX10_slotState_18 (by decide) ?_
    exact W.iret (v := (-2)) hx hb hr (fun t ht hW => ⟨⟨(-2), (), rfl, ⟨(rg_w (c := (-6)) (d := 0) (rgn (-2) (x := (-2)) (by decide)) (by decide)), (fun hq => absurd hq (rne (rgn (-2) (x := (-2)) (by decide)) (y := 0) (c := 0) (by decide) (by decide))), (fun hq => absurd (req (rgn (-2) (x := (-2)) (by decide)) (y := (-2)) (by decide)) hq), (fun hq => absurd hq (rne (rgn (-2) (x := (-2)) (by decide)) (y := 0) (c := 0) (by decide) (by decide))), (fun hq => absurd (req (rgn (-2) (x := (-2)) (by decide)) (y := (-2)) (by decide)) hq), trivial⟩, trivial⟩, hS.F ht⟩) hS.2.2 dX10_slotState_20
  · have h_4 : rg 1 1 r5 := r_ne_lo_i c8 p_1 (by decide) (by decide)
    have h_5 : rg 0 3 p0 := (p_2 (rne h_4 (y := 0) (c := 0) (by decide) (by decide)))
    refine lv_aload_n hx hb dX10_slotState_11 rfl (lv_at hl 0 rfl) ?_
    refine ro_calli (va_runV (As := []) (rest := []) ⟨hx, hb, hml, hown, hts⟩ (a_X10_hasCity l G ct a0 a1 a3 a11 a25 a68 a69 a77 a82 a84 a88 a91 a12 a19 a24 n11_3 a13 a15 a16 a17 a18 n12_5 n12_6) (cwV 0 hts gX10_slotState_X10_hasCity rfl rfl rfl (by decide +kernel) ⟨Nat.le_of_ble_eq_true rfl, Nat.le_of_ble_eq_true rfl⟩) (ro_preV 10 0 hK (hP.sub [0, 1, 2] rfl) rfl rfl) rfl rfl hl.1 rfl (lv_room (Nat.le_of_ble_eq_true rfl)) dX10_slotState_12 ⟨Nat.zero_le _, Nat.zero_le _⟩) hS hP (fun r12 H locs wr12 hP hS => ?_)
    obtain ⟨p_6, p_7, p_8, -⟩ := wr12
    refine lv_if_ne (tgt := 21) hx hb dX10_slotState_15 (by decide) (fun c15 => ?_) (fun c15 => ?_)
    · have h_9 : rg 1 1 r12 := r_ne_lo_i c15 p_6 (by decide) (by decide)
      have h_10 : rg 1 2147483647 n12_5 := (p_7 (rne h_9 (y := 0) (c := 0) (by decide) (by decide)))
      refine lv_aload_n hx hb dX10_slotState_21 rfl (lv_at hl 0 rfl) ?_
      refine va_get (D := G) (ci := 10) (v := .ref a69) (C := RX10) (T := TX10) (N := 11) hx hb hts (by decide +kernel) hown hK.1 hP 0 rfl rfl 5 (by decide) (hts (.fieldLink RX10 43 "CardHolder" "rows" "LCardHolder$Rows;") (by decide +kernel)) (fun _ h9 => h9) rfl dX10_slotState_22 ?_
      refine lv_iload_n hx hb dX10_slotState_25 rfl (lv_at hl 1 rfl) ?_
      refine ro_calli (va_runV (As := [.int p0]) (rest := []) ⟨hx, hb, hml, hown, hts⟩ (a_X6_isKept l G ct a69 a70 a75 a76 n69_3 p0) (cwV 1 hts gX10_slotState_X6_isKept rfl rfl rfl (by decide +kernel) ⟨Nat.le_of_ble_eq_true rfl, Nat.le_of_ble_eq_true rfl⟩) (ro_preV 6 0 hK (hP.sub [3] rfl) rfl rfl) rfl rfl hl.1 rfl (lv_room (Nat.le_of_ble_eq_true rfl)) dX10_slotState_26 ⟨Nat.zero_le _, Nat.zero_le _⟩) hS hP (fun r26 H locs wr26 hP hS => ?_)
      obtain ⟨p_11, p_12, -⟩ := wr26
      refine lv_if_eq (tgt := 36) hx hb dX10_slotState_29 (by decide) (fun c29 => ?_) (fun c29 => ?_)
      · have h_13 : rg 0 0 r26 := r_eq_l_i (e := 0) (f := 0) c29 p_11 (rgn 0 (x := 0) (by decide)) (by decide)
        refine lv_bipush (v := (-6)) hx hb dX10_slotState_36 (by decide) ?_
        exact W.iret (v := (-6)) hx hb hr (fun t ht hW => ⟨⟨(-6), (), rfl, ⟨(rg_w (c := (-6)) (d := 0) (rgn (-6) (x := (-6)) (by decide)) (by decide)), (fun _ => h_5), (fun _ => h_5), (fun _ => h_10), (fun _ => h_10), trivial⟩, trivial⟩, hS.F ht⟩) hS.2.2 dX10_slotState_38
      · have h_14 : rg 1 1 r26 := r_ne_lo_i c29 p_11 (by decide) (by decide)
        refine lv_iconst (v := 0) hx hb dX10_slotState_32 (by decide) ?_
        refine lv_goto (tgt := 38) hx hb dX10_slotState_33 (by decide) ?_
        exact W.iret (v := 0) hx hb hr (fun t ht hW => ⟨⟨0, (), rfl, ⟨(rg_w (c := (-6)) (d := 0) (rgn 0 (x := 0) (by decide)) (by decide)), (fun _ => h_5), (fun _ => h_5), (fun _ => h_10), (fun _ => h_10), trivial⟩, trivial⟩, hS.F ht⟩) hS.2.2 dX10_slotState_38
    · have h_15 : rg 0 0 r12 := r_eq_l_i (e := 0) (f := 0) c15 p_6 (rgn 0 (x := 0) (by decide)) (by decide)
      have h_16 : rg (-2147483648) 0 n12_5 := (p_8 (req h_15 (y := 0) (by decide)))
      refine lv_bipush (v := (-2)) hx hb dX10_slotState_18 (by decide) ?_
      exact W.iret (v := (-2)) hx hb hr (fun t ht hW => ⟨⟨(-2), (), rfl, ⟨(rg_w (c := (-6)) (d := 0) (rgn (-2) (x := (-2)) (by decide)) (by decide)), (fun _ => h_5), (fun _ => h_5), (fun hq => absurd hq (rne (rgn (-2) (x := (-2)) (by decide)) (y := 0) (c := 0) (by decide) (by decide))), (fun hq => absurd (req (rgn (-2) (x := (-2)) (by decide)) (y := (-2)) (by decide)) hq), trivial⟩, trivial⟩, hS.F ht⟩) hS.2.2 dX10_slotState_20

set_option maxHeartbeats 4000000 in
set_option maxRecDepth 100000 in
theorem a_X10_deedRowState (l : Launch) (G : va_G) (ct : Nat → ClassId) (a0 : Nat) (a1 : Nat) (a3 : Nat) (a11 : Nat) (a25 : Nat) (a68 : Nat) (a69 : Nat) (a77 : Nat) (a82 : Nat) (a84 : Nat) (a88 : Nat) (a91 : Nat) (a12 : Nat) (a19 : Nat) (a24 : Nat) (n11_3 : Int32) (a13 : Nat) (a15 : Nat) (a16 : Nat) (a17 : Nat) (a18 : Nat) (n12_5 : Int32) (n12_6 : Int32) (a70 : Nat) (a75 : Nat) (a76 : Nat) (n69_3 : Int32) (rr : Nat → Nat) (f71 : Nat → Int64) (f72 : Nat → Int64) (f73 : Nat → Int64) (f74 : Nat → Int64) (f76 : Nat → Int32) (p0 : Int32) (hp_f76 : ar 0 60 f76) : Met l yX10_deedRowState wsX10_deedRowState ({ frames := 4, cells := 0, slots := 0, locals := 87 }) (va_Pc [.ref a0, .int p0] (roP G ct [(a0, .inr (10, [.ref a1, .ref a3, .ref a11, .ref a25, .ref a68, .ref a69, .ref a77, .ref a82, .ref a84, .ref a88, .ref a91])), (a11, .inr (4, [.ref a12, .ref a19, .ref a24, .int n11_3])), (a12, .inr (9, [.ref a13, .ref a15, .ref a16, .ref a17, .ref a18, .int n12_5, .int n12_6])), (a69, .inr (6, [.ref a70, .ref a75, .ref a76, .int n69_3])), (a70, .inl (ct 5, 4, .inr (.inr (.inr (.inr (fun i => if i < 4 then some (rr i) else none)))))), ((rr 0), .inl (ct 3, 60, .inr (.inl f71))), ((rr 1), .inl (ct 3, 60, .inr (.inl f72))), ((rr 2), .inl (ct 3, 60, .inr (.inl f73))), ((rr 3), .inl (ct 3, 60, .inr (.inl f74))), (a76, .inl (ct 0, 4, .inl f76))])) (roQ (fun r => rg (-6) 0 r ∧ (r = 0 → rg 0 3 p0) ∧ (¬ r = (-2) → rg 0 3 p0) ∧ (r = 0 → rg 1 2147483647 n12_5) ∧ (¬ r = (-2) → rg 1 2147483647 n12_5) ∧ True)) 0 0 no := by
  refine Met.ofW (cc := cX10_deedRowState) (maxL := 6) (ret := (some .int)) (by decide) rfl ?_
  intro p e s m args below meth c s₁ B hml hv
  obtain ⟨rfl, hP, hK⟩ := hv
  have hx := B.exec
  have hb := B.bytes
  have hr := B.returns
  have hts := atoms_spec (ws := wsX10_deedRowState) B.pre
  have hown : s.vm.findClass RX10 = some m.cls := findClass_of_methodNamed B.named
  have hlocks := B.notSynchronized
  have hS : va_S no s.heap s.heap [] := va_S.rf
  have hl := lv_entry ([.ref a0, .int p0]) (n := 6) (Nat.le_of_ble_eq_true rfl)
  rw [lg_entry_eq]
  generalize (lg_sl ([.ref a0, .int p0]) ++ List.replicate (6 - (lg_sl ([.ref a0, .int p0])).length) Slot.unset).toArray = ls at hl ⊢
  have hl : lv_has ls 6 [(0, .ref a0), (1, .int p0)] := hl
  refine lv_aload_n hx hb dX10_deedRowState_0 rfl (lv_at hl 0 rfl) ?_
  refine lv_iload_n hx hb dX10_deedRowState_1 rfl (lv_at hl 1 rfl) ?_
  refine ro_calli (va_runV (As := [.int p0]) (rest := []) ⟨hx, hb, hml, hown, hts⟩ (a_X10_slotState l G ct a0 a1 a3 a11 a25 a68 a69 a77 a82 a84 a88 a91 a12 a19 a24 n11_3 a13 a15 a16 a17 a18 n12_5 n12_6 a70 a75 a76 n69_3 p0) (cwV 1 hts gX10_deedRowState_X10_slotState rfl rfl rfl (by decide +kernel) ⟨Nat.le_of_ble_eq_true rfl, Nat.le_of_ble_eq_true rfl⟩) (ro_preV 10 0 hK (hP.sub [0, 1, 2, 3] rfl) rfl rfl) rfl rfl hl.1 rfl (lv_room (Nat.le_of_ble_eq_true rfl)) dX10_deedRowState_2 ⟨Nat.zero_le _, Nat.zero_le _⟩) hS hP (fun r2 H locs wr2 hP hS => ?_)
  obtain ⟨p_1, p_2, p_3, p_4, p_5, -⟩ := wr2
  refine lv_istore_n (lv' := [(2, .int r2), (0, .ref a0), (1, .int p0)]) hx hb dX10_deedRowState_5 rfl hl (by decide) rfl (fun ls hl => ?_)
  refine lv_iload_n hx hb dX10_deedRowState_6 rfl (lv_at hl 0 rfl) ?_
  refine lv_if_eq (tgt := 12) hx hb dX10_deedRowState_7 (by decide) (fun c7 => ?_) (fun c7 => ?_)
  · have h_6 : rg 0 0 r2 := r_eq_l_i (e := 0) (f := 0) c7 p_1 (rgn 0 (x := 0) (by decide)) (by decide)
    have h_7 : rg 0 3 p0 := (p_2 (req h_6 (y := 0) (by decide)))
    have h_8 : rg 1 2147483647 n12_5 := (p_4 (req h_6 (y := 0) (by decide)))
    refine lv_iconst (v := 0) hx hb dX10_deedRowState_12 (by decide) ?_
    refine lv_istore_n (lv' := [(3, .int 0), (2, .int r2), (0, .ref a0), (1, .int p0)]) hx hb dX10_deedRowState_13 rfl hl (by decide) rfl (fun ls hl => ?_)
    have j14 : ∀ (n : Nat) (x14_3 : Int32) (H : Heap) (locs : List Loc) (ls : Array Slot), 2147483648 ≤ x14_3.toInt + (n : Int) → rg 0 60 x14_3 → va_P G vwCl [(a0, .inr (10, [.ref a1, .ref a3, .ref a11, .ref a25, .ref a68, .ref a69, .ref a77, .ref a82, .ref a84, .ref a88, .ref a91])), (a11, .inr (4, [.ref a12, .ref a19, .ref a24, .int n11_3])), (a12, .inr (9, [.ref a13, .ref a15, .ref a16, .ref a17, .ref a18, .int n12_5, .int n12_6])), (a69, .inr (6, [.ref a70, .ref a75, .ref a76, .int n69_3])), (a70, .inl (ct 5, 4, .inr (.inr (.inr (.inr (fun i => if i < 4 then some (rr i) else none)))))), ((rr 0), .inl (ct 3, 60, .inr (.inl f71))), ((rr 1), .inl (ct 3, 60, .inr (.inl f72))), ((rr 2), .inl (ct 3, 60, .inr (.inl f73))), ((rr 3), .inl (ct 3, 60, .inr (.inl f74))), (a76, .inl (ct 0, 4, .inl f76))] H → va_S no s.heap H locs → lv_has ls 6 [(0, .ref a0), (1, .int p0), (2, .int r2), (3, .int x14_3)] → W p l e (headSpec wsX10_deedRowState ({ frames := 4, cells := 0, slots := 0, locals := 87 })).room s m ([.ref a0, .int p0] : List Value).toArray below meth c H locs 0 0 (MQ below (roQ (fun r => rg (-6) 0 r ∧ (r = 0 → rg 0 3 p0) ∧ (¬ r = (-2) → rg 0 3 p0) ∧ (r = 0 → rg 1 2147483647 n12_5) ∧ (¬ r = (-2) → rg 1 2147483647 n12_5) ∧ True)) ([.ref a0, .int p0] : List Value).toArray s 0 0 no) (F0 m 14 ls []) := by
      intro n
      induction n with
      | zero => intro x14_3 H locs ls hn14 hx14_3 hP hS hl; exact absurd hn14 (by have := Int32.toInt_lt x14_3; have := Int32.le_toInt x14_3; omega)
      | succ n ih14 =>
        intro x14_3 H locs ls hn14 hx14_3 hP hS hl
        refine lv_iload_n hx hb dX10_deedRowState_14 rfl (lv_at hl 3 rfl) ?_
        refine lv_aload_n hx hb dX10_deedRowState_15 rfl (lv_at hl 0 rfl) ?_
        refine va_get (D := G) (ci := 10) (v := .ref a69) (C := RX10) (T := TX10) (N := 11) hx hb hts (by decide +kernel) hown hK.1 hP 0 rfl rfl 5 (by decide) (hts (.fieldLink RX10 43 "CardHolder" "rows" "LCardHolder$Rows;") (by decide +kernel)) (fun _ h9 => h9) rfl dX10_deedRowState_16 ?_
        refine lv_iload_n hx hb dX10_deedRowState_19 rfl (lv_at hl 1 rfl) ?_
        refine ro_calli (va_runV (As := [.int p0]) (rest := [.int x14_3]) ⟨hx, hb, hml, hown, hts⟩ (a_X6_sizeOf l G ct a69 a70 a75 a76 n69_3 f76 p0 hp_f76) (cwV 1 hts gX10_deedRowState_X6_sizeOf rfl rfl rfl (by decide +kernel) ⟨Nat.le_of_ble_eq_true rfl, Nat.le_of_ble_eq_true rfl⟩) (ro_preV 6 0 hK (hP.sub [3, 9] rfl) rfl rfl) rfl rfl hl.1 rfl (lv_room (Nat.le_of_ble_eq_true rfl)) dX10_deedRowState_20 ⟨Nat.zero_le _, Nat.zero_le _⟩) hS hP (fun r20 H locs wr20 hP hS => ?_)
        obtain ⟨p_9, p_10, -⟩ := wr20
        refine lv_icmp_ge (tgt := 62) hx hb dX10_deedRowState_23 (by decide) (fun c23 => ?_) (fun c23 => ?_)
        · refine lv_iconst (v := 0) hx hb dX10_deedRowState_62 (by decide) ?_
          exact W.iret (v := 0) hx hb hr (fun t ht hW => ⟨⟨0, (), rfl, ⟨(rg_w (c := (-6)) (d := 0) (rgn 0 (x := 0) (by decide)) (by decide)), (fun _ => h_7), (fun _ => h_7), (fun _ => h_8), (fun _ => h_8), trivial⟩, trivial⟩, hS.F ht⟩) hS.2.2 dX10_deedRowState_63
        · have h_11 : rg 0 59 x14_3 := r_lt_l_i (nle_i c23) hx14_3 p_9 (by decide)
          have h_12 : rg 1 60 r20 := r_lt_r_i (nle_i c23) hx14_3 p_9 (by decide)
          refine lv_aload_n hx hb dX10_deedRowState_26 rfl (lv_at hl 0 rfl) ?_
          refine va_get (D := G) (ci := 10) (v := .ref a69) (C := RX10) (T := TX10) (N := 11) hx hb hts (by decide +kernel) hown hK.1 hP 0 rfl rfl 5 (by decide) (hts (.fieldLink RX10 43 "CardHolder" "rows" "LCardHolder$Rows;") (by decide +kernel)) (fun _ h9 => h9) rfl dX10_deedRowState_27 ?_
          refine lv_iload_n hx hb dX10_deedRowState_30 rfl (lv_at hl 1 rfl) ?_
          refine lv_iload_n hx hb dX10_deedRowState_31 rfl (lv_at hl 3 rfl) ?_
          refine ro_calll (va_runV (As := [.int p0, .int x14_3]) (rest := []) ⟨hx, hb, hml, hown, hts⟩ (a_X6_get l G ct a69 a70 a75 a76 n69_3 rr f71 f72 f73 f74 f76 p0 x14_3 hp_f76) (cwV 2 hts gX10_deedRowState_X6_get rfl rfl rfl (by decide +kernel) ⟨Nat.le_of_ble_eq_true rfl, Nat.le_of_ble_eq_true rfl⟩) (ro_preV 6 0 hK (hP.sub [3, 4, 5, 6, 7, 8, 9] rfl) rfl rfl) rfl rfl hl.1 rfl (lv_room (Nat.le_of_ble_eq_true rfl)) dX10_deedRowState_32 ⟨Nat.zero_le _, Nat.zero_le _⟩) hS hP (fun r32 H locs wr32 hP hS => ?_)
          refine lv_lstore (lv' := [(4, .long r32), (0, .ref a0), (1, .int p0), (2, .int r2), (3, .int x14_3)]) hx hb dX10_deedRowState_35 hl (by decide) rfl (fun ls hl => ?_)
          refine lv_lload hx hb dX10_deedRowState_37 (lv_at hl 0 rfl) ?_
          refine lv_lconst (v := 0) hx hb dX10_deedRowState_39 (by decide) ?_
          refine W.lcmp hx hb dX10_deedRowState_40 ?_
          refine lb_lt (tgt := 53) hx hb dX10_deedRowState_41 (by decide) (fun c41 => ?_) (fun c41 => ?_)
          · have h_13 : rl (-9223372036854775808) (-1) r32 := r_lt_l_l c41 (rl_t r32) (rln 0 (x := 0) (by decide)) (by decide)
            refine lv_bipush (v := (-2)) hx hb dX10_deedRowState_53 (by decide) ?_
            exact W.iret (v := (-2)) hx hb hr (fun t ht hW => ⟨⟨(-2), (), rfl, ⟨(rg_w (c := (-6)) (d := 0) (rgn (-2) (x := (-2)) (by decide)) (by decide)), (fun _ => h_7), (fun _ => h_7), (fun _ => h_8), (fun _ => h_8), trivial⟩, trivial⟩, hS.F ht⟩) hS.2.2 dX10_deedRowState_55
          · have h_14 : rl 0 9223372036854775807 r32 := r_le_r_l (nlt_l c41) (rln 0 (x := 0) (by decide)) (rl_t r32)
            refine lv_lload hx hb dX10_deedRowState_44 (lv_at hl 0 rfl) ?_
            refine lv_ldc2 (own := RX10) (v := 6) hx hb hown (hts (.constantLong RX10 441 (6)) (by decide +kernel)) dX10_deedRowState_46 ?_
            refine W.lcmp hx hb dX10_deedRowState_49 ?_
            refine lb_lt (tgt := 56) hx hb dX10_deedRowState_50 (by decide) (fun c50 => ?_) (fun c50 => ?_)
            · have h_15 : rl 0 5 r32 := r_lt_l_l c50 h_14 (rln 6 (x := 6) (by decide)) (by decide)
              obtain ⟨z56, qz56⟩ : ∃ y : Int32, y = x14_3 + Int32.ofInt 1 := ⟨_, rfl⟩
              obtain ⟨hz56, ez56⟩ := inc_z (e := 1) (f := 60) h_11 qz56 (by decide)
              refine lv_iinc (v := z56) (lv' := [(3, .int z56), (4, .long r32), (0, .ref a0), (1, .int p0), (2, .int r2)]) hx hb dX10_deedRowState_56 hl (k := 4) rfl (qz56.symm) (by decide) rfl (fun ls hl => ?_)
              refine lv_goto (tgt := 14) hx hb dX10_deedRowState_59 (by decide) ?_
              exact ih14 z56 _ _ ls (by have q := hn14; have := ez56; omega) (rg_w (c := 0) (d := 60) hz56 (by decide)) hP hS (lv_sub hl [2, 3, 4, 0] rfl)
            · have h_16 : rl 6 9223372036854775807 r32 := r_le_r_l (nlt_l c50) (rln 6 (x := 6) (by decide)) h_14
              refine lv_bipush (v := (-2)) hx hb dX10_deedRowState_53 (by decide) ?_
              exact W.iret (v := (-2)) hx hb hr (fun t ht hW => ⟨⟨(-2), (), rfl, ⟨(rg_w (c := (-6)) (d := 0) (rgn (-2) (x := (-2)) (by decide)) (by decide)), (fun _ => h_7), (fun _ => h_7), (fun _ => h_8), (fun _ => h_8), trivial⟩, trivial⟩, hS.F ht⟩) hS.2.2 dX10_deedRowState_55
    exact j14 4294967296 (0 : Int32) _ _ ls (ms_e (0 : Int32)) (rg_w (c := 0) (d := 60) (rgn 0 (x := 0) (by decide)) (by decide)) hP hS (lv_sub hl [2, 3, 1, 0] rfl)
  · have h_17 : rg (-6) (-1) r2 := r_ne_hi_i c7 p_1 (by decide) (by decide)
    refine lv_iload_n hx hb dX10_deedRowState_10 rfl (lv_at hl 0 rfl) ?_
    exact W.iret (v := r2) hx hb hr (fun t ht hW => ⟨⟨r2, (), rfl, ⟨(rg_w (c := (-6)) (d := 0) h_17 (by decide)), (fun hq => rg_w (p_2 hq) (by decide)), (fun hq => rg_w (p_3 hq) (by decide)), (fun hq => rg_w (p_4 hq) (by decide)), (fun hq => rg_w (p_5 hq) (by decide)), trivial⟩, trivial⟩, hS.F ht⟩) hS.2.2 dX10_deedRowState_11

set_option maxHeartbeats 4000000 in
set_option maxRecDepth 100000 in
theorem a_X10_isAsking (l : Launch) (G : va_G) (ct : Nat → ClassId) (a0 : Nat) (a1 : Nat) (a3 : Nat) (a11 : Nat) (a25 : Nat) (a68 : Nat) (a69 : Nat) (a77 : Nat) (a82 : Nat) (a84 : Nat) (a88 : Nat) (a91 : Nat) (a12 : Nat) (a19 : Nat) (a24 : Nat) (n11_3 : Int32) (a20 : Nat) (a22 : Nat) (a23 : Nat) (n19_4 : Int32) (n19_5 : Int32) (n19_6 : Int32) (n19_7 : Int32) (a21 : Nat) (n20_1 : Int32) (a70 : Nat) (a75 : Nat) (a76 : Nat) (n69_3 : Int32) (rr : Nat → Nat) (f71 : Nat → Int64) (f72 : Nat → Int64) (f73 : Nat → Int64) (f74 : Nat → Int64) (f76 : Nat → Int32) (p0 : Int32) (p1 : Int32) (hp_n20_1 : rg 0 8 n20_1) (hp_f76 : ar 0 60 f76) : Met l yX10_isAsking wsX10_isAsking ({ frames := 4, cells := 0, slots := 0, locals := 87 }) (va_Pc [.ref a0, .int p0, .int p1] (roP G ct [(a0, .inr (10, [.ref a1, .ref a3, .ref a11, .ref a25, .ref a68, .ref a69, .ref a77, .ref a82, .ref a84, .ref a88, .ref a91])), (a11, .inr (4, [.ref a12, .ref a19, .ref a24, .int n11_3])), (a19, .inr (2, [.ref a12, .ref a20, .ref a22, .ref a23, .int n19_4, .int n19_5, .int n19_6, .int n19_7])), (a20, .inr (0, [.ref a21, .int n20_1])), (a69, .inr (6, [.ref a70, .ref a75, .ref a76, .int n69_3])), (a70, .inl (ct 5, 4, .inr (.inr (.inr (.inr (fun i => if i < 4 then some (rr i) else none)))))), ((rr 0), .inl (ct 3, 60, .inr (.inl f71))), ((rr 1), .inl (ct 3, 60, .inr (.inl f72))), ((rr 2), .inl (ct 3, 60, .inr (.inl f73))), ((rr 3), .inl (ct 3, 60, .inr (.inl f74))), (a76, .inl (ct 0, 4, .inl f76))])) (roQ (fun r => rg 0 1 r ∧ (¬ r = 0 → rg 1 8 n20_1) ∧ True)) 0 0 no := by
  refine Met.ofW (cc := cX10_isAsking) (maxL := 11) (ret := (some .boolean)) (by decide) rfl ?_
  intro p e s m args below meth c s₁ B hml hv
  obtain ⟨rfl, hP, hK⟩ := hv
  have hx := B.exec
  have hb := B.bytes
  have hr := B.returns
  have hts := atoms_spec (ws := wsX10_isAsking) B.pre
  have hown : s.vm.findClass RX10 = some m.cls := findClass_of_methodNamed B.named
  have hlocks := B.notSynchronized
  have hS : va_S no s.heap s.heap [] := va_S.rf
  have hl := lv_entry ([.ref a0, .int p0, .int p1]) (n := 11) (Nat.le_of_ble_eq_true rfl)
  rw [lg_entry_eq]
  generalize (lg_sl ([.ref a0, .int p0, .int p1]) ++ List.replicate (11 - (lg_sl ([.ref a0, .int p0, .int p1])).length) Slot.unset).toArray = ls at hl ⊢
  have hl : lv_has ls 11 [(0, .ref a0), (1, .int p0), (2, .int p1)] := hl
  refine lv_aload_n hx hb dX10_isAsking_0 rfl (lv_at hl 0 rfl) ?_
  refine ro_callr (va_runV (As := []) (rest := []) ⟨hx, hb, hml, hown, hts⟩ (a_X10_bonds l G ct a0 a1 a3 a11 a25 a68 a69 a77 a82 a84 a88 a91 a12 a19 a24 n11_3 a20 a22 a23 n19_4 n19_5 n19_6 n19_7) (cwV 0 hts gX10_isAsking_X10_bonds rfl rfl rfl (by decide +kernel) ⟨Nat.le_of_ble_eq_true rfl, Nat.le_of_ble_eq_true rfl⟩) (ro_preV 10 0 hK (hP.sub [0, 1, 2] rfl) rfl rfl) rfl rfl hl.1 rfl (lv_room (Nat.le_of_ble_eq_true rfl)) dX10_isAsking_1 ⟨Nat.zero_le _, Nat.zero_le _⟩) hS hP (fun H locs hP hS => ?_)
  refine va_get (D := G) (ci := 0) (v := .int n20_1) (C := RX0) (T := TX0) (N := 2) hx hb hts (by decide +kernel) hown hK.1 hP 3 rfl rfl 1 (by decide) (hts (.fieldLink RX10 238 "CardHolder$Bonds" "persons" "I") (by decide +kernel)) (fun _ h9 => h9) rfl dX10_isAsking_4 ?_
  refine lv_i2l hx hb dX10_isAsking_7 rfl ?_
  refine nl_i2l hp_n20_1 (fun z7 hz7 ez7 => ?_)
  refine lv_lstore_n (lv' := [(3, .long z7), (0, .ref a0), (1, .int p0), (2, .int p1)]) hx hb dX10_isAsking_8 rfl hl (by decide) rfl (fun ls hl => ?_)
  refine lv_aload_n hx hb dX10_isAsking_9 rfl (lv_at hl 1 rfl) ?_
  refine va_get (D := G) (ci := 10) (v := .ref a69) (C := RX10) (T := TX10) (N := 11) hx hb hts (by decide +kernel) hown hK.1 hP 0 rfl rfl 5 (by decide) (hts (.fieldLink RX10 43 "CardHolder" "rows" "LCardHolder$Rows;") (by decide +kernel)) (fun _ h9 => h9) rfl dX10_isAsking_10 ?_
  refine lv_iload_n hx hb dX10_isAsking_13 rfl (lv_at hl 2 rfl) ?_
  refine lv_iload_n hx hb dX10_isAsking_14 rfl (lv_at hl 3 rfl) ?_
  refine ro_calll (va_runV (As := [.int p0, .int p1]) (rest := []) ⟨hx, hb, hml, hown, hts⟩ (a_X6_get l G ct a69 a70 a75 a76 n69_3 rr f71 f72 f73 f74 f76 p0 p1 hp_f76) (cwV 2 hts gX10_isAsking_X6_get rfl rfl rfl (by decide +kernel) ⟨Nat.le_of_ble_eq_true rfl, Nat.le_of_ble_eq_true rfl⟩) (ro_preV 6 0 hK (hP.sub [4, 5, 6, 7, 8, 9, 10] rfl) rfl rfl) rfl rfl hl.1 rfl (lv_room (Nat.le_of_ble_eq_true rfl)) dX10_isAsking_15 ⟨Nat.zero_le _, Nat.zero_le _⟩) hS hP (fun r15 H locs wr15 hP hS => ?_)
  refine lv_lstore (lv' := [(5, .long r15), (3, .long z7), (0, .ref a0), (1, .int p0), (2, .int p1)]) hx hb dX10_isAsking_18 hl (by decide) rfl (fun ls hl => ?_)
  refine lv_aload_n hx hb dX10_isAsking_20 rfl (lv_at hl 2 rfl) ?_
  refine va_get (D := G) (ci := 10) (v := .ref a69) (C := RX10) (T := TX10) (N := 11) hx hb hts (by decide +kernel) hown hK.1 hP 0 rfl rfl 5 (by decide) (hts (.fieldLink RX10 43 "CardHolder" "rows" "LCardHolder$Rows;") (by decide +kernel)) (fun _ h9 => h9) rfl dX10_isAsking_21 ?_
  refine lv_iload_n hx hb dX10_isAsking_24 rfl (lv_at hl 3 rfl) ?_
  refine lv_iload_n hx hb dX10_isAsking_25 rfl (lv_at hl 4 rfl) ?_
  refine lv_iconst (v := 1) hx hb dX10_isAsking_26 (by decide) ?_
  refine lv_iadd hx hb dX10_isAsking_27 ?_
  refine nm_0 (fun z27 => ?_)
  refine ro_calll (va_runV (As := [.int p0, .int z27]) (rest := []) ⟨hx, hb, hml, hown, hts⟩ (a_X6_get l G ct a69 a70 a75 a76 n69_3 rr f71 f72 f73 f74 f76 p0 z27 hp_f76) (cwV 2 hts gX10_isAsking_X6_get rfl rfl rfl (by decide +kernel) ⟨Nat.le_of_ble_eq_true rfl, Nat.le_of_ble_eq_true rfl⟩) (ro_preV 6 0 hK (hP.sub [4, 5, 6, 7, 8, 9, 10] rfl) rfl rfl) rfl rfl hl.1 rfl (lv_room (Nat.le_of_ble_eq_true rfl)) dX10_isAsking_28 ⟨Nat.zero_le _, Nat.zero_le _⟩) hS hP (fun r28 H locs wr28 hP hS => ?_)
  refine lv_lstore (lv' := [(7, .long r28), (5, .long r15), (3, .long z7), (0, .ref a0), (1, .int p0), (2, .int p1)]) hx hb dX10_isAsking_31 hl (by decide) rfl (fun ls hl => ?_)
  refine lv_aload_n hx hb dX10_isAsking_33 rfl (lv_at hl 3 rfl) ?_
  refine va_get (D := G) (ci := 10) (v := .ref a69) (C := RX10) (T := TX10) (N := 11) hx hb hts (by decide +kernel) hown hK.1 hP 0 rfl rfl 5 (by decide) (hts (.fieldLink RX10 43 "CardHolder" "rows" "LCardHolder$Rows;") (by decide +kernel)) (fun _ h9 => h9) rfl dX10_isAsking_34 ?_
  refine lv_iload_n hx hb dX10_isAsking_37 rfl (lv_at hl 4 rfl) ?_
  refine lv_iload_n hx hb dX10_isAsking_38 rfl (lv_at hl 5 rfl) ?_
  refine lv_iconst (v := 2) hx hb dX10_isAsking_39 (by decide) ?_
  refine lv_iadd hx hb dX10_isAsking_40 ?_
  refine nm_0 (fun z40 => ?_)
  refine ro_calll (va_runV (As := [.int p0, .int z40]) (rest := []) ⟨hx, hb, hml, hown, hts⟩ (a_X6_get l G ct a69 a70 a75 a76 n69_3 rr f71 f72 f73 f74 f76 p0 z40 hp_f76) (cwV 2 hts gX10_isAsking_X6_get rfl rfl rfl (by decide +kernel) ⟨Nat.le_of_ble_eq_true rfl, Nat.le_of_ble_eq_true rfl⟩) (ro_preV 6 0 hK (hP.sub [4, 5, 6, 7, 8, 9, 10] rfl) rfl rfl) rfl rfl hl.1 rfl (lv_room (Nat.le_of_ble_eq_true rfl)) dX10_isAsking_41 ⟨Nat.zero_le _, Nat.zero_le _⟩) hS hP (fun r41 H locs wr41 hP hS => ?_)
  refine lv_lstore (lv' := [(9, .long r41), (7, .long r28), (5, .long r15), (3, .long z7), (0, .ref a0), (1, .int p0), (2, .int p1)]) hx hb dX10_isAsking_44 hl (by decide) rfl (fun ls hl => ?_)
  refine lv_lload hx hb dX10_isAsking_46 (lv_at hl 2 rfl) ?_
  refine lv_lconst (v := 0) hx hb dX10_isAsking_48 (by decide) ?_
  refine W.lcmp hx hb dX10_isAsking_49 ?_
  refine lb_lt (tgt := 94) hx hb dX10_isAsking_50 (by decide) (fun c50 => ?_) (fun c50 => ?_)
  · have h_1 : rl (-9223372036854775808) (-1) r15 := r_lt_l_l c50 (rl_t r15) (rln 0 (x := 0) (by decide)) (by decide)
    refine lv_iconst (v := 0) hx hb dX10_isAsking_94 (by decide) ?_
    exact W.zret (v := 0) (ty := .boolean) hx hb hr (rfl) (fun t ht hW => ⟨⟨0, (), rfl, ⟨(rg_w (c := 0) (d := 1) (rgn 0 (x := 0) (by decide)) (by decide)), (fun hq => absurd (req (rgn 0 (x := 0) (by decide)) (y := 0) (by decide)) hq), trivial⟩, trivial⟩, hS.F ht⟩) hS.2.2 dX10_isAsking_95
  · have h_2 : rl 0 9223372036854775807 r15 := r_le_r_l (nlt_l c50) (rln 0 (x := 0) (by decide)) (rl_t r15)
    refine lv_lload hx hb dX10_isAsking_53 (lv_at hl 2 rfl) ?_
    refine lv_lload_n hx hb dX10_isAsking_55 rfl (lv_at hl 3 rfl) ?_
    refine W.lcmp hx hb dX10_isAsking_56 ?_
    refine lb_ge (tgt := 94) hx hb dX10_isAsking_57 (by decide) (fun c57 => ?_) (fun c57 => ?_)
    · refine lv_iconst (v := 0) hx hb dX10_isAsking_94 (by decide) ?_
      exact W.zret (v := 0) (ty := .boolean) hx hb hr (rfl) (fun t ht hW => ⟨⟨0, (), rfl, ⟨(rg_w (c := 0) (d := 1) (rgn 0 (x := 0) (by decide)) (by decide)), (fun hq => absurd (req (rgn 0 (x := 0) (by decide)) (y := 0) (by decide)) hq), trivial⟩, trivial⟩, hS.F ht⟩) hS.2.2 dX10_isAsking_95
    · have h_3 : rl 0 7 r15 := r_lt_l_l (nle_l c57) h_2 hz7 (by decide)
      have h_4 : rl 1 8 z7 := r_lt_r_l (nle_l c57) h_2 hz7 (by decide)
      have h_5 : rg 1 8 n20_1 := bk_li (a := 1) (b := 8) ez7 h_4 hp_n20_1 (by decide)
      refine lv_lload hx hb dX10_isAsking_60 (lv_at hl 1 rfl) ?_
      refine lv_lconst (v := 0) hx hb dX10_isAsking_62 (by decide) ?_
      refine W.lcmp hx hb dX10_isAsking_63 ?_
      refine lb_lt (tgt := 94) hx hb dX10_isAsking_64 (by decide) (fun c64 => ?_) (fun c64 => ?_)
      · have h_6 : rl (-9223372036854775808) (-1) r28 := r_lt_l_l c64 (rl_t r28) (rln 0 (x := 0) (by decide)) (by decide)
        refine lv_iconst (v := 0) hx hb dX10_isAsking_94 (by decide) ?_
        exact W.zret (v := 0) (ty := .boolean) hx hb hr (rfl) (fun t ht hW => ⟨⟨0, (), rfl, ⟨(rg_w (c := 0) (d := 1) (rgn 0 (x := 0) (by decide)) (by decide)), (fun _ => h_5), trivial⟩, trivial⟩, hS.F ht⟩) hS.2.2 dX10_isAsking_95
      · have h_7 : rl 0 9223372036854775807 r28 := r_le_r_l (nlt_l c64) (rln 0 (x := 0) (by decide)) (rl_t r28)
        refine lv_lload hx hb dX10_isAsking_67 (lv_at hl 1 rfl) ?_
        refine lv_lload_n hx hb dX10_isAsking_69 rfl (lv_at hl 3 rfl) ?_
        refine W.lcmp hx hb dX10_isAsking_70 ?_
        refine lb_ge (tgt := 94) hx hb dX10_isAsking_71 (by decide) (fun c71 => ?_) (fun c71 => ?_)
        · have h_8 : rl 1 9223372036854775807 r28 := r_le_r_l c71 h_4 h_7
          refine lv_iconst (v := 0) hx hb dX10_isAsking_94 (by decide) ?_
          exact W.zret (v := 0) (ty := .boolean) hx hb hr (rfl) (fun t ht hW => ⟨⟨0, (), rfl, ⟨(rg_w (c := 0) (d := 1) (rgn 0 (x := 0) (by decide)) (by decide)), (fun _ => h_5), trivial⟩, trivial⟩, hS.F ht⟩) hS.2.2 dX10_isAsking_95
        · have h_9 : rl 0 7 r28 := r_lt_l_l (nle_l c71) h_7 h_4 (by decide)
          refine lv_lload hx hb dX10_isAsking_74 (lv_at hl 0 rfl) ?_
          refine lv_lconst (v := 0) hx hb dX10_isAsking_76 (by decide) ?_
          refine W.lcmp hx hb dX10_isAsking_77 ?_
          refine lb_lt (tgt := 94) hx hb dX10_isAsking_78 (by decide) (fun c78 => ?_) (fun c78 => ?_)
          · have h_10 : rl (-9223372036854775808) (-1) r41 := r_lt_l_l c78 (rl_t r41) (rln 0 (x := 0) (by decide)) (by decide)
            refine lv_iconst (v := 0) hx hb dX10_isAsking_94 (by decide) ?_
            exact W.zret (v := 0) (ty := .boolean) hx hb hr (rfl) (fun t ht hW => ⟨⟨0, (), rfl, ⟨(rg_w (c := 0) (d := 1) (rgn 0 (x := 0) (by decide)) (by decide)), (fun _ => h_5), trivial⟩, trivial⟩, hS.F ht⟩) hS.2.2 dX10_isAsking_95
          · have h_11 : rl 0 9223372036854775807 r41 := r_le_r_l (nlt_l c78) (rln 0 (x := 0) (by decide)) (rl_t r41)
            refine lv_lload hx hb dX10_isAsking_81 (lv_at hl 0 rfl) ?_
            refine lv_ldc2 (own := RX10) (v := 6) hx hb hown (hts (.constantLong RX10 441 (6)) (by decide +kernel)) dX10_isAsking_83 ?_
            refine W.lcmp hx hb dX10_isAsking_86 ?_
            refine lb_ge (tgt := 94) hx hb dX10_isAsking_87 (by decide) (fun c87 => ?_) (fun c87 => ?_)
            · have h_12 : rl 6 9223372036854775807 r41 := r_le_r_l c87 (rln 6 (x := 6) (by decide)) h_11
              refine lv_iconst (v := 0) hx hb dX10_isAsking_94 (by decide) ?_
              exact W.zret (v := 0) (ty := .boolean) hx hb hr (rfl) (fun t ht hW => ⟨⟨0, (), rfl, ⟨(rg_w (c := 0) (d := 1) (rgn 0 (x := 0) (by decide)) (by decide)), (fun _ => h_5), trivial⟩, trivial⟩, hS.F ht⟩) hS.2.2 dX10_isAsking_95
            · have h_13 : rl 0 5 r41 := r_lt_l_l (nle_l c87) h_11 (rln 6 (x := 6) (by decide)) (by decide)
              refine lv_iconst (v := 1) hx hb dX10_isAsking_90 (by decide) ?_
              refine lv_goto (tgt := 95) hx hb dX10_isAsking_91 (by decide) ?_
              exact W.zret (v := 1) (ty := .boolean) hx hb hr (rfl) (fun t ht hW => ⟨⟨1, (), rfl, ⟨(rg_w (c := 0) (d := 1) (rgn 1 (x := 1) (by decide)) (by decide)), (fun _ => h_5), trivial⟩, trivial⟩, hS.F ht⟩) hS.2.2 dX10_isAsking_95

set_option maxHeartbeats 4000000 in
set_option maxRecDepth 100000 in
theorem a_X10_askingRowState (l : Launch) (G : va_G) (ct : Nat → ClassId) (a0 : Nat) (a1 : Nat) (a3 : Nat) (a11 : Nat) (a25 : Nat) (a68 : Nat) (a69 : Nat) (a77 : Nat) (a82 : Nat) (a84 : Nat) (a88 : Nat) (a91 : Nat) (a12 : Nat) (a19 : Nat) (a24 : Nat) (n11_3 : Int32) (a13 : Nat) (a15 : Nat) (a16 : Nat) (a17 : Nat) (a18 : Nat) (n12_5 : Int32) (n12_6 : Int32) (a20 : Nat) (a22 : Nat) (a23 : Nat) (n19_4 : Int32) (n19_5 : Int32) (n19_6 : Int32) (n19_7 : Int32) (a21 : Nat) (n20_1 : Int32) (a70 : Nat) (a75 : Nat) (a76 : Nat) (n69_3 : Int32) (rr : Nat → Nat) (f71 : Nat → Int64) (f72 : Nat → Int64) (f73 : Nat → Int64) (f74 : Nat → Int64) (f76 : Nat → Int32) (p0 : Int32) (hp_n20_1 : rg 0 8 n20_1) (hp_f76 : ar 0 60 f76) : Met l yX10_askingRowState wsX10_askingRowState ({ frames := 5, cells := 0, slots := 0, locals := 117 }) (va_Pc [.ref a0, .int p0] (roP G ct [(a0, .inr (10, [.ref a1, .ref a3, .ref a11, .ref a25, .ref a68, .ref a69, .ref a77, .ref a82, .ref a84, .ref a88, .ref a91])), (a11, .inr (4, [.ref a12, .ref a19, .ref a24, .int n11_3])), (a12, .inr (9, [.ref a13, .ref a15, .ref a16, .ref a17, .ref a18, .int n12_5, .int n12_6])), (a19, .inr (2, [.ref a12, .ref a20, .ref a22, .ref a23, .int n19_4, .int n19_5, .int n19_6, .int n19_7])), (a20, .inr (0, [.ref a21, .int n20_1])), (a69, .inr (6, [.ref a70, .ref a75, .ref a76, .int n69_3])), (a70, .inl (ct 5, 4, .inr (.inr (.inr (.inr (fun i => if i < 4 then some (rr i) else none)))))), ((rr 0), .inl (ct 3, 60, .inr (.inl f71))), ((rr 1), .inl (ct 3, 60, .inr (.inl f72))), ((rr 2), .inl (ct 3, 60, .inr (.inl f73))), ((rr 3), .inl (ct 3, 60, .inr (.inl f74))), (a76, .inl (ct 0, 4, .inl f76))])) (roQ (fun r => rg (-6) 0 r ∧ (r = 0 → rg 0 3 p0) ∧ (¬ r = (-2) → rg 0 3 p0) ∧ (r = 0 → rg 1 2147483647 n12_5) ∧ (¬ r = (-2) → rg 1 2147483647 n12_5) ∧ True)) 0 0 no := by
  refine Met.ofW (cc := cX10_askingRowState) (maxL := 4) (ret := (some .int)) (by decide) rfl ?_
  intro p e s m args below meth c s₁ B hml hv
  obtain ⟨rfl, hP, hK⟩ := hv
  have hx := B.exec
  have hb := B.bytes
  have hr := B.returns
  have hts := atoms_spec (ws := wsX10_askingRowState) B.pre
  have hown : s.vm.findClass RX10 = some m.cls := findClass_of_methodNamed B.named
  have hlocks := B.notSynchronized
  have hS : va_S no s.heap s.heap [] := va_S.rf
  have hl := lv_entry ([.ref a0, .int p0]) (n := 4) (Nat.le_of_ble_eq_true rfl)
  rw [lg_entry_eq]
  generalize (lg_sl ([.ref a0, .int p0]) ++ List.replicate (4 - (lg_sl ([.ref a0, .int p0])).length) Slot.unset).toArray = ls at hl ⊢
  have hl : lv_has ls 4 [(0, .ref a0), (1, .int p0)] := hl
  refine lv_aload_n hx hb dX10_askingRowState_0 rfl (lv_at hl 0 rfl) ?_
  refine lv_iload_n hx hb dX10_askingRowState_1 rfl (lv_at hl 1 rfl) ?_
  refine ro_calli (va_runV (As := [.int p0]) (rest := []) ⟨hx, hb, hml, hown, hts⟩ (a_X10_slotState l G ct a0 a1 a3 a11 a25 a68 a69 a77 a82 a84 a88 a91 a12 a19 a24 n11_3 a13 a15 a16 a17 a18 n12_5 n12_6 a70 a75 a76 n69_3 p0) (cwV 1 hts gX10_askingRowState_X10_slotState rfl rfl rfl (by decide +kernel) ⟨Nat.le_of_ble_eq_true rfl, Nat.le_of_ble_eq_true rfl⟩) (ro_preV 10 0 hK (hP.sub [0, 1, 2, 5] rfl) rfl rfl) rfl rfl hl.1 rfl (lv_room (Nat.le_of_ble_eq_true rfl)) dX10_askingRowState_2 ⟨Nat.zero_le _, Nat.zero_le _⟩) hS hP (fun r2 H locs wr2 hP hS => ?_)
  obtain ⟨p_1, p_2, p_3, p_4, p_5, -⟩ := wr2
  refine lv_istore_n (lv' := [(2, .int r2), (0, .ref a0), (1, .int p0)]) hx hb dX10_askingRowState_5 rfl hl (by decide) rfl (fun ls hl => ?_)
  refine lv_iload_n hx hb dX10_askingRowState_6 rfl (lv_at hl 0 rfl) ?_
  refine lv_if_eq (tgt := 12) hx hb dX10_askingRowState_7 (by decide) (fun c7 => ?_) (fun c7 => ?_)
  · have h_6 : rg 0 0 r2 := r_eq_l_i (e := 0) (f := 0) c7 p_1 (rgn 0 (x := 0) (by decide)) (by decide)
    have h_7 : rg 0 3 p0 := (p_2 (req h_6 (y := 0) (by decide)))
    have h_8 : rg 1 2147483647 n12_5 := (p_4 (req h_6 (y := 0) (by decide)))
    refine lv_aload_n hx hb dX10_askingRowState_12 rfl (lv_at hl 1 rfl) ?_
    refine va_get (D := G) (ci := 10) (v := .ref a69) (C := RX10) (T := TX10) (N := 11) hx hb hts (by decide +kernel) hown hK.1 hP 0 rfl rfl 5 (by decide) (hts (.fieldLink RX10 43 "CardHolder" "rows" "LCardHolder$Rows;") (by decide +kernel)) (fun _ h9 => h9) rfl dX10_askingRowState_13 ?_
    refine lv_iload_n hx hb dX10_askingRowState_16 rfl (lv_at hl 2 rfl) ?_
    refine ro_calli (va_runV (As := [.int p0]) (rest := []) ⟨hx, hb, hml, hown, hts⟩ (a_X6_sizeOf l G ct a69 a70 a75 a76 n69_3 f76 p0 hp_f76) (cwV 1 hts gX10_askingRowState_X6_sizeOf rfl rfl rfl (by decide +kernel) ⟨Nat.le_of_ble_eq_true rfl, Nat.le_of_ble_eq_true rfl⟩) (ro_preV 6 0 hK (hP.sub [5, 11] rfl) rfl rfl) rfl rfl hl.1 rfl (lv_room (Nat.le_of_ble_eq_true rfl)) dX10_askingRowState_17 ⟨Nat.zero_le _, Nat.zero_le _⟩) hS hP (fun r17 H locs wr17 hP hS => ?_)
    obtain ⟨p_9, p_10, -⟩ := wr17
    refine lv_iconst (v := 3) hx hb dX10_askingRowState_20 (by decide) ?_
    refine lv_irem hx hb dX10_askingRowState_21 (by decide) ?_
    refine nm_rem (f := 2) p_9 (rgn 3 (x := 3) (by decide)) (by decide) (fun z21 hz21 tz21 => ?_)
    refine lv_if_eq (tgt := 28) hx hb dX10_askingRowState_22 (by decide) (fun c22 => ?_) (fun c22 => ?_)
    · have h_11 : rg 0 0 z21 := r_eq_l_i (e := 0) (f := 0) c22 hz21 (rgn 0 (x := 0) (by decide)) (by decide)
      refine lv_iconst (v := 0) hx hb dX10_askingRowState_28 (by decide) ?_
      refine lv_istore_n (lv' := [(3, .int 0), (2, .int r2), (0, .ref a0), (1, .int p0)]) hx hb dX10_askingRowState_29 rfl hl (by decide) rfl (fun ls hl => ?_)
      have j30 : ∀ (n : Nat) (x30_3 : Int32) (H : Heap) (locs : List Loc) (ls : Array Slot), 2147483648 ≤ x30_3.toInt + (n : Int) → rg 0 62 x30_3 → va_P G vwCl [(a0, .inr (10, [.ref a1, .ref a3, .ref a11, .ref a25, .ref a68, .ref a69, .ref a77, .ref a82, .ref a84, .ref a88, .ref a91])), (a11, .inr (4, [.ref a12, .ref a19, .ref a24, .int n11_3])), (a12, .inr (9, [.ref a13, .ref a15, .ref a16, .ref a17, .ref a18, .int n12_5, .int n12_6])), (a19, .inr (2, [.ref a12, .ref a20, .ref a22, .ref a23, .int n19_4, .int n19_5, .int n19_6, .int n19_7])), (a20, .inr (0, [.ref a21, .int n20_1])), (a69, .inr (6, [.ref a70, .ref a75, .ref a76, .int n69_3])), (a70, .inl (ct 5, 4, .inr (.inr (.inr (.inr (fun i => if i < 4 then some (rr i) else none)))))), ((rr 0), .inl (ct 3, 60, .inr (.inl f71))), ((rr 1), .inl (ct 3, 60, .inr (.inl f72))), ((rr 2), .inl (ct 3, 60, .inr (.inl f73))), ((rr 3), .inl (ct 3, 60, .inr (.inl f74))), (a76, .inl (ct 0, 4, .inl f76))] H → va_S no s.heap H locs → lv_has ls 4 [(0, .ref a0), (1, .int p0), (2, .int r2), (3, .int x30_3)] → W p l e (headSpec wsX10_askingRowState ({ frames := 5, cells := 0, slots := 0, locals := 117 })).room s m ([.ref a0, .int p0] : List Value).toArray below meth c H locs 0 0 (MQ below (roQ (fun r => rg (-6) 0 r ∧ (r = 0 → rg 0 3 p0) ∧ (¬ r = (-2) → rg 0 3 p0) ∧ (r = 0 → rg 1 2147483647 n12_5) ∧ (¬ r = (-2) → rg 1 2147483647 n12_5) ∧ True)) ([.ref a0, .int p0] : List Value).toArray s 0 0 no) (F0 m 30 ls []) := by
        intro n
        induction n with
        | zero => intro x30_3 H locs ls hn30 hx30_3 hP hS hl; exact absurd hn30 (by have := Int32.toInt_lt x30_3; have := Int32.le_toInt x30_3; omega)
        | succ n ih30 =>
          intro x30_3 H locs ls hn30 hx30_3 hP hS hl
          refine lv_iload_n hx hb dX10_askingRowState_30 rfl (lv_at hl 3 rfl) ?_
          refine lv_aload_n hx hb dX10_askingRowState_31 rfl (lv_at hl 0 rfl) ?_
          refine va_get (D := G) (ci := 10) (v := .ref a69) (C := RX10) (T := TX10) (N := 11) hx hb hts (by decide +kernel) hown hK.1 hP 0 rfl rfl 5 (by decide) (hts (.fieldLink RX10 43 "CardHolder" "rows" "LCardHolder$Rows;") (by decide +kernel)) (fun _ h9 => h9) rfl dX10_askingRowState_32 ?_
          refine lv_iload_n hx hb dX10_askingRowState_35 rfl (lv_at hl 1 rfl) ?_
          refine ro_calli (va_runV (As := [.int p0]) (rest := [.int x30_3]) ⟨hx, hb, hml, hown, hts⟩ (a_X6_sizeOf l G ct a69 a70 a75 a76 n69_3 f76 p0 hp_f76) (cwV 1 hts gX10_askingRowState_X6_sizeOf rfl rfl rfl (by decide +kernel) ⟨Nat.le_of_ble_eq_true rfl, Nat.le_of_ble_eq_true rfl⟩) (ro_preV 6 0 hK (hP.sub [5, 11] rfl) rfl rfl) rfl rfl hl.1 rfl (lv_room (Nat.le_of_ble_eq_true rfl)) dX10_askingRowState_36 ⟨Nat.zero_le _, Nat.zero_le _⟩) hS hP (fun r36 H locs wr36 hP hS => ?_)
          obtain ⟨p_12, p_13, -⟩ := wr36
          refine lv_icmp_ge (tgt := 72) hx hb dX10_askingRowState_39 (by decide) (fun c39 => ?_) (fun c39 => ?_)
          · refine lv_iconst (v := 0) hx hb dX10_askingRowState_72 (by decide) ?_
            exact W.iret (v := 0) hx hb hr (fun t ht hW => ⟨⟨0, (), rfl, ⟨(rg_w (c := (-6)) (d := 0) (rgn 0 (x := 0) (by decide)) (by decide)), (fun _ => h_7), (fun _ => h_7), (fun _ => h_8), (fun _ => h_8), trivial⟩, trivial⟩, hS.F ht⟩) hS.2.2 dX10_askingRowState_73
          · have h_14 : rg 0 59 x30_3 := r_lt_l_i (nle_i c39) hx30_3 p_12 (by decide)
            have h_15 : rg 1 60 r36 := r_lt_r_i (nle_i c39) hx30_3 p_12 (by decide)
            refine lv_aload_n hx hb dX10_askingRowState_42 rfl (lv_at hl 0 rfl) ?_
            refine va_get (D := G) (ci := 10) (v := .ref a69) (C := RX10) (T := TX10) (N := 11) hx hb hts (by decide +kernel) hown hK.1 hP 0 rfl rfl 5 (by decide) (hts (.fieldLink RX10 43 "CardHolder" "rows" "LCardHolder$Rows;") (by decide +kernel)) (fun _ h9 => h9) rfl dX10_askingRowState_43 ?_
            refine lv_iload_n hx hb dX10_askingRowState_46 rfl (lv_at hl 1 rfl) ?_
            refine lv_iload_n hx hb dX10_askingRowState_47 rfl (lv_at hl 3 rfl) ?_
            refine ro_calli (va_runV (As := [.int p0, .int x30_3]) (rest := []) ⟨hx, hb, hml, hown, hts⟩ (a_X6_isDayEnd l G ct a69 a70 a75 a76 n69_3 rr f71 f72 f73 f74 f76 p0 x30_3 hp_f76) (cwV 2 hts gX10_askingRowState_X6_isDayEnd rfl rfl rfl (by decide +kernel) ⟨Nat.le_of_ble_eq_true rfl, Nat.le_of_ble_eq_true rfl⟩) (ro_preV 6 0 hK (hP.sub [5, 6, 7, 8, 9, 10, 11] rfl) rfl rfl) rfl rfl hl.1 rfl (lv_room (Nat.le_of_ble_eq_true rfl)) dX10_askingRowState_48 ⟨Nat.zero_le _, Nat.zero_le _⟩) hS hP (fun r48 H locs wr48 hP hS => ?_)
            obtain ⟨p_16, -⟩ := wr48
            have j66 : ∀ (H : Heap) (locs : List Loc) (ls : Array Slot), va_P G vwCl [(a0, .inr (10, [.ref a1, .ref a3, .ref a11, .ref a25, .ref a68, .ref a69, .ref a77, .ref a82, .ref a84, .ref a88, .ref a91])), (a11, .inr (4, [.ref a12, .ref a19, .ref a24, .int n11_3])), (a12, .inr (9, [.ref a13, .ref a15, .ref a16, .ref a17, .ref a18, .int n12_5, .int n12_6])), (a19, .inr (2, [.ref a12, .ref a20, .ref a22, .ref a23, .int n19_4, .int n19_5, .int n19_6, .int n19_7])), (a20, .inr (0, [.ref a21, .int n20_1])), (a69, .inr (6, [.ref a70, .ref a75, .ref a76, .int n69_3])), (a70, .inl (ct 5, 4, .inr (.inr (.inr (.inr (fun i => if i < 4 then some (rr i) else none)))))), ((rr 0), .inl (ct 3, 60, .inr (.inl f71))), ((rr 1), .inl (ct 3, 60, .inr (.inl f72))), ((rr 2), .inl (ct 3, 60, .inr (.inl f73))), ((rr 3), .inl (ct 3, 60, .inr (.inl f74))), (a76, .inl (ct 0, 4, .inl f76))] H → va_S no s.heap H locs → lv_has ls 4 [(0, .ref a0), (1, .int p0), (2, .int r2), (3, .int x30_3)] → W p l e (headSpec wsX10_askingRowState ({ frames := 5, cells := 0, slots := 0, locals := 117 })).room s m ([.ref a0, .int p0] : List Value).toArray below meth c H locs 0 0 (MQ below (roQ (fun r => rg (-6) 0 r ∧ (r = 0 → rg 0 3 p0) ∧ (¬ r = (-2) → rg 0 3 p0) ∧ (r = 0 → rg 1 2147483647 n12_5) ∧ (¬ r = (-2) → rg 1 2147483647 n12_5) ∧ True)) ([.ref a0, .int p0] : List Value).toArray s 0 0 no) (F0 m 66 ls []) := by
              intro  H locs ls  hP hS hl
              obtain ⟨z66, qz66⟩ : ∃ y : Int32, y = x30_3 + Int32.ofInt 3 := ⟨_, rfl⟩
              obtain ⟨hz66, ez66⟩ := inc_z (e := 3) (f := 62) h_14 qz66 (by decide)
              refine lv_iinc (v := z66) (lv' := [(3, .int z66), (0, .ref a0), (1, .int p0), (2, .int r2)]) hx hb dX10_askingRowState_66 hl (k := 3) rfl (qz66.symm) (by decide) rfl (fun ls hl => ?_)
              refine lv_goto (tgt := 30) hx hb dX10_askingRowState_69 (by decide) ?_
              exact ih30 z66 _ _ ls (by have q := hn30; have := ez66; omega) (rg_w (c := 0) (d := 62) hz66 (by decide)) hP hS (lv_sub hl [1, 2, 3, 0] rfl)
            refine lv_if_ne (tgt := 66) hx hb dX10_askingRowState_51 (by decide) (fun c51 => ?_) (fun c51 => ?_)
            · have h_17 : rg 1 1 r48 := r_ne_lo_i c51 p_16 (by decide) (by decide)
              exact j66 _ _ ls hP hS (lv_sub hl [0, 1, 2, 3] rfl)
            · have h_18 : rg 0 0 r48 := r_eq_l_i (e := 0) (f := 0) c51 p_16 (rgn 0 (x := 0) (by decide)) (by decide)
              refine lv_aload_n hx hb dX10_askingRowState_54 rfl (lv_at hl 0 rfl) ?_
              refine lv_iload_n hx hb dX10_askingRowState_55 rfl (lv_at hl 1 rfl) ?_
              refine lv_iload_n hx hb dX10_askingRowState_56 rfl (lv_at hl 3 rfl) ?_
              refine ro_calli (va_runV (As := [.int p0, .int x30_3]) (rest := []) ⟨hx, hb, hml, hown, hts⟩ (a_X10_isAsking l G ct a0 a1 a3 a11 a25 a68 a69 a77 a82 a84 a88 a91 a12 a19 a24 n11_3 a20 a22 a23 n19_4 n19_5 n19_6 n19_7 a21 n20_1 a70 a75 a76 n69_3 rr f71 f72 f73 f74 f76 p0 x30_3 hp_n20_1 hp_f76) (cwV 2 hts gX10_askingRowState_X10_isAsking rfl rfl rfl (by decide +kernel) ⟨Nat.le_of_ble_eq_true rfl, Nat.le_of_ble_eq_true rfl⟩) (ro_preV 10 0 hK (hP.sub [0, 1, 3, 4, 5, 6, 7, 8, 9, 10, 11] rfl) rfl rfl) rfl rfl hl.1 rfl (lv_room (Nat.le_of_ble_eq_true rfl)) dX10_askingRowState_57 ⟨Nat.zero_le _, Nat.zero_le _⟩) hS hP (fun r57 H locs wr57 hP hS => ?_)
              obtain ⟨p_19, p_20, -⟩ := wr57
              refine lv_if_ne (tgt := 66) hx hb dX10_askingRowState_60 (by decide) (fun c60 => ?_) (fun c60 => ?_)
              · have h_21 : rg 1 1 r57 := r_ne_lo_i c60 p_19 (by decide) (by decide)
                have h_22 : rg 1 8 n20_1 := (p_20 (rne h_21 (y := 0) (c := 0) (by decide) (by decide)))
                exact j66 _ _ ls hP hS (lv_sub hl [0, 1, 2, 3] rfl)
              · have h_23 : rg 0 0 r57 := r_eq_l_i (e := 0) (f := 0) c60 p_19 (rgn 0 (x := 0) (by decide)) (by decide)
                refine lv_bipush (v := (-2)) hx hb dX10_askingRowState_63 (by decide) ?_
                exact W.iret (v := (-2)) hx hb hr (fun t ht hW => ⟨⟨(-2), (), rfl, ⟨(rg_w (c := (-6)) (d := 0) (rgn (-2) (x := (-2)) (by decide)) (by decide)), (fun _ => h_7), (fun _ => h_7), (fun _ => h_8), (fun _ => h_8), trivial⟩, trivial⟩, hS.F ht⟩) hS.2.2 dX10_askingRowState_65
      exact j30 4294967296 (0 : Int32) _ _ ls (ms_e (0 : Int32)) (rg_w (c := 0) (d := 62) (rgn 0 (x := 0) (by decide)) (by decide)) hP hS (lv_sub hl [2, 3, 1, 0] rfl)
    · have h_24 : rg 1 2 z21 := r_ne_lo_i c22 hz21 (by decide) (by decide)
      refine lv_bipush (v := (-2)) hx hb dX10_askingRowState_25 (by decide) ?_
      exact W.iret (v := (-2)) hx hb hr (fun t ht hW => ⟨⟨(-2), (), rfl, ⟨(rg_w (c := (-6)) (d := 0) (rgn (-2) (x := (-2)) (by decide)) (by decide)), (fun _ => h_7), (fun _ => h_7), (fun _ => h_8), (fun _ => h_8), trivial⟩, trivial⟩, hS.F ht⟩) hS.2.2 dX10_askingRowState_27
  · have h_25 : rg (-6) (-1) r2 := r_ne_hi_i c7 p_1 (by decide) (by decide)
    refine lv_iload_n hx hb dX10_askingRowState_10 rfl (lv_at hl 0 rfl) ?_
    exact W.iret (v := r2) hx hb hr (fun t ht hW => ⟨⟨r2, (), rfl, ⟨(rg_w (c := (-6)) (d := 0) h_25 (by decide)), (fun hq => rg_w (p_2 hq) (by decide)), (fun hq => rg_w (p_3 hq) (by decide)), (fun hq => rg_w (p_4 hq) (by decide)), (fun hq => rg_w (p_5 hq) (by decide)), trivial⟩, trivial⟩, hS.F ht⟩) hS.2.2 dX10_askingRowState_11

set_option maxHeartbeats 4000000 in
set_option maxRecDepth 100000 in
theorem a_X10_runTrial (l : Launch) (G : va_G) (ct : Nat → ClassId) (a0 : Nat) (a1 : Nat) (a3 : Nat) (a11 : Nat) (a25 : Nat) (a68 : Nat) (a69 : Nat) (a77 : Nat) (a82 : Nat) (a84 : Nat) (a88 : Nat) (a91 : Nat) (a12 : Nat) (a13 : Nat) (a15 : Nat) (a16 : Nat) (a17 : Nat) (a18 : Nat) (n12_5 : Int32) (n12_6 : Int32) (a14 : Nat) (n13_1 : Int32) (f14 : Nat → Int32) (f16 : Nat → Int32) (f18 : Nat → Int32) (a70 : Nat) (a75 : Nat) (a76 : Nat) (n69_3 : Int32) (rr : Nat → Nat) (f71 : Nat → Int64) (f72 : Nat → Int64) (f73 : Nat → Int64) (f74 : Nat → Int64) (f76 : Nat → Int32) (a78 : Nat) (a80 : Nat) (a81 : Nat) (n77_4 : Int32) (n77_5 : Int32) (n77_6 : Int32) (n77_7 : Int32) (a79 : Nat) (n78_1 : Int32) (f79 : Nat → Int32) (f80 : Nat → Int32) (f81 : Nat → Int32) (p0 : Int32) (hp_n13_1 : rg 0 8 n13_1) (hp_f76 : ar 0 60 f76) (hp_n78_1 : rg 0 8 n78_1) : Met l yX10_runTrial wsX10_runTrial ({ frames := 5, cells := 0, slots := 0, locals := 109 }) (va_Pc [.ref a0, .int p0] (wrP G ct [(a0, .inr (10, [.ref a1, .ref a3, .ref a11, .ref a25, .ref a68, .ref a69, .ref a77, .ref a82, .ref a84, .ref a88, .ref a91])), (a12, .inr (9, [.ref a13, .ref a15, .ref a16, .ref a17, .ref a18, .int n12_5, .int n12_6])), (a13, .inr (0, [.ref a14, .int n13_1])), (a14, .inl (ct 0, 8, .inl f14)), (a16, .inl (ct 0, 8, .inl f16)), (a18, .inl (ct 0, 8, .inl f18)), (a69, .inr (6, [.ref a70, .ref a75, .ref a76, .int n69_3])), (a70, .inl (ct 5, 4, .inr (.inr (.inr (.inr (fun i => if i < 4 then some (rr i) else none)))))), ((rr 0), .inl (ct 3, 60, .inr (.inl f71))), ((rr 1), .inl (ct 3, 60, .inr (.inl f72))), ((rr 2), .inl (ct 3, 60, .inr (.inl f73))), ((rr 3), .inl (ct 3, 60, .inr (.inl f74))), (a76, .inl (ct 0, 4, .inl f76)), (a77, .inr (2, [.ref a12, .ref a78, .ref a80, .ref a81, .int n77_4, .int n77_5, .int n77_6, .int n77_7])), (a78, .inr (0, [.ref a79, .int n78_1])), (a79, .inl (ct 0, 8, .inl f79)), (a80, .inl (ct 0, 8, .inl f80)), (a81, .inl (ct 0, 8, .inl f81))])) (va_Qi (fun (r : Int32) (u : SU) => rg 0 20 r ∧ rg 0 0 (u.1 1) ∧ rg 0 0 (u.1 3) ∧ rg 0 8 (u.1 4) ∧ True) (fun u t => va_P G vwCl ((fun u : SU => [(a0, .inr (10, [.ref a1, .ref a3, .ref a11, .ref a25, .ref a68, .ref a69, .ref a77, .ref a82, .ref a84, .ref a88, .ref a91])), (a12, .inr (9, [.ref a13, .ref a15, .ref a16, .ref a17, .ref a18, .int n12_5, .int n12_6])), (a13, .inr (0, [.ref a14, .int n13_1])), (a14, .inl (ct 0, 8, .inl f14)), (a16, .inl (ct 0, 8, .inl f16)), (a18, .inl (ct 0, 8, .inl f18)), (a69, .inr (6, [.ref a70, .ref a75, .ref a76, .int n69_3])), (a70, .inl (ct 5, 4, .inr (.inr (.inr (.inr (fun i => if i < 4 then some (rr i) else none)))))), ((rr 0), .inl (ct 3, 60, .inr (.inl f71))), ((rr 1), .inl (ct 3, 60, .inr (.inl f72))), ((rr 2), .inl (ct 3, 60, .inr (.inl f73))), ((rr 3), .inl (ct 3, 60, .inr (.inl f74))), (a76, .inl (ct 0, 4, .inl f76)), (a77, .inr (2, [.ref a12, .ref a78, .ref a80, .ref a81, .int (u.1 0), .int (u.1 1), .int (u.1 2), .int (u.1 3)])), (a78, .inr (0, [.ref a79, .int (u.1 4)])), (a79, .inl (ct 0, 8, .inl (u.2.1 0))), (a80, .inl (ct 0, 8, .inl (u.2.1 1))), (a81, .inl (ct 0, 8, .inl f81))]) u) t.heap) (aset [(a0, .inr (10, [.ref a1, .ref a3, .ref a11, .ref a25, .ref a68, .ref a69, .ref a77, .ref a82, .ref a84, .ref a88, .ref a91])), (a12, .inr (9, [.ref a13, .ref a15, .ref a16, .ref a17, .ref a18, .int n12_5, .int n12_6])), (a13, .inr (0, [.ref a14, .int n13_1])), (a14, .inl (ct 0, 8, .inl f14)), (a16, .inl (ct 0, 8, .inl f16)), (a18, .inl (ct 0, 8, .inl f18)), (a69, .inr (6, [.ref a70, .ref a75, .ref a76, .int n69_3])), (a70, .inl (ct 5, 4, .inr (.inr (.inr (.inr (fun i => if i < 4 then some (rr i) else none)))))), ((rr 0), .inl (ct 3, 60, .inr (.inl f71))), ((rr 1), .inl (ct 3, 60, .inr (.inl f72))), ((rr 2), .inl (ct 3, 60, .inr (.inl f73))), ((rr 3), .inl (ct 3, 60, .inr (.inl f74))), (a76, .inl (ct 0, 4, .inl f76)), (a77, .inr (2, [.ref a12, .ref a78, .ref a80, .ref a81, .int n77_4, .int n77_5, .int n77_6, .int n77_7])), (a78, .inr (0, [.ref a79, .int n78_1])), (a79, .inl (ct 0, 8, .inl f79)), (a80, .inl (ct 0, 8, .inl f80)), (a81, .inl (ct 0, 8, .inl f81))])) 0 0 (aset [(a0, .inr (10, [.ref a1, .ref a3, .ref a11, .ref a25, .ref a68, .ref a69, .ref a77, .ref a82, .ref a84, .ref a88, .ref a91])), (a12, .inr (9, [.ref a13, .ref a15, .ref a16, .ref a17, .ref a18, .int n12_5, .int n12_6])), (a13, .inr (0, [.ref a14, .int n13_1])), (a14, .inl (ct 0, 8, .inl f14)), (a16, .inl (ct 0, 8, .inl f16)), (a18, .inl (ct 0, 8, .inl f18)), (a69, .inr (6, [.ref a70, .ref a75, .ref a76, .int n69_3])), (a70, .inl (ct 5, 4, .inr (.inr (.inr (.inr (fun i => if i < 4 then some (rr i) else none)))))), ((rr 0), .inl (ct 3, 60, .inr (.inl f71))), ((rr 1), .inl (ct 3, 60, .inr (.inl f72))), ((rr 2), .inl (ct 3, 60, .inr (.inl f73))), ((rr 3), .inl (ct 3, 60, .inr (.inl f74))), (a76, .inl (ct 0, 4, .inl f76)), (a77, .inr (2, [.ref a12, .ref a78, .ref a80, .ref a81, .int n77_4, .int n77_5, .int n77_6, .int n77_7])), (a78, .inr (0, [.ref a79, .int n78_1])), (a79, .inl (ct 0, 8, .inl f79)), (a80, .inl (ct 0, 8, .inl f80)), (a81, .inl (ct 0, 8, .inl f81))]) := by
  refine Met.ofW (cc := cX10_runTrial) (maxL := 6) (ret := (some .int)) (by decide) rfl ?_
  intro p e s m args below meth c s₁ B hml hv
  obtain ⟨rfl, hP, hK, hD0⟩ := hv
  have hx := B.exec
  have hb := B.bytes
  have hr := B.returns
  have hts := atoms_spec (ws := wsX10_runTrial) B.pre
  have hown : s.vm.findClass RX10 = some m.cls := findClass_of_methodNamed B.named
  have hlocks := B.notSynchronized
  have hD := hD0.aself
  generalize hAe : aset [(a0, .inr (10, [.ref a1, .ref a3, .ref a11, .ref a25, .ref a68, .ref a69, .ref a77, .ref a82, .ref a84, .ref a88, .ref a91])), (a12, .inr (9, [.ref a13, .ref a15, .ref a16, .ref a17, .ref a18, .int n12_5, .int n12_6])), (a13, .inr (0, [.ref a14, .int n13_1])), (a14, .inl (ct 0, 8, .inl f14)), (a16, .inl (ct 0, 8, .inl f16)), (a18, .inl (ct 0, 8, .inl f18)), (a69, .inr (6, [.ref a70, .ref a75, .ref a76, .int n69_3])), (a70, .inl (ct 5, 4, .inr (.inr (.inr (.inr (fun i => if i < 4 then some (rr i) else none)))))), ((rr 0), .inl (ct 3, 60, .inr (.inl f71))), ((rr 1), .inl (ct 3, 60, .inr (.inl f72))), ((rr 2), .inl (ct 3, 60, .inr (.inl f73))), ((rr 3), .inl (ct 3, 60, .inr (.inl f74))), (a76, .inl (ct 0, 4, .inl f76)), (a77, .inr (2, [.ref a12, .ref a78, .ref a80, .ref a81, .int n77_4, .int n77_5, .int n77_6, .int n77_7])), (a78, .inr (0, [.ref a79, .int n78_1])), (a79, .inl (ct 0, 8, .inl f79)), (a80, .inl (ct 0, 8, .inl f80)), (a81, .inl (ct 0, 8, .inl f81))] = A at hD ⊢
  have hS : va_S A s.heap s.heap [] := va_S.rf
  have hl := lv_entry ([.ref a0, .int p0]) (n := 6) (Nat.le_of_ble_eq_true rfl)
  rw [lg_entry_eq]
  generalize (lg_sl ([.ref a0, .int p0]) ++ List.replicate (6 - (lg_sl ([.ref a0, .int p0])).length) Slot.unset).toArray = ls at hl ⊢
  have hl : lv_has ls 6 [(0, .ref a0), (1, .int p0)] := hl
  refine lv_aload_n hx hb dX10_runTrial_0 rfl (lv_at hl 0 rfl) ?_
  refine va_get (D := G) (ci := 10) (v := .ref a77) (C := RX10) (T := TX10) (N := 11) hx hb hts (by decide +kernel) hown hK.1 hP 0 rfl rfl 6 (by decide) (hts (.fieldLink RX10 56 "CardHolder" "trial" "LCardHolder$Hands;") (by decide +kernel)) (fun _ h9 => h9) rfl dX10_runTrial_1 ?_
  refine wj_callv (wr := [(a0, .inr (10, [.ref a1, .ref a3, .ref a11, .ref a25, .ref a68, .ref a69, .ref a77, .ref a82, .ref a84, .ref a88, .ref a91])), (a16, .inl (ct 0, 8, .inl f16)), (a18, .inl (ct 0, 8, .inl f18)), (a69, .inr (6, [.ref a70, .ref a75, .ref a76, .int n69_3])), (a70, .inl (ct 5, 4, .inr (.inr (.inr (.inr (fun i => if i < 4 then some (rr i) else none)))))), ((rr 0), .inl (ct 3, 60, .inr (.inl f71))), ((rr 1), .inl (ct 3, 60, .inr (.inl f72))), ((rr 2), .inl (ct 3, 60, .inr (.inl f73))), ((rr 3), .inl (ct 3, 60, .inr (.inl f74))), (a76, .inl (ct 0, 4, .inl f76)), (a81, .inl (ct 0, 8, .inl f81))]) (w1 := (fun u : SU => [(a12, .inr (9, [.ref a13, .ref a15, .ref a16, .ref a17, .ref a18, .int n12_5, .int n12_6])), (a13, .inr (0, [.ref a14, .int n13_1])), (a14, .inl (ct 0, 8, .inl f14)), (a77, .inr (2, [.ref a12, .ref a78, .ref a80, .ref a81, .int (u.1 0), .int (u.1 1), .int (u.1 2), .int (u.1 3)])), (a78, .inr (0, [.ref a79, .int (u.1 4)])), (a79, .inl (ct 0, 8, .inl (u.2.1 0))), (a80, .inl (ct 0, 8, .inl (u.2.1 1)))])) (va_runV (As := []) (rest := []) ⟨hx, hb, hml, hown, hts⟩ (a_X2_begin l G ct a12 a13 a15 a16 a17 a18 n12_5 n12_6 a14 n13_1 f14 a77 a78 a80 a81 n77_4 n77_5 n77_6 n77_7 a79 n78_1 f79 f80 hp_n13_1 hp_n78_1) (cwV 0 hts gX10_runTrial_X2_begin rfl rfl rfl (by decide +kernel) ⟨Nat.le_of_ble_eq_true rfl, Nat.le_of_ble_eq_true rfl⟩) (wr_preV 2 3 hK (hP.sub [1, 2, 3, 13, 14, 15, 16] rfl) (hD.sub [1, 2, 3, 13, 14, 15, 16] (by decide) rfl) rfl rfl) rfl rfl hl.1 rfl (lv_room (Nat.le_of_ble_eq_true rfl)) dX10_runTrial_4 ⟨Nat.zero_le _, Nat.zero_le _⟩) hS hP hD [1, 2, 3, 13, 14, 15, 16] [0, 4, 5, 6, 7, 8, 9, 10, 11, 12, 17] rfl rfl (by decide) (fun _ => rfl) (fun ur4 H locs wr4 hP hD hS => ?_)
  have hP : va_P G vwCl [(a0, .inr (10, [.ref a1, .ref a3, .ref a11, .ref a25, .ref a68, .ref a69, .ref a77, .ref a82, .ref a84, .ref a88, .ref a91])), (a12, .inr (9, [.ref a13, .ref a15, .ref a16, .ref a17, .ref a18, .int n12_5, .int n12_6])), (a13, .inr (0, [.ref a14, .int n13_1])), (a14, .inl (ct 0, 8, .inl f14)), (a16, .inl (ct 0, 8, .inl f16)), (a18, .inl (ct 0, 8, .inl f18)), (a69, .inr (6, [.ref a70, .ref a75, .ref a76, .int n69_3])), (a70, .inl (ct 5, 4, .inr (.inr (.inr (.inr (fun i => if i < 4 then some (rr i) else none)))))), ((rr 0), .inl (ct 3, 60, .inr (.inl f71))), ((rr 1), .inl (ct 3, 60, .inr (.inl f72))), ((rr 2), .inl (ct 3, 60, .inr (.inl f73))), ((rr 3), .inl (ct 3, 60, .inr (.inl f74))), (a76, .inl (ct 0, 4, .inl f76)), (a77, .inr (2, [.ref a12, .ref a78, .ref a80, .ref a81, .int (ur4.1 0), .int (ur4.1 1), .int (ur4.1 2), .int (ur4.1 3)])), (a78, .inr (0, [.ref a79, .int (ur4.1 4)])), (a79, .inl (ct 0, 8, .inl (ur4.2.1 0))), (a80, .inl (ct 0, 8, .inl (ur4.2.1 1))), (a81, .inl (ct 0, 8, .inl f81))] H := hP.sub [0, 11, 12, 13, 1, 2, 3, 4, 5, 6, 7, 8, 9, 14, 15, 16, 17, 10] rfl
  have hD : va_D A [(a0, .inr (10, [.ref a1, .ref a3, .ref a11, .ref a25, .ref a68, .ref a69, .ref a77, .ref a82, .ref a84, .ref a88, .ref a91])), (a12, .inr (9, [.ref a13, .ref a15, .ref a16, .ref a17, .ref a18, .int n12_5, .int n12_6])), (a13, .inr (0, [.ref a14, .int n13_1])), (a14, .inl (ct 0, 8, .inl f14)), (a16, .inl (ct 0, 8, .inl f16)), (a18, .inl (ct 0, 8, .inl f18)), (a69, .inr (6, [.ref a70, .ref a75, .ref a76, .int n69_3])), (a70, .inl (ct 5, 4, .inr (.inr (.inr (.inr (fun i => if i < 4 then some (rr i) else none)))))), ((rr 0), .inl (ct 3, 60, .inr (.inl f71))), ((rr 1), .inl (ct 3, 60, .inr (.inl f72))), ((rr 2), .inl (ct 3, 60, .inr (.inl f73))), ((rr 3), .inl (ct 3, 60, .inr (.inl f74))), (a76, .inl (ct 0, 4, .inl f76)), (a77, .inr (2, [.ref a12, .ref a78, .ref a80, .ref a81, .int (ur4.1 0), .int (ur4.1 1), .int (ur4.1 2), .int (ur4.1 3)])), (a78, .inr (0, [.ref a79, .int (ur4.1 4)])), (a79, .inl (ct 0, 8, .inl (ur4.2.1 0))), (a80, .inl (ct 0, 8, .inl (ur4.2.1 1))), (a81, .inl (ct 0, 8, .inl f81))] := hD.sub [0, 11, 12, 13, 1, 2, 3, 4, 5, 6, 7, 8, 9, 14, 15, 16, 17, 10] (by decide) rfl
  obtain ⟨p_1, p_2, p_3, p_4, p_5, -⟩ := wr4
  refine lv_iconst (v := 0) hx hb dX10_runTrial_7 (by decide) ?_
  refine lv_istore_n (lv' := [(2, .int 0), (0, .ref a0), (1, .int p0)]) hx hb dX10_runTrial_8 rfl hl (by decide) rfl (fun ls hl => ?_)
  have j9 : ∀ (n : Nat) (x9_2 : Int32) (v9_13_4 : Int32) (v9_13_5 : Int32) (v9_13_6 : Int32) (f9_15 : Nat → Int32) (f9_16 : Nat → Int32) (H : Heap) (locs : List Loc) (ls : Array Slot), 2147483648 ≤ x9_2.toInt + (n : Int) → rg 0 62 x9_2 → rg 0 0 v9_13_5 → va_P G vwCl [(a0, .inr (10, [.ref a1, .ref a3, .ref a11, .ref a25, .ref a68, .ref a69, .ref a77, .ref a82, .ref a84, .ref a88, .ref a91])), (a12, .inr (9, [.ref a13, .ref a15, .ref a16, .ref a17, .ref a18, .int n12_5, .int n12_6])), (a13, .inr (0, [.ref a14, .int n13_1])), (a14, .inl (ct 0, 8, .inl f14)), (a16, .inl (ct 0, 8, .inl f16)), (a18, .inl (ct 0, 8, .inl f18)), (a69, .inr (6, [.ref a70, .ref a75, .ref a76, .int n69_3])), (a70, .inl (ct 5, 4, .inr (.inr (.inr (.inr (fun i => if i < 4 then some (rr i) else none)))))), ((rr 0), .inl (ct 3, 60, .inr (.inl f71))), ((rr 1), .inl (ct 3, 60, .inr (.inl f72))), ((rr 2), .inl (ct 3, 60, .inr (.inl f73))), ((rr 3), .inl (ct 3, 60, .inr (.inl f74))), (a76, .inl (ct 0, 4, .inl f76)), (a77, .inr (2, [.ref a12, .ref a78, .ref a80, .ref a81, .int v9_13_4, .int v9_13_5, .int v9_13_6, .int (ur4.1 3)])), (a78, .inr (0, [.ref a79, .int (ur4.1 4)])), (a79, .inl (ct 0, 8, .inl f9_15)), (a80, .inl (ct 0, 8, .inl f9_16)), (a81, .inl (ct 0, 8, .inl f81))] H → va_D A [(a0, .inr (10, [.ref a1, .ref a3, .ref a11, .ref a25, .ref a68, .ref a69, .ref a77, .ref a82, .ref a84, .ref a88, .ref a91])), (a12, .inr (9, [.ref a13, .ref a15, .ref a16, .ref a17, .ref a18, .int n12_5, .int n12_6])), (a13, .inr (0, [.ref a14, .int n13_1])), (a14, .inl (ct 0, 8, .inl f14)), (a16, .inl (ct 0, 8, .inl f16)), (a18, .inl (ct 0, 8, .inl f18)), (a69, .inr (6, [.ref a70, .ref a75, .ref a76, .int n69_3])), (a70, .inl (ct 5, 4, .inr (.inr (.inr (.inr (fun i => if i < 4 then some (rr i) else none)))))), ((rr 0), .inl (ct 3, 60, .inr (.inl f71))), ((rr 1), .inl (ct 3, 60, .inr (.inl f72))), ((rr 2), .inl (ct 3, 60, .inr (.inl f73))), ((rr 3), .inl (ct 3, 60, .inr (.inl f74))), (a76, .inl (ct 0, 4, .inl f76)), (a77, .inr (2, [.ref a12, .ref a78, .ref a80, .ref a81, .int v9_13_4, .int v9_13_5, .int v9_13_6, .int (ur4.1 3)])), (a78, .inr (0, [.ref a79, .int (ur4.1 4)])), (a79, .inl (ct 0, 8, .inl f9_15)), (a80, .inl (ct 0, 8, .inl f9_16)), (a81, .inl (ct 0, 8, .inl f81))] → va_S A s.heap H locs → lv_has ls 6 [(0, .ref a0), (1, .int p0), (2, .int x9_2)] → W p l e (headSpec wsX10_runTrial ({ frames := 5, cells := 0, slots := 0, locals := 109 })).room s m ([.ref a0, .int p0] : List Value).toArray below meth c H locs 0 0 (MQ below (va_Qi (fun (r : Int32) (u : SU) => rg 0 20 r ∧ rg 0 0 (u.1 1) ∧ rg 0 0 (u.1 3) ∧ rg 0 8 (u.1 4) ∧ True) (fun u t => va_P G vwCl ((fun u : SU => [(a0, .inr (10, [.ref a1, .ref a3, .ref a11, .ref a25, .ref a68, .ref a69, .ref a77, .ref a82, .ref a84, .ref a88, .ref a91])), (a12, .inr (9, [.ref a13, .ref a15, .ref a16, .ref a17, .ref a18, .int n12_5, .int n12_6])), (a13, .inr (0, [.ref a14, .int n13_1])), (a14, .inl (ct 0, 8, .inl f14)), (a16, .inl (ct 0, 8, .inl f16)), (a18, .inl (ct 0, 8, .inl f18)), (a69, .inr (6, [.ref a70, .ref a75, .ref a76, .int n69_3])), (a70, .inl (ct 5, 4, .inr (.inr (.inr (.inr (fun i => if i < 4 then some (rr i) else none)))))), ((rr 0), .inl (ct 3, 60, .inr (.inl f71))), ((rr 1), .inl (ct 3, 60, .inr (.inl f72))), ((rr 2), .inl (ct 3, 60, .inr (.inl f73))), ((rr 3), .inl (ct 3, 60, .inr (.inl f74))), (a76, .inl (ct 0, 4, .inl f76)), (a77, .inr (2, [.ref a12, .ref a78, .ref a80, .ref a81, .int (u.1 0), .int (u.1 1), .int (u.1 2), .int (u.1 3)])), (a78, .inr (0, [.ref a79, .int (u.1 4)])), (a79, .inl (ct 0, 8, .inl (u.2.1 0))), (a80, .inl (ct 0, 8, .inl (u.2.1 1))), (a81, .inl (ct 0, 8, .inl f81))]) u) t.heap) A) ([.ref a0, .int p0] : List Value).toArray s 0 0 A) (F0 m 9 ls []) := by
    intro n
    induction n with
    | zero => intro x9_2 v9_13_4 v9_13_5 v9_13_6 f9_15 f9_16 H locs ls hn9 hx9_2 hv9_13_5 hP hD hS hl; exact absurd hn9 (by have := Int32.toInt_lt x9_2; have := Int32.le_toInt x9_2; omega)
    | succ n ih9 =>
      intro x9_2 v9_13_4 v9_13_5 v9_13_6 f9_15 f9_16 H locs ls hn9 hx9_2 hv9_13_5 hP hD hS hl
      refine lv_iload_n hx hb dX10_runTrial_9 rfl (lv_at hl 2 rfl) ?_
      refine lv_aload_n hx hb dX10_runTrial_10 rfl (lv_at hl 0 rfl) ?_
      refine va_get (D := G) (ci := 10) (v := .ref a69) (C := RX10) (T := TX10) (N := 11) hx hb hts (by decide +kernel) hown hK.1 hP 0 rfl rfl 5 (by decide) (hts (.fieldLink RX10 43 "CardHolder" "rows" "LCardHolder$Rows;") (by decide +kernel)) (fun _ h9 => h9) rfl dX10_runTrial_11 ?_
      refine lv_iload_n hx hb dX10_runTrial_14 rfl (lv_at hl 1 rfl) ?_
      refine ro_calli (va_runV (As := [.int p0]) (rest := [.int x9_2]) ⟨hx, hb, hml, hown, hts⟩ (a_X6_sizeOf l G ct a69 a70 a75 a76 n69_3 f76 p0 hp_f76) (cwV 1 hts gX10_runTrial_X6_sizeOf rfl rfl rfl (by decide +kernel) ⟨Nat.le_of_ble_eq_true rfl, Nat.le_of_ble_eq_true rfl⟩) (ro_preV 6 0 hK (hP.sub [6, 12] rfl) rfl rfl) rfl rfl hl.1 rfl (lv_room (Nat.le_of_ble_eq_true rfl)) dX10_runTrial_15 ⟨Nat.zero_le _, Nat.zero_le _⟩) hS hP (fun r15 H locs wr15 hP hS => ?_)
      obtain ⟨p_6, p_7, -⟩ := wr15
      refine lv_icmp_ge (tgt := 116) hx hb dX10_runTrial_18 (by decide) (fun c18 => ?_) (fun c18 => ?_)
      · refine lv_aload_n hx hb dX10_runTrial_116 rfl (lv_at hl 0 rfl) ?_
        refine va_get (D := G) (ci := 10) (v := .ref a69) (C := RX10) (T := TX10) (N := 11) hx hb hts (by decide +kernel) hown hK.1 hP 0 rfl rfl 5 (by decide) (hts (.fieldLink RX10 43 "CardHolder" "rows" "LCardHolder$Rows;") (by decide +kernel)) (fun _ h9 => h9) rfl dX10_runTrial_117 ?_
        refine lv_iload_n hx hb dX10_runTrial_120 rfl (lv_at hl 1 rfl) ?_
        refine ro_calli (va_runV (As := [.int p0]) (rest := []) ⟨hx, hb, hml, hown, hts⟩ (a_X6_sizeOf l G ct a69 a70 a75 a76 n69_3 f76 p0 hp_f76) (cwV 1 hts gX10_runTrial_X6_sizeOf rfl rfl rfl (by decide +kernel) ⟨Nat.le_of_ble_eq_true rfl, Nat.le_of_ble_eq_true rfl⟩) (ro_preV 6 0 hK (hP.sub [6, 12] rfl) rfl rfl) rfl rfl hl.1 rfl (lv_room (Nat.le_of_ble_eq_true rfl)) dX10_runTrial_121 ⟨Nat.zero_le _, Nat.zero_le _⟩) hS hP (fun r121 H locs wr121 hP hS => ?_)
        obtain ⟨p_8, p_9, -⟩ := wr121
        refine lv_iconst (v := 3) hx hb dX10_runTrial_124 (by decide) ?_
        refine lv_idiv hx hb dX10_runTrial_125 (by decide) ?_
        refine nm_div (f := 20) p_8 (rgn 3 (x := 3) (by decide)) (by decide) (fun z125 hz125 => ?_)
        exact W.iret (v := z125) hx hb hr (fun t ht hW => ⟨⟨z125, (fun k => ([v9_13_4, v9_13_5, v9_13_6, ur4.1 3, ur4.1 4] : List Int32).getD k 0, fun k => ([f9_15, f9_16] : List (Nat → Int32)).getD k (fun _ => 0), fun k => ([] : List (Nat → Int64)).getD k (fun _ => 0)), rfl, ⟨hz125, hv9_13_5, p_4, p_5, trivial⟩, hp_at ht hP⟩, hS.F ht⟩) hS.2.2 dX10_runTrial_126
      · have h_10 : rg 0 59 x9_2 := r_lt_l_i (nle_i c18) hx9_2 p_6 (by decide)
        have h_11 : rg 1 60 r15 := r_lt_r_i (nle_i c18) hx9_2 p_6 (by decide)
        have h_12 : rg 0 3 p0 := (p_7 (rne h_11 (y := 0) (c := 0) (by decide) (by decide)))
        refine lv_aload_n hx hb dX10_runTrial_21 rfl (lv_at hl 0 rfl) ?_
        refine va_get (D := G) (ci := 10) (v := .ref a69) (C := RX10) (T := TX10) (N := 11) hx hb hts (by decide +kernel) hown hK.1 hP 0 rfl rfl 5 (by decide) (hts (.fieldLink RX10 43 "CardHolder" "rows" "LCardHolder$Rows;") (by decide +kernel)) (fun _ h9 => h9) rfl dX10_runTrial_22 ?_
        refine lv_iload_n hx hb dX10_runTrial_25 rfl (lv_at hl 1 rfl) ?_
        refine lv_iload_n hx hb dX10_runTrial_26 rfl (lv_at hl 2 rfl) ?_
        refine ro_calli (va_runV (As := [.int p0, .int x9_2]) (rest := []) ⟨hx, hb, hml, hown, hts⟩ (a_X6_isDayEnd l G ct a69 a70 a75 a76 n69_3 rr f71 f72 f73 f74 f76 p0 x9_2 hp_f76) (cwV 2 hts gX10_runTrial_X6_isDayEnd rfl rfl rfl (by decide +kernel) ⟨Nat.le_of_ble_eq_true rfl, Nat.le_of_ble_eq_true rfl⟩) (ro_preV 6 0 hK (hP.sub [6, 7, 8, 9, 10, 11, 12] rfl) rfl rfl) rfl rfl hl.1 rfl (lv_room (Nat.le_of_ble_eq_true rfl)) dX10_runTrial_27 ⟨Nat.zero_le _, Nat.zero_le _⟩) hS hP (fun r27 H locs wr27 hP hS => ?_)
        obtain ⟨p_13, -⟩ := wr27
        have j110 : ∀ (v110_13_4 : Int32) (v110_13_5 : Int32) (v110_13_6 : Int32) (f110_15 : Nat → Int32) (f110_16 : Nat → Int32) (H : Heap) (locs : List Loc) (ls : Array Slot), rg 0 0 v110_13_5 → va_P G vwCl [(a0, .inr (10, [.ref a1, .ref a3, .ref a11, .ref a25, .ref a68, .ref a69, .ref a77, .ref a82, .ref a84, .ref a88, .ref a91])), (a12, .inr (9, [.ref a13, .ref a15, .ref a16, .ref a17, .ref a18, .int n12_5, .int n12_6])), (a13, .inr (0, [.ref a14, .int n13_1])), (a14, .inl (ct 0, 8, .inl f14)), (a16, .inl (ct 0, 8, .inl f16)), (a18, .inl (ct 0, 8, .inl f18)), (a69, .inr (6, [.ref a70, .ref a75, .ref a76, .int n69_3])), (a70, .inl (ct 5, 4, .inr (.inr (.inr (.inr (fun i => if i < 4 then some (rr i) else none)))))), ((rr 0), .inl (ct 3, 60, .inr (.inl f71))), ((rr 1), .inl (ct 3, 60, .inr (.inl f72))), ((rr 2), .inl (ct 3, 60, .inr (.inl f73))), ((rr 3), .inl (ct 3, 60, .inr (.inl f74))), (a76, .inl (ct 0, 4, .inl f76)), (a77, .inr (2, [.ref a12, .ref a78, .ref a80, .ref a81, .int v110_13_4, .int v110_13_5, .int v110_13_6, .int (ur4.1 3)])), (a78, .inr (0, [.ref a79, .int (ur4.1 4)])), (a79, .inl (ct 0, 8, .inl f110_15)), (a80, .inl (ct 0, 8, .inl f110_16)), (a81, .inl (ct 0, 8, .inl f81))] H → va_D A [(a0, .inr (10, [.ref a1, .ref a3, .ref a11, .ref a25, .ref a68, .ref a69, .ref a77, .ref a82, .ref a84, .ref a88, .ref a91])), (a12, .inr (9, [.ref a13, .ref a15, .ref a16, .ref a17, .ref a18, .int n12_5, .int n12_6])), (a13, .inr (0, [.ref a14, .int n13_1])), (a14, .inl (ct 0, 8, .inl f14)), (a16, .inl (ct 0, 8, .inl f16)), (a18, .inl (ct 0, 8, .inl f18)), (a69, .inr (6, [.ref a70, .ref a75, .ref a76, .int n69_3])), (a70, .inl (ct 5, 4, .inr (.inr (.inr (.inr (fun i => if i < 4 then some (rr i) else none)))))), ((rr 0), .inl (ct 3, 60, .inr (.inl f71))), ((rr 1), .inl (ct 3, 60, .inr (.inl f72))), ((rr 2), .inl (ct 3, 60, .inr (.inl f73))), ((rr 3), .inl (ct 3, 60, .inr (.inl f74))), (a76, .inl (ct 0, 4, .inl f76)), (a77, .inr (2, [.ref a12, .ref a78, .ref a80, .ref a81, .int v110_13_4, .int v110_13_5, .int v110_13_6, .int (ur4.1 3)])), (a78, .inr (0, [.ref a79, .int (ur4.1 4)])), (a79, .inl (ct 0, 8, .inl f110_15)), (a80, .inl (ct 0, 8, .inl f110_16)), (a81, .inl (ct 0, 8, .inl f81))] → va_S A s.heap H locs → lv_has ls 6 [(0, .ref a0), (1, .int p0), (2, .int x9_2)] → W p l e (headSpec wsX10_runTrial ({ frames := 5, cells := 0, slots := 0, locals := 109 })).room s m ([.ref a0, .int p0] : List Value).toArray below meth c H locs 0 0 (MQ below (va_Qi (fun (r : Int32) (u : SU) => rg 0 20 r ∧ rg 0 0 (u.1 1) ∧ rg 0 0 (u.1 3) ∧ rg 0 8 (u.1 4) ∧ True) (fun u t => va_P G vwCl ((fun u : SU => [(a0, .inr (10, [.ref a1, .ref a3, .ref a11, .ref a25, .ref a68, .ref a69, .ref a77, .ref a82, .ref a84, .ref a88, .ref a91])), (a12, .inr (9, [.ref a13, .ref a15, .ref a16, .ref a17, .ref a18, .int n12_5, .int n12_6])), (a13, .inr (0, [.ref a14, .int n13_1])), (a14, .inl (ct 0, 8, .inl f14)), (a16, .inl (ct 0, 8, .inl f16)), (a18, .inl (ct 0, 8, .inl f18)), (a69, .inr (6, [.ref a70, .ref a75, .ref a76, .int n69_3])), (a70, .inl (ct 5, 4, .inr (.inr (.inr (.inr (fun i => if i < 4 then some (rr i) else none)))))), ((rr 0), .inl (ct 3, 60, .inr (.inl f71))), ((rr 1), .inl (ct 3, 60, .inr (.inl f72))), ((rr 2), .inl (ct 3, 60, .inr (.inl f73))), ((rr 3), .inl (ct 3, 60, .inr (.inl f74))), (a76, .inl (ct 0, 4, .inl f76)), (a77, .inr (2, [.ref a12, .ref a78, .ref a80, .ref a81, .int (u.1 0), .int (u.1 1), .int (u.1 2), .int (u.1 3)])), (a78, .inr (0, [.ref a79, .int (u.1 4)])), (a79, .inl (ct 0, 8, .inl (u.2.1 0))), (a80, .inl (ct 0, 8, .inl (u.2.1 1))), (a81, .inl (ct 0, 8, .inl f81))]) u) t.heap) A) ([.ref a0, .int p0] : List Value).toArray s 0 0 A) (F0 m 110 ls []) := by
          intro v110_13_4 v110_13_5 v110_13_6 f110_15 f110_16 H locs ls hv110_13_5 hP hD hS hl
          obtain ⟨z110, qz110⟩ : ∃ y : Int32, y = x9_2 + Int32.ofInt 3 := ⟨_, rfl⟩
          obtain ⟨hz110, ez110⟩ := inc_z (e := 3) (f := 62) h_10 qz110 (by decide)
          refine lv_iinc (v := z110) (lv' := [(2, .int z110), (0, .ref a0), (1, .int p0)]) hx hb dX10_runTrial_110 hl (k := 2) rfl (qz110.symm) (by decide) rfl (fun ls hl => ?_)
          refine lv_goto (tgt := 9) hx hb dX10_runTrial_113 (by decide) ?_
          exact ih9 z110 v110_13_4 v110_13_5 v110_13_6 f110_15 f110_16 _ _ ls (by have q := hn9; have := ez110; omega) (rg_w (c := 0) (d := 62) hz110 (by decide)) hv110_13_5 hP hD hS (lv_sub hl [1, 2, 0] rfl)
        refine lv_if_eq (tgt := 43) hx hb dX10_runTrial_30 (by decide) (fun c30 => ?_) (fun c30 => ?_)
        · have h_14 : rg 0 0 r27 := r_eq_l_i (e := 0) (f := 0) c30 p_13 (rgn 0 (x := 0) (by decide)) (by decide)
          refine lv_aload_n hx hb dX10_runTrial_43 rfl (lv_at hl 0 rfl) ?_
          refine va_get (D := G) (ci := 10) (v := .ref a69) (C := RX10) (T := TX10) (N := 11) hx hb hts (by decide +kernel) hown hK.1 hP 0 rfl rfl 5 (by decide) (hts (.fieldLink RX10 43 "CardHolder" "rows" "LCardHolder$Rows;") (by decide +kernel)) (fun _ h9 => h9) rfl dX10_runTrial_44 ?_
          refine lv_iload_n hx hb dX10_runTrial_47 rfl (lv_at hl 1 rfl) ?_
          refine lv_iload_n hx hb dX10_runTrial_48 rfl (lv_at hl 2 rfl) ?_
          refine ro_calll (va_runV (As := [.int p0, .int x9_2]) (rest := []) ⟨hx, hb, hml, hown, hts⟩ (a_X6_get l G ct a69 a70 a75 a76 n69_3 rr f71 f72 f73 f74 f76 p0 x9_2 hp_f76) (cwV 2 hts gX10_runTrial_X6_get rfl rfl rfl (by decide +kernel) ⟨Nat.le_of_ble_eq_true rfl, Nat.le_of_ble_eq_true rfl⟩) (ro_preV 6 0 hK (hP.sub [6, 7, 8, 9, 10, 11, 12] rfl) rfl rfl) rfl rfl hl.1 rfl (lv_room (Nat.le_of_ble_eq_true rfl)) dX10_runTrial_49 ⟨Nat.zero_le _, Nat.zero_le _⟩) hS hP (fun r49 H locs wr49 hP hS => ?_)
          refine lv_l2i hx hb dX10_runTrial_52 rfl ?_
          refine nm_0 (fun z52 => ?_)
          refine lv_istore_n (lv' := [(3, .int z52), (0, .ref a0), (1, .int p0), (2, .int x9_2)]) hx hb dX10_runTrial_53 rfl hl (by decide) rfl (fun ls hl => ?_)
          refine lv_aload_n hx hb dX10_runTrial_54 rfl (lv_at hl 1 rfl) ?_
          refine va_get (D := G) (ci := 10) (v := .ref a69) (C := RX10) (T := TX10) (N := 11) hx hb hts (by decide +kernel) hown hK.1 hP 0 rfl rfl 5 (by decide) (hts (.fieldLink RX10 43 "CardHolder" "rows" "LCardHolder$Rows;") (by decide +kernel)) (fun _ h9 => h9) rfl dX10_runTrial_55 ?_
          refine lv_iload_n hx hb dX10_runTrial_58 rfl (lv_at hl 2 rfl) ?_
          refine lv_iload_n hx hb dX10_runTrial_59 rfl (lv_at hl 3 rfl) ?_
          refine lv_iconst (v := 1) hx hb dX10_runTrial_60 (by decide) ?_
          refine lv_iadd hx hb dX10_runTrial_61 ?_
          refine nm_add (e1 := 1) (f := 60) h_10 (rgn 1 (x := 1) (by decide)) (by decide) (fun z61 hz61 ez61 => ?_)
          replace ez61 := eqc_r ez61 (c := 1) (by decide)
          refine ro_calll (va_runV (As := [.int p0, .int z61]) (rest := []) ⟨hx, hb, hml, hown, hts⟩ (a_X6_get l G ct a69 a70 a75 a76 n69_3 rr f71 f72 f73 f74 f76 p0 z61 hp_f76) (cwV 2 hts gX10_runTrial_X6_get rfl rfl rfl (by decide +kernel) ⟨Nat.le_of_ble_eq_true rfl, Nat.le_of_ble_eq_true rfl⟩) (ro_preV 6 0 hK (hP.sub [6, 7, 8, 9, 10, 11, 12] rfl) rfl rfl) rfl rfl hl.1 rfl (lv_room (Nat.le_of_ble_eq_true rfl)) dX10_runTrial_62 ⟨Nat.zero_le _, Nat.zero_le _⟩) hS hP (fun r62 H locs wr62 hP hS => ?_)
          refine lv_l2i hx hb dX10_runTrial_65 rfl ?_
          refine nm_0 (fun z65 => ?_)
          refine lv_istore (lv' := [(4, .int z65), (3, .int z52), (0, .ref a0), (1, .int p0), (2, .int x9_2)]) hx hb dX10_runTrial_66 hl (by decide) rfl (fun ls hl => ?_)
          refine lv_aload_n hx hb dX10_runTrial_68 rfl (lv_at hl 2 rfl) ?_
          refine va_get (D := G) (ci := 10) (v := .ref a69) (C := RX10) (T := TX10) (N := 11) hx hb hts (by decide +kernel) hown hK.1 hP 0 rfl rfl 5 (by decide) (hts (.fieldLink RX10 43 "CardHolder" "rows" "LCardHolder$Rows;") (by decide +kernel)) (fun _ h9 => h9) rfl dX10_runTrial_69 ?_
          refine lv_iload_n hx hb dX10_runTrial_72 rfl (lv_at hl 3 rfl) ?_
          refine lv_iload_n hx hb dX10_runTrial_73 rfl (lv_at hl 4 rfl) ?_
          refine lv_iconst (v := 2) hx hb dX10_runTrial_74 (by decide) ?_
          refine lv_iadd hx hb dX10_runTrial_75 ?_
          refine nm_add (e1 := 2) (f := 61) h_10 (rgn 2 (x := 2) (by decide)) (by decide) (fun z75 hz75 ez75 => ?_)
          replace ez75 := eqc_r ez75 (c := 2) (by decide)
          refine ro_calll (va_runV (As := [.int p0, .int z75]) (rest := []) ⟨hx, hb, hml, hown, hts⟩ (a_X6_get l G ct a69 a70 a75 a76 n69_3 rr f71 f72 f73 f74 f76 p0 z75 hp_f76) (cwV 2 hts gX10_runTrial_X6_get rfl rfl rfl (by decide +kernel) ⟨Nat.le_of_ble_eq_true rfl, Nat.le_of_ble_eq_true rfl⟩) (ro_preV 6 0 hK (hP.sub [6, 7, 8, 9, 10, 11, 12] rfl) rfl rfl) rfl rfl hl.1 rfl (lv_room (Nat.le_of_ble_eq_true rfl)) dX10_runTrial_76 ⟨Nat.zero_le _, Nat.zero_le _⟩) hS hP (fun r76 H locs wr76 hP hS => ?_)
          refine lv_l2i hx hb dX10_runTrial_79 rfl ?_
          refine nm_0 (fun z79 => ?_)
          refine lv_istore (lv' := [(5, .int z79), (4, .int z65), (3, .int z52), (0, .ref a0), (1, .int p0), (2, .int x9_2)]) hx hb dX10_runTrial_80 hl (by decide) rfl (fun ls hl => ?_)
          refine lv_aload_n hx hb dX10_runTrial_82 rfl (lv_at hl 3 rfl) ?_
          refine va_get (D := G) (ci := 10) (v := .ref a77) (C := RX10) (T := TX10) (N := 11) hx hb hts (by decide +kernel) hown hK.1 hP 0 rfl rfl 6 (by decide) (hts (.fieldLink RX10 56 "CardHolder" "trial" "LCardHolder$Hands;") (by decide +kernel)) (fun _ h9 => h9) rfl dX10_runTrial_83 ?_
          refine lv_iload_n hx hb dX10_runTrial_86 rfl (lv_at hl 2 rfl) ?_
          refine lv_iload hx hb dX10_runTrial_87 (lv_at hl 1 rfl) ?_
          refine lv_iload hx hb dX10_runTrial_89 (lv_at hl 0 rfl) ?_
          refine ro_calli (va_runV (As := [.int z52, .int z65, .int z79]) (rest := []) ⟨hx, hb, hml, hown, hts⟩ (a_X2_refusal l G ct a12 a13 a15 a16 a17 a18 n12_5 n12_6 a14 n13_1 f16 a77 a78 a80 a81 v9_13_4 v9_13_5 v9_13_6 (ur4.1 3) a79 (ur4.1 4) f9_15 z52 z65 z79 hp_n13_1 p_5) (cwV 3 hts gX10_runTrial_X2_refusal rfl rfl rfl (by decide +kernel) ⟨Nat.le_of_ble_eq_true rfl, Nat.le_of_ble_eq_true rfl⟩) (ro_preV 2 3 hK (hP.sub [1, 2, 4, 13, 14, 15] rfl) rfl rfl) rfl rfl hl.1 rfl (lv_room (Nat.le_of_ble_eq_true rfl)) dX10_runTrial_91 ⟨Nat.zero_le _, Nat.zero_le _⟩) hS hP (fun r91 H locs wr91 hP hS => ?_)
          obtain ⟨p_15, -⟩ := wr91
          refine lv_if_eq (tgt := 101) hx hb dX10_runTrial_94 (by decide) (fun c94 => ?_) (fun c94 => ?_)
          · have h_16 : rg 0 0 r91 := r_eq_l_i (e := 0) (f := 0) c94 p_15 (rgn 0 (x := 0) (by decide)) (by decide)
            refine lv_aload_n hx hb dX10_runTrial_101 rfl (lv_at hl 3 rfl) ?_
            refine va_get (D := G) (ci := 10) (v := .ref a77) (C := RX10) (T := TX10) (N := 11) hx hb hts (by decide +kernel) hown hK.1 hP 0 rfl rfl 6 (by decide) (hts (.fieldLink RX10 56 "CardHolder" "trial" "LCardHolder$Hands;") (by decide +kernel)) (fun _ h9 => h9) rfl dX10_runTrial_102 ?_
            refine lv_iload hx hb dX10_runTrial_105 (lv_at hl 1 rfl) ?_
            refine wj_callv (wr := [(a0, .inr (10, [.ref a1, .ref a3, .ref a11, .ref a25, .ref a68, .ref a69, .ref a77, .ref a82, .ref a84, .ref a88, .ref a91])), (a14, .inl (ct 0, 8, .inl f14)), (a16, .inl (ct 0, 8, .inl f16)), (a69, .inr (6, [.ref a70, .ref a75, .ref a76, .int n69_3])), (a70, .inl (ct 5, 4, .inr (.inr (.inr (.inr (fun i => if i < 4 then some (rr i) else none)))))), ((rr 0), .inl (ct 3, 60, .inr (.inl f71))), ((rr 1), .inl (ct 3, 60, .inr (.inl f72))), ((rr 2), .inl (ct 3, 60, .inr (.inl f73))), ((rr 3), .inl (ct 3, 60, .inr (.inl f74))), (a76, .inl (ct 0, 4, .inl f76)), (a81, .inl (ct 0, 8, .inl f81))]) (w1 := (fun u : SU => [(a12, .inr (9, [.ref a13, .ref a15, .ref a16, .ref a17, .ref a18, .int n12_5, .int n12_6])), (a13, .inr (0, [.ref a14, .int n13_1])), (a18, .inl (ct 0, 8, .inl f18)), (a77, .inr (2, [.ref a12, .ref a78, .ref a80, .ref a81, .int (u.1 0), .int v9_13_5, .int v9_13_6, .int (ur4.1 3)])), (a78, .inr (0, [.ref a79, .int (ur4.1 4)])), (a79, .inl (ct 0, 8, .inl (u.2.1 0))), (a80, .inl (ct 0, 8, .inl (u.2.1 1)))])) (va_runV (As := [.int z65]) (rest := []) ⟨hx, hb, hml, hown, hts⟩ (a_X2_wearCard l G ct a12 a13 a15 a16 a17 a18 n12_5 n12_6 a14 n13_1 f18 a77 a78 a80 a81 v9_13_4 v9_13_5 v9_13_6 (ur4.1 3) a79 (ur4.1 4) f9_15 f9_16 z65 hp_n13_1 p_5) (cwV 1 hts gX10_runTrial_X2_wearCard rfl rfl rfl (by decide +kernel) ⟨Nat.le_of_ble_eq_true rfl, Nat.le_of_ble_eq_true rfl⟩) (wr_preV 2 3 hK (hP.sub [1, 2, 5, 13, 14, 15, 16] rfl) (hD.sub [1, 2, 5, 13, 14, 15, 16] (by decide) rfl) rfl rfl) rfl rfl hl.1 rfl (lv_room (Nat.le_of_ble_eq_true rfl)) dX10_runTrial_107 ⟨Nat.zero_le _, Nat.zero_le _⟩) hS hP hD [1, 2, 5, 13, 14, 15, 16] [0, 3, 4, 6, 7, 8, 9, 10, 11, 12, 17] rfl rfl (by decide) (fun _ => rfl) (fun ur107 H locs wr107 hP hD hS => ?_)
            have hP : va_P G vwCl [(a0, .inr (10, [.ref a1, .ref a3, .ref a11, .ref a25, .ref a68, .ref a69, .ref a77, .ref a82, .ref a84, .ref a88, .ref a91])), (a12, .inr (9, [.ref a13, .ref a15, .ref a16, .ref a17, .ref a18, .int n12_5, .int n12_6])), (a13, .inr (0, [.ref a14, .int n13_1])), (a14, .inl (ct 0, 8, .inl f14)), (a16, .inl (ct 0, 8, .inl f16)), (a18, .inl (ct 0, 8, .inl f18)), (a69, .inr (6, [.ref a70, .ref a75, .ref a76, .int n69_3])), (a70, .inl (ct 5, 4, .inr (.inr (.inr (.inr (fun i => if i < 4 then some (rr i) else none)))))), ((rr 0), .inl (ct 3, 60, .inr (.inl f71))), ((rr 1), .inl (ct 3, 60, .inr (.inl f72))), ((rr 2), .inl (ct 3, 60, .inr (.inl f73))), ((rr 3), .inl (ct 3, 60, .inr (.inl f74))), (a76, .inl (ct 0, 4, .inl f76)), (a77, .inr (2, [.ref a12, .ref a78, .ref a80, .ref a81, .int (ur107.1 0), .int v9_13_5, .int v9_13_6, .int (ur4.1 3)])), (a78, .inr (0, [.ref a79, .int (ur4.1 4)])), (a79, .inl (ct 0, 8, .inl (ur107.2.1 0))), (a80, .inl (ct 0, 8, .inl (ur107.2.1 1))), (a81, .inl (ct 0, 8, .inl f81))] H := hP.sub [0, 11, 12, 1, 2, 13, 3, 4, 5, 6, 7, 8, 9, 14, 15, 16, 17, 10] rfl
            have hD : va_D A [(a0, .inr (10, [.ref a1, .ref a3, .ref a11, .ref a25, .ref a68, .ref a69, .ref a77, .ref a82, .ref a84, .ref a88, .ref a91])), (a12, .inr (9, [.ref a13, .ref a15, .ref a16, .ref a17, .ref a18, .int n12_5, .int n12_6])), (a13, .inr (0, [.ref a14, .int n13_1])), (a14, .inl (ct 0, 8, .inl f14)), (a16, .inl (ct 0, 8, .inl f16)), (a18, .inl (ct 0, 8, .inl f18)), (a69, .inr (6, [.ref a70, .ref a75, .ref a76, .int n69_3])), (a70, .inl (ct 5, 4, .inr (.inr (.inr (.inr (fun i => if i < 4 then some (rr i) else none)))))), ((rr 0), .inl (ct 3, 60, .inr (.inl f71))), ((rr 1), .inl (ct 3, 60, .inr (.inl f72))), ((rr 2), .inl (ct 3, 60, .inr (.inl f73))), ((rr 3), .inl (ct 3, 60, .inr (.inl f74))), (a76, .inl (ct 0, 4, .inl f76)), (a77, .inr (2, [.ref a12, .ref a78, .ref a80, .ref a81, .int (ur107.1 0), .int v9_13_5, .int v9_13_6, .int (ur4.1 3)])), (a78, .inr (0, [.ref a79, .int (ur4.1 4)])), (a79, .inl (ct 0, 8, .inl (ur107.2.1 0))), (a80, .inl (ct 0, 8, .inl (ur107.2.1 1))), (a81, .inl (ct 0, 8, .inl f81))] := hD.sub [0, 11, 12, 1, 2, 13, 3, 4, 5, 6, 7, 8, 9, 14, 15, 16, 17, 10] (by decide) rfl
            exact j110 (ur107.1 0) v9_13_5 v9_13_6 (ur107.2.1 0) (ur107.2.1 1) _ _ ls hv9_13_5 hP hD hS (lv_sub hl [3, 4, 5] rfl)
          · have h_17 : rg 1 3 r91 := r_ne_lo_i c94 p_15 (by decide) (by decide)
            refine lv_iload_n hx hb dX10_runTrial_97 rfl (lv_at hl 5 rfl) ?_
            refine lv_iconst (v := 3) hx hb dX10_runTrial_98 (by decide) ?_
            refine lv_idiv hx hb dX10_runTrial_99 (by decide) ?_
            refine nm_div (f := 19) h_10 (rgn 3 (x := 3) (by decide)) (by decide) (fun z99 hz99 => ?_)
            exact W.iret (v := z99) hx hb hr (fun t ht hW => ⟨⟨z99, (fun k => ([v9_13_4, v9_13_5, v9_13_6, ur4.1 3, ur4.1 4] : List Int32).getD k 0, fun k => ([f9_15, f9_16] : List (Nat → Int32)).getD k (fun _ => 0), fun k => ([] : List (Nat → Int64)).getD k (fun _ => 0)), rfl, ⟨(rg_w (c := 0) (d := 20) hz99 (by decide)), hv9_13_5, p_4, p_5, trivial⟩, hp_at ht hP⟩, hS.F ht⟩) hS.2.2 dX10_runTrial_100
        · have h_18 : rg 1 1 r27 := r_ne_lo_i c30 p_13 (by decide) (by decide)
          refine lv_aload_n hx hb dX10_runTrial_33 rfl (lv_at hl 0 rfl) ?_
          refine va_get (D := G) (ci := 10) (v := .ref a77) (C := RX10) (T := TX10) (N := 11) hx hb hts (by decide +kernel) hown hK.1 hP 0 rfl rfl 6 (by decide) (hts (.fieldLink RX10 56 "CardHolder" "trial" "LCardHolder$Hands;") (by decide +kernel)) (fun _ h9 => h9) rfl dX10_runTrial_34 ?_
          refine wj_callv (wr := [(a0, .inr (10, [.ref a1, .ref a3, .ref a11, .ref a25, .ref a68, .ref a69, .ref a77, .ref a82, .ref a84, .ref a88, .ref a91])), (a12, .inr (9, [.ref a13, .ref a15, .ref a16, .ref a17, .ref a18, .int n12_5, .int n12_6])), (a13, .inr (0, [.ref a14, .int n13_1])), (a14, .inl (ct 0, 8, .inl f14)), (a16, .inl (ct 0, 8, .inl f16)), (a18, .inl (ct 0, 8, .inl f18)), (a69, .inr (6, [.ref a70, .ref a75, .ref a76, .int n69_3])), (a70, .inl (ct 5, 4, .inr (.inr (.inr (.inr (fun i => if i < 4 then some (rr i) else none)))))), ((rr 0), .inl (ct 3, 60, .inr (.inl f71))), ((rr 1), .inl (ct 3, 60, .inr (.inl f72))), ((rr 2), .inl (ct 3, 60, .inr (.inl f73))), ((rr 3), .inl (ct 3, 60, .inr (.inl f74))), (a76, .inl (ct 0, 4, .inl f76)), (a80, .inl (ct 0, 8, .inl f9_16))]) (w1 := (fun u : SU => [(a77, .inr (2, [.ref a12, .ref a78, .ref a80, .ref a81, .int (u.1 0), .int (u.1 1), .int (u.1 2), .int (ur4.1 3)])), (a78, .inr (0, [.ref a79, .int (ur4.1 4)])), (a79, .inl (ct 0, 8, .inl (u.2.1 0))), (a81, .inl (ct 0, 8, .inl f81))])) (va_runV (As := []) (rest := []) ⟨hx, hb, hml, hown, hts⟩ (a_X2_endDay l G ct a77 a12 a78 a80 a81 v9_13_4 v9_13_5 v9_13_6 (ur4.1 3) a79 (ur4.1 4) f9_15 f81 p_5) (cwV 0 hts gX10_runTrial_X2_endDay rfl rfl rfl (by decide +kernel) ⟨Nat.le_of_ble_eq_true rfl, Nat.le_of_ble_eq_true rfl⟩) (wr_preV 2 0 hK (hP.sub [13, 14, 15, 17] rfl) (hD.sub [13, 14, 15, 17] (by decide) rfl) rfl rfl) rfl rfl hl.1 rfl (lv_room (Nat.le_of_ble_eq_true rfl)) dX10_runTrial_37 ⟨Nat.zero_le _, Nat.zero_le _⟩) hS hP hD [13, 14, 15, 17] [0, 1, 2, 3, 4, 5, 6, 7, 8, 9, 10, 11, 12, 16] rfl rfl (by decide) (fun _ => rfl) (fun ur37 H locs wr37 hP hD hS => ?_)
          have hP : va_P G vwCl [(a0, .inr (10, [.ref a1, .ref a3, .ref a11, .ref a25, .ref a68, .ref a69, .ref a77, .ref a82, .ref a84, .ref a88, .ref a91])), (a12, .inr (9, [.ref a13, .ref a15, .ref a16, .ref a17, .ref a18, .int n12_5, .int n12_6])), (a13, .inr (0, [.ref a14, .int n13_1])), (a14, .inl (ct 0, 8, .inl f14)), (a16, .inl (ct 0, 8, .inl f16)), (a18, .inl (ct 0, 8, .inl f18)), (a69, .inr (6, [.ref a70, .ref a75, .ref a76, .int n69_3])), (a70, .inl (ct 5, 4, .inr (.inr (.inr (.inr (fun i => if i < 4 then some (rr i) else none)))))), ((rr 0), .inl (ct 3, 60, .inr (.inl f71))), ((rr 1), .inl (ct 3, 60, .inr (.inl f72))), ((rr 2), .inl (ct 3, 60, .inr (.inl f73))), ((rr 3), .inl (ct 3, 60, .inr (.inl f74))), (a76, .inl (ct 0, 4, .inl f76)), (a77, .inr (2, [.ref a12, .ref a78, .ref a80, .ref a81, .int (ur37.1 0), .int (ur37.1 1), .int (ur37.1 2), .int (ur4.1 3)])), (a78, .inr (0, [.ref a79, .int (ur4.1 4)])), (a79, .inl (ct 0, 8, .inl (ur37.2.1 0))), (a80, .inl (ct 0, 8, .inl f9_16)), (a81, .inl (ct 0, 8, .inl f81))] H := hP.sub [0, 1, 2, 3, 4, 5, 6, 7, 8, 9, 10, 11, 12, 14, 15, 16, 13, 17] rfl
          have hD : va_D A [(a0, .inr (10, [.ref a1, .ref a3, .ref a11, .ref a25, .ref a68, .ref a69, .ref a77, .ref a82, .ref a84, .ref a88, .ref a91])), (a12, .inr (9, [.ref a13, .ref a15, .ref a16, .ref a17, .ref a18, .int n12_5, .int n12_6])), (a13, .inr (0, [.ref a14, .int n13_1])), (a14, .inl (ct 0, 8, .inl f14)), (a16, .inl (ct 0, 8, .inl f16)), (a18, .inl (ct 0, 8, .inl f18)), (a69, .inr (6, [.ref a70, .ref a75, .ref a76, .int n69_3])), (a70, .inl (ct 5, 4, .inr (.inr (.inr (.inr (fun i => if i < 4 then some (rr i) else none)))))), ((rr 0), .inl (ct 3, 60, .inr (.inl f71))), ((rr 1), .inl (ct 3, 60, .inr (.inl f72))), ((rr 2), .inl (ct 3, 60, .inr (.inl f73))), ((rr 3), .inl (ct 3, 60, .inr (.inl f74))), (a76, .inl (ct 0, 4, .inl f76)), (a77, .inr (2, [.ref a12, .ref a78, .ref a80, .ref a81, .int (ur37.1 0), .int (ur37.1 1), .int (ur37.1 2), .int (ur4.1 3)])), (a78, .inr (0, [.ref a79, .int (ur4.1 4)])), (a79, .inl (ct 0, 8, .inl (ur37.2.1 0))), (a80, .inl (ct 0, 8, .inl f9_16)), (a81, .inl (ct 0, 8, .inl f81))] := hD.sub [0, 1, 2, 3, 4, 5, 6, 7, 8, 9, 10, 11, 12, 14, 15, 16, 13, 17] (by decide) rfl
          obtain ⟨p_19, p_20, -⟩ := wr37
          refine lv_goto (tgt := 110) hx hb dX10_runTrial_40 (by decide) ?_
          exact j110 (ur37.1 0) (ur37.1 1) (ur37.1 2) (ur37.2.1 0) f9_16 _ _ ls p_20 hP hD hS (lv_sub hl [0, 1, 2] rfl)
  exact j9 4294967296 (0 : Int32) (ur4.1 0) (ur4.1 1) (ur4.1 2) (ur4.2.1 0) (ur4.2.1 1) _ _ ls (ms_e (0 : Int32)) (rg_w (c := 0) (d := 62) (rgn 0 (x := 0) (by decide)) (by decide)) p_2 hP hD hS (lv_sub hl [1, 2, 0] rfl)
