theorem dX11_isSlot_0 : decode cX11_isSlot 0 = .ok (.iload_n 0, 1) := by decide +kernel
theorem dX11_isSlot_1 : decode cX11_isSlot 1 = .ok (.i2l, 1) := by decide +kernel
theorem dX11_isSlot_2 : decode cX11_isSlot 2 = .ok (.lconst 0, 1) := by decide +kernel
theorem dX11_isSlot_3 : decode cX11_isSlot 3 = .ok (.ldc2_w 62, 3) := by decide +kernel
set_option maxRecDepth 20000 in
theorem ggX11_isSlot_X11_in : GoodIn wsX11_isSlot wsX11_in := goodIn_r _ [5] (by decide +kernel) (by decide +kernel)
set_option maxRecDepth 20000 in
theorem gX11_isSlot_X11_in : GoodIn wsX11_isSlot (va_wsS RX11 64 yX11_in wsX11_in) := goodIn_app (goodIn_of _ (by decide +kernel)) ggX11_isSlot_X11_in
theorem dX11_isSlot_6 : decode cX11_isSlot 6 = .ok (.invokestatic 64, 3) := by decide +kernel
theorem dX11_isSlot_9 : decode cX11_isSlot 9 = .ok (.ireturn, 1) := by decide +kernel
theorem dX11_isDeed_0 : decode cX11_isDeed 0 = .ok (.lload_n 0, 1) := by decide +kernel
theorem dX11_isDeed_1 : decode cX11_isDeed 1 = .ok (.lconst 0, 1) := by decide +kernel
theorem dX11_isDeed_2 : decode cX11_isDeed 2 = .ok (.ldc2_w 212, 3) := by decide +kernel
set_option maxRecDepth 20000 in
theorem ggX11_isDeed_X11_in : GoodIn wsX11_isDeed wsX11_in := goodIn_r _ [5] (by decide +kernel) (by decide +kernel)
set_option maxRecDepth 20000 in
theorem gX11_isDeed_X11_in : GoodIn wsX11_isDeed (va_wsS RX11 64 yX11_in wsX11_in) := goodIn_app (goodIn_of _ (by decide +kernel)) ggX11_isDeed_X11_in
theorem dX11_isDeed_5 : decode cX11_isDeed 5 = .ok (.invokestatic 64, 3) := by decide +kernel
theorem dX11_isDeed_8 : decode cX11_isDeed 8 = .ok (.ireturn, 1) := by decide +kernel
theorem dX11_isSeed_0 : decode cX11_isSeed 0 = .ok (.iload_n 0, 1) := by decide +kernel
theorem dX11_isSeed_1 : decode cX11_isSeed 1 = .ok (.i2l, 1) := by decide +kernel
theorem dX11_isSeed_2 : decode cX11_isSeed 2 = .ok (.lconst 0, 1) := by decide +kernel
theorem dX11_isSeed_3 : decode cX11_isSeed 3 = .ok (.ldc2_w 396, 3) := by decide +kernel
set_option maxRecDepth 20000 in
theorem ggX11_isSeed_X11_in : GoodIn wsX11_isSeed wsX11_in := goodIn_r _ [5] (by decide +kernel) (by decide +kernel)
set_option maxRecDepth 20000 in
theorem gX11_isSeed_X11_in : GoodIn wsX11_isSeed (va_wsS RX11 64 yX11_in wsX11_in) := goodIn_app (goodIn_of _ (by decide +kernel)) ggX11_isSeed_X11_in
theorem dX11_isSeed_6 : decode cX11_isSeed 6 = .ok (.invokestatic 64, 3) := by decide +kernel
theorem dX11_isSeed_9 : decode cX11_isSeed 9 = .ok (.ireturn, 1) := by decide +kernel
theorem dX11_isPerson_0 : decode cX11_isPerson 0 = .ok (.lload_n 1, 1) := by decide +kernel
theorem dX11_isPerson_1 : decode cX11_isPerson 1 = .ok (.lconst 0, 1) := by decide +kernel
theorem dX11_isPerson_2 : decode cX11_isPerson 2 = .ok (.aload_n 0, 1) := by decide +kernel
theorem dX11_isPerson_3 : decode cX11_isPerson 3 = .ok (.getfield 34, 3) := by decide +kernel
theorem dX11_isPerson_6 : decode cX11_isPerson 6 = .ok (.iconst 1, 1) := by decide +kernel
theorem dX11_isPerson_7 : decode cX11_isPerson 7 = .ok (.iaload, 1) := by decide +kernel
theorem dX11_isPerson_8 : decode cX11_isPerson 8 = .ok (.i2l, 1) := by decide +kernel
theorem dX11_isPerson_9 : decode cX11_isPerson 9 = .ok (.lconst 1, 1) := by decide +kernel
theorem dX11_isPerson_10 : decode cX11_isPerson 10 = .ok (.lsub, 1) := by decide +kernel
set_option maxRecDepth 20000 in
theorem ggX11_isPerson_X11_in : GoodIn wsX11_isPerson wsX11_in := goodIn_r _ [5] (by decide +kernel) (by decide +kernel)
set_option maxRecDepth 20000 in
theorem gX11_isPerson_X11_in : GoodIn wsX11_isPerson (va_wsS RX11 64 yX11_in wsX11_in) := goodIn_app (goodIn_of _ (by decide +kernel)) ggX11_isPerson_X11_in
theorem dX11_isPerson_11 : decode cX11_isPerson 11 = .ok (.invokestatic 64, 3) := by decide +kernel
theorem dX11_isPerson_14 : decode cX11_isPerson 14 = .ok (.ireturn, 1) := by decide +kernel
theorem dX11_arePeople_0 : decode cX11_arePeople 0 = .ok (.aload_n 0, 1) := by decide +kernel
theorem dX11_arePeople_1 : decode cX11_arePeople 1 = .ok (.iload_n 1, 1) := by decide +kernel
theorem dX11_arePeople_2 : decode cX11_arePeople 2 = .ok (.i2l, 1) := by decide +kernel
set_option maxRecDepth 20000 in
theorem ggX11_arePeople_X11_isPerson : GoodIn wsX11_arePeople wsX11_isPerson := goodIn_r _ [5, 6, 7, 8, 4, 9, 10, 11, 12, 13, 14, 15, 16, 17, 18, 19, 20, 21, 22, 23, 24, 25, 26, 27, 28, 29, 30, 31, 32, 33, 34, 35, 36, 37, 38, 39, 40] (by decide +kernel) (by decide +kernel)
set_option maxRecDepth 20000 in
theorem gX11_arePeople_X11_isPerson : GoodIn wsX11_arePeople (wsV RX11 206 RX11 yX11_isPerson wsX11_isPerson) := goodIn_app (goodIn_of _ (by decide +kernel)) ggX11_arePeople_X11_isPerson
theorem dX11_arePeople_3 : decode cX11_arePeople 3 = .ok (.invokevirtual 206, 3) := by decide +kernel
theorem dX11_arePeople_6 : decode cX11_arePeople 6 = .ok (.ifCond .eq 16, 3) := by decide +kernel
theorem dX11_arePeople_22 : decode cX11_arePeople 22 = .ok (.iconst 0, 1) := by decide +kernel
theorem dX11_arePeople_23 : decode cX11_arePeople 23 = .ok (.ireturn, 1) := by decide +kernel
theorem dX11_isCity_0 : decode cX11_isCity 0 = .ok (.aload_n 0, 1) := by decide +kernel
theorem dX11_isCity_1 : decode cX11_isCity 1 = .ok (.getfield 31, 3) := by decide +kernel
theorem dX11_isCity_4 : decode cX11_isCity 4 = .ok (.iconst 0, 1) := by decide +kernel
theorem dX11_isCity_5 : decode cX11_isCity 5 = .ok (.iaload, 1) := by decide +kernel
theorem dX11_isCity_6 : decode cX11_isCity 6 = .ok (.ifCond .le 7, 3) := by decide +kernel
theorem dX11_isCity_13 : decode cX11_isCity 13 = .ok (.iconst 0, 1) := by decide +kernel
theorem dX11_isCity_14 : decode cX11_isCity 14 = .ok (.ireturn, 1) := by decide +kernel
theorem dX11_isSet_0 : decode cX11_isSet 0 = .ok (.aload_n 0, 1) := by decide +kernel
set_option maxRecDepth 20000 in
theorem ggX11_isSet_X11_isCity : GoodIn wsX11_isSet wsX11_isCity := goodIn_r _ [6, 7, 11, 12, 13, 14, 15, 16, 17, 18, 19, 20, 21, 22, 23, 24, 25, 26, 27, 28, 29, 30, 31, 32, 33, 34, 35, 36, 37, 38, 39, 40, 41] (by decide +kernel) (by decide +kernel)
set_option maxRecDepth 20000 in
theorem gX11_isSet_X11_isCity : GoodIn wsX11_isSet (wsV RX11 209 RX11 yX11_isCity wsX11_isCity) := goodIn_app (goodIn_of _ (by decide +kernel)) ggX11_isSet_X11_isCity
theorem dX11_isSet_1 : decode cX11_isSet 1 = .ok (.invokevirtual 209, 3) := by decide +kernel
theorem dX11_isSet_4 : decode cX11_isSet 4 = .ok (.ifCond .eq 27, 3) := by decide +kernel
theorem dX11_isSet_31 : decode cX11_isSet 31 = .ok (.iconst 0, 1) := by decide +kernel
theorem dX11_isSet_32 : decode cX11_isSet 32 = .ok (.ireturn, 1) := by decide +kernel
theorem dX11_isChain_0 : decode cX11_isChain 0 = .ok (.aload_n 0, 1) := by decide +kernel
theorem dX11_isChain_1 : decode cX11_isChain 1 = .ok (.iload_n 1, 1) := by decide +kernel
theorem dX11_isChain_2 : decode cX11_isChain 2 = .ok (.i2l, 1) := by decide +kernel
set_option maxRecDepth 20000 in
theorem ggX11_isChain_X11_isPerson : GoodIn wsX11_isChain wsX11_isPerson := goodIn_r _ [5, 6, 7, 8, 4, 9, 14, 15, 16, 17, 18, 19, 20, 21, 22, 23, 24, 25, 26, 27, 28, 29, 30, 31, 32, 33, 34, 35, 36, 37, 38, 39, 40, 41, 42, 43, 44] (by decide +kernel) (by decide +kernel)
set_option maxRecDepth 20000 in
theorem gX11_isChain_X11_isPerson : GoodIn wsX11_isChain (wsV RX11 206 RX11 yX11_isPerson wsX11_isPerson) := goodIn_app (goodIn_of _ (by decide +kernel)) ggX11_isChain_X11_isPerson
theorem dX11_isChain_3 : decode cX11_isChain 3 = .ok (.invokevirtual 206, 3) := by decide +kernel
theorem dX11_isChain_6 : decode cX11_isChain 6 = .ok (.ifCond .eq 15, 3) := by decide +kernel
theorem dX11_isChain_21 : decode cX11_isChain 21 = .ok (.iconst 0, 1) := by decide +kernel
theorem dX11_isChain_22 : decode cX11_isChain 22 = .ok (.ireturn, 1) := by decide +kernel
theorem dX11_areDeeds_0 : decode cX11_areDeeds 0 = .ok (.aload_n 0, 1) := by decide +kernel
set_option maxRecDepth 20000 in
theorem ggX11_areDeeds_X11_isCity : GoodIn wsX11_areDeeds wsX11_isCity := goodIn_r _ [6, 7, 11, 12, 13, 14, 15, 16, 17, 18, 19, 20, 21, 22, 23, 24, 25, 26, 27, 28, 29, 30, 31, 32, 33, 34, 35, 36, 37, 38, 39, 40, 41] (by decide +kernel) (by decide +kernel)
set_option maxRecDepth 20000 in
theorem gX11_areDeeds_X11_isCity : GoodIn wsX11_areDeeds (wsV RX11 209 RX11 yX11_isCity wsX11_isCity) := goodIn_app (goodIn_of _ (by decide +kernel)) ggX11_areDeeds_X11_isCity
theorem dX11_areDeeds_1 : decode cX11_areDeeds 1 = .ok (.invokevirtual 209, 3) := by decide +kernel
theorem dX11_areDeeds_4 : decode cX11_areDeeds 4 = .ok (.ifCond .eq 19, 3) := by decide +kernel
theorem dX11_areDeeds_23 : decode cX11_areDeeds 23 = .ok (.iconst 0, 1) := by decide +kernel
theorem dX11_areDeeds_24 : decode cX11_areDeeds 24 = .ok (.ireturn, 1) := by decide +kernel
theorem dX11_whyNot_0 : decode cX11_whyNot 0 = .ok (.iload_n 1, 1) := by decide +kernel
set_option maxRecDepth 20000 in
theorem ggX11_whyNot_X11_isSlot : GoodIn wsX11_whyNot wsX11_isSlot := goodIn_r _ [7, 8, 9, 10, 6, 11] (by decide +kernel) (by decide +kernel)
set_option maxRecDepth 20000 in
theorem gX11_whyNot_X11_isSlot : GoodIn wsX11_whyNot (va_wsS RX11 68 yX11_isSlot wsX11_isSlot) := goodIn_app (goodIn_of _ (by decide +kernel)) ggX11_whyNot_X11_isSlot
theorem dX11_whyNot_1 : decode cX11_whyNot 1 = .ok (.invokestatic 68, 3) := by decide +kernel
theorem dX11_whyNot_4 : decode cX11_whyNot 4 = .ok (.ifCond .eq 10, 3) := by decide +kernel
theorem dX11_whyNot_14 : decode cX11_whyNot 14 = .ok (.bipush (-2), 2) := by decide +kernel
theorem dX11_whyNot_16 : decode cX11_whyNot 16 = .ok (.ireturn, 1) := by decide +kernel
theorem dX11_whyNot_7 : decode cX11_whyNot 7 = .ok (.aload_n 0, 1) := by decide +kernel
set_option maxRecDepth 20000 in
theorem ggX11_whyNot_X11_isCity : GoodIn wsX11_whyNot wsX11_isCity := goodIn_r _ [15, 16, 21, 22, 23, 24, 25, 26, 27, 28, 29, 30, 31, 32, 33, 34, 35, 36, 37, 38, 39, 40, 41, 42, 43, 44, 45, 46, 47, 48, 49, 50, 51] (by decide +kernel) (by decide +kernel)
set_option maxRecDepth 20000 in
theorem gX11_whyNot_X11_isCity : GoodIn wsX11_whyNot (wsV RX11 209 RX11 yX11_isCity wsX11_isCity) := goodIn_app (goodIn_of _ (by decide +kernel)) ggX11_whyNot_X11_isCity
theorem dX11_whyNot_8 : decode cX11_whyNot 8 = .ok (.invokevirtual 209, 3) := by decide +kernel
theorem dX11_whyNot_11 : decode cX11_whyNot 11 = .ok (.ifCond .ne 6, 3) := by decide +kernel
theorem dX11_whyNotJudge_0 : decode cX11_whyNotJudge 0 = .ok (.iload_n 1, 1) := by decide +kernel
set_option maxRecDepth 20000 in
theorem ggX11_whyNotJudge_X11_isSlot : GoodIn wsX11_whyNotJudge wsX11_isSlot := goodIn_r _ [8, 9, 10, 11, 7, 12] (by decide +kernel) (by decide +kernel)
set_option maxRecDepth 20000 in
theorem gX11_whyNotJudge_X11_isSlot : GoodIn wsX11_whyNotJudge (va_wsS RX11 68 yX11_isSlot wsX11_isSlot) := goodIn_app (goodIn_of _ (by decide +kernel)) ggX11_whyNotJudge_X11_isSlot
theorem dX11_whyNotJudge_1 : decode cX11_whyNotJudge 1 = .ok (.invokestatic 68, 3) := by decide +kernel
theorem dX11_whyNotJudge_4 : decode cX11_whyNotJudge 4 = .ok (.ifCond .eq 10, 3) := by decide +kernel
theorem dX11_whyNotJudge_14 : decode cX11_whyNotJudge 14 = .ok (.bipush (-2), 2) := by decide +kernel
theorem dX11_whyNotJudge_16 : decode cX11_whyNotJudge 16 = .ok (.ireturn, 1) := by decide +kernel
theorem dX11_whyNotJudge_7 : decode cX11_whyNotJudge 7 = .ok (.aload_n 0, 1) := by decide +kernel
set_option maxRecDepth 20000 in
theorem ggX11_whyNotJudge_X11_isCity : GoodIn wsX11_whyNotJudge wsX11_isCity := goodIn_r _ [16, 17, 27, 28, 29, 30, 31, 32, 33, 34, 35, 36, 37, 38, 39, 40, 41, 42, 43, 44, 45, 46, 47, 48, 49, 50, 51, 52, 53, 54, 55, 56, 57] (by decide +kernel) (by decide +kernel)
set_option maxRecDepth 20000 in
theorem gX11_whyNotJudge_X11_isCity : GoodIn wsX11_whyNotJudge (wsV RX11 209 RX11 yX11_isCity wsX11_isCity) := goodIn_app (goodIn_of _ (by decide +kernel)) ggX11_whyNotJudge_X11_isCity
theorem dX11_whyNotJudge_8 : decode cX11_whyNotJudge 8 = .ok (.invokevirtual 209, 3) := by decide +kernel
theorem dX11_whyNotJudge_11 : decode cX11_whyNotJudge 11 = .ok (.ifCond .ne 6, 3) := by decide +kernel
theorem dX11_isDuel_0 : decode cX11_isDuel 0 = .ok (.aload_n 0, 1) := by decide +kernel
theorem dX11_isDuel_1 : decode cX11_isDuel 1 = .ok (.iload_n 1, 1) := by decide +kernel
theorem dX11_isDuel_2 : decode cX11_isDuel 2 = .ok (.iload_n 2, 1) := by decide +kernel
set_option maxRecDepth 20000 in
theorem ggX11_isDuel_X11_arePeople : GoodIn wsX11_isDuel wsX11_arePeople := goodIn_r _ [5, 6, 7, 8, 4, 9, 10, 11, 12, 13, 58, 59, 60, 61, 62, 63, 64, 65, 66, 67, 68, 69, 70, 71, 72, 73, 74, 75, 76, 77, 78, 79, 80, 81, 82, 83, 84, 85, 86, 87, 88] (by decide +kernel) (by decide +kernel)
set_option maxRecDepth 20000 in
theorem gX11_isDuel_X11_arePeople : GoodIn wsX11_isDuel (wsV RX11 266 RX11 yX11_arePeople wsX11_arePeople) := goodIn_app (goodIn_of _ (by decide +kernel)) ggX11_isDuel_X11_arePeople
theorem dX11_isDuel_3 : decode cX11_isDuel 3 = .ok (.invokevirtual 266, 3) := by decide +kernel
theorem dX11_isDuel_6 : decode cX11_isDuel 6 = .ok (.ifCond .eq 8, 3) := by decide +kernel
theorem dX11_isDuel_14 : decode cX11_isDuel 14 = .ok (.iconst 0, 1) := by decide +kernel
theorem dX11_isDuel_15 : decode cX11_isDuel 15 = .ok (.ireturn, 1) := by decide +kernel
theorem dX11_person_0 : decode cX11_person 0 = .ok (.aload_n 0, 1) := by decide +kernel
theorem dX11_person_1 : decode cX11_person 1 = .ok (.iconst 0, 1) := by decide +kernel
theorem dX11_person_2 : decode cX11_person 2 = .ok (.putfield 59, 3) := by decide +kernel
theorem dX11_person_5 : decode cX11_person 5 = .ok (.aload_n 0, 1) := by decide +kernel
theorem dX11_person_6 : decode cX11_person 6 = .ok (.iload_n 1, 1) := by decide +kernel
theorem dX11_person_7 : decode cX11_person 7 = .ok (.i2l, 1) := by decide +kernel
set_option maxRecDepth 20000 in
theorem ggX11_person_X11_isPerson : GoodIn wsX11_person wsX11_isPerson := goodIn_r _ [9, 10, 11, 12, 8, 13, 60, 61, 62, 63, 64, 65, 66, 67, 68, 69, 70, 71, 72, 73, 74, 75, 76, 77, 78, 79, 80, 81, 82, 83, 84, 85, 86, 87, 88, 89, 90] (by decide +kernel) (by decide +kernel)
set_option maxRecDepth 20000 in
theorem gX11_person_X11_isPerson : GoodIn wsX11_person (wsV RX11 206 RX11 yX11_isPerson wsX11_isPerson) := goodIn_app (goodIn_of _ (by decide +kernel)) ggX11_person_X11_isPerson
theorem dX11_person_8 : decode cX11_person 8 = .ok (.invokevirtual 206, 3) := by decide +kernel
theorem dX11_person_11 : decode cX11_person 11 = .ok (.ifCond .eq 15, 3) := by decide +kernel
theorem dX11_person_26 : decode cX11_person 26 = .ok (.bipush (-2), 2) := by decide +kernel
theorem dX11_person_28 : decode cX11_person 28 = .ok (.ireturn, 1) := by decide +kernel
theorem dX11_free_0 : decode cX11_free 0 = .ok (.aload_n 0, 1) := by decide +kernel
theorem dX11_free_1 : decode cX11_free 1 = .ok (.iconst 0, 1) := by decide +kernel
theorem dX11_free_2 : decode cX11_free 2 = .ok (.putfield 59, 3) := by decide +kernel
theorem dX11_free_5 : decode cX11_free 5 = .ok (.aload_n 0, 1) := by decide +kernel
set_option maxRecDepth 20000 in
theorem ggX11_free_X11_isCity : GoodIn wsX11_free wsX11_isCity := goodIn_r _ [6, 7, 53, 54, 55, 56, 57, 58, 59, 60, 61, 62, 63, 64, 65, 66, 67, 68, 69, 70, 71, 72, 73, 74, 75, 76, 77, 78, 79, 80, 81, 82, 83] (by decide +kernel) (by decide +kernel)
set_option maxRecDepth 20000 in
theorem gX11_free_X11_isCity : GoodIn wsX11_free (wsV RX11 209 RX11 yX11_isCity wsX11_isCity) := goodIn_app (goodIn_of _ (by decide +kernel)) ggX11_free_X11_isCity
theorem dX11_free_6 : decode cX11_free 6 = .ok (.invokevirtual 209, 3) := by decide +kernel
theorem dX11_free_9 : decode cX11_free 9 = .ok (.ifCond .ne 6, 3) := by decide +kernel
theorem dX11_free_12 : decode cX11_free 12 = .ok (.bipush (-2), 2) := by decide +kernel
theorem dX11_free_14 : decode cX11_free 14 = .ok (.ireturn, 1) := by decide +kernel
theorem dX11_under_0 : decode cX11_under 0 = .ok (.aload_n 0, 1) := by decide +kernel
theorem dX11_under_1 : decode cX11_under 1 = .ok (.iconst 0, 1) := by decide +kernel
theorem dX11_under_2 : decode cX11_under 2 = .ok (.putfield 59, 3) := by decide +kernel
theorem dX11_under_5 : decode cX11_under 5 = .ok (.aload_n 0, 1) := by decide +kernel
theorem dX11_under_6 : decode cX11_under 6 = .ok (.iload_n 1, 1) := by decide +kernel
theorem dX11_under_7 : decode cX11_under 7 = .ok (.i2l, 1) := by decide +kernel
set_option maxRecDepth 20000 in
theorem ggX11_under_X11_isPerson : GoodIn wsX11_under wsX11_isPerson := goodIn_r _ [6, 7, 8, 9, 5, 10, 55, 56, 57, 58, 59, 60, 61, 62, 63, 64, 65, 66, 67, 68, 69, 70, 71, 72, 73, 74, 75, 76, 77, 78, 79, 80, 81, 82, 83, 84, 85] (by decide +kernel) (by decide +kernel)
set_option maxRecDepth 20000 in
theorem gX11_under_X11_isPerson : GoodIn wsX11_under (wsV RX11 206 RX11 yX11_isPerson wsX11_isPerson) := goodIn_app (goodIn_of _ (by decide +kernel)) ggX11_under_X11_isPerson
theorem dX11_under_8 : decode cX11_under 8 = .ok (.invokevirtual 206, 3) := by decide +kernel
theorem dX11_under_11 : decode cX11_under 11 = .ok (.ifCond .ne 6, 3) := by decide +kernel
theorem dX11_under_14 : decode cX11_under 14 = .ok (.bipush (-2), 2) := by decide +kernel
theorem dX11_under_16 : decode cX11_under 16 = .ok (.ireturn, 1) := by decide +kernel
theorem dX11_time_0 : decode cX11_time 0 = .ok (.aload_n 0, 1) := by decide +kernel
theorem dX11_time_1 : decode cX11_time 1 = .ok (.iconst 0, 1) := by decide +kernel
theorem dX11_time_2 : decode cX11_time 2 = .ok (.putfield 59, 3) := by decide +kernel
theorem dX11_time_5 : decode cX11_time 5 = .ok (.aload_n 0, 1) := by decide +kernel
theorem dX11_time_6 : decode cX11_time 6 = .ok (.iload_n 1, 1) := by decide +kernel
theorem dX11_time_7 : decode cX11_time 7 = .ok (.iload_n 2, 1) := by decide +kernel
set_option maxRecDepth 20000 in
theorem ggX11_time_X11_arePeople : GoodIn wsX11_time wsX11_arePeople := goodIn_r _ [6, 7, 8, 9, 5, 10, 11, 12, 13, 14, 59, 60, 61, 62, 63, 64, 65, 66, 67, 68, 69, 70, 71, 72, 73, 74, 75, 76, 77, 78, 79, 80, 81, 82, 83, 84, 85, 86, 87, 88, 89] (by decide +kernel) (by decide +kernel)
set_option maxRecDepth 20000 in
theorem gX11_time_X11_arePeople : GoodIn wsX11_time (wsV RX11 266 RX11 yX11_arePeople wsX11_arePeople) := goodIn_app (goodIn_of _ (by decide +kernel)) ggX11_time_X11_arePeople
theorem dX11_time_8 : decode cX11_time 8 = .ok (.invokevirtual 266, 3) := by decide +kernel
theorem dX11_time_11 : decode cX11_time 11 = .ok (.ifCond .ne 6, 3) := by decide +kernel
theorem dX11_time_14 : decode cX11_time 14 = .ok (.bipush (-2), 2) := by decide +kernel
theorem dX11_time_16 : decode cX11_time 16 = .ok (.ireturn, 1) := by decide +kernel
theorem dX11_top_0 : decode cX11_top 0 = .ok (.aload_n 0, 1) := by decide +kernel
theorem dX11_top_1 : decode cX11_top 1 = .ok (.iconst 0, 1) := by decide +kernel
theorem dX11_top_2 : decode cX11_top 2 = .ok (.putfield 59, 3) := by decide +kernel
theorem dX11_top_5 : decode cX11_top 5 = .ok (.aload_n 0, 1) := by decide +kernel
theorem dX11_top_6 : decode cX11_top 6 = .ok (.iload_n 1, 1) := by decide +kernel
theorem dX11_top_7 : decode cX11_top 7 = .ok (.i2l, 1) := by decide +kernel
set_option maxRecDepth 20000 in
theorem ggX11_top_X11_isPerson : GoodIn wsX11_top wsX11_isPerson := goodIn_r _ [7, 8, 9, 10, 6, 11, 51, 52, 53, 54, 55, 56, 57, 58, 59, 60, 61, 62, 63, 64, 65, 66, 67, 68, 69, 70, 71, 72, 73, 74, 75, 76, 77, 78, 79, 80, 81] (by decide +kernel) (by decide +kernel)
set_option maxRecDepth 20000 in
theorem gX11_top_X11_isPerson : GoodIn wsX11_top (wsV RX11 206 RX11 yX11_isPerson wsX11_isPerson) := goodIn_app (goodIn_of _ (by decide +kernel)) ggX11_top_X11_isPerson
theorem dX11_top_8 : decode cX11_top 8 = .ok (.invokevirtual 206, 3) := by decide +kernel
theorem dX11_top_11 : decode cX11_top 11 = .ok (.ifCond .ne 6, 3) := by decide +kernel
theorem dX11_top_14 : decode cX11_top 14 = .ok (.bipush (-2), 2) := by decide +kernel
theorem dX11_top_16 : decode cX11_top 16 = .ok (.ireturn, 1) := by decide +kernel
theorem dX11_ring_0 : decode cX11_ring 0 = .ok (.aload_n 0, 1) := by decide +kernel
theorem dX11_ring_1 : decode cX11_ring 1 = .ok (.iconst 0, 1) := by decide +kernel
theorem dX11_ring_2 : decode cX11_ring 2 = .ok (.putfield 59, 3) := by decide +kernel
theorem dX11_ring_5 : decode cX11_ring 5 = .ok (.aload_n 0, 1) := by decide +kernel
theorem dX11_ring_6 : decode cX11_ring 6 = .ok (.iload_n 1, 1) := by decide +kernel
theorem dX11_ring_7 : decode cX11_ring 7 = .ok (.i2l, 1) := by decide +kernel
set_option maxRecDepth 20000 in
theorem ggX11_ring_X11_isPerson : GoodIn wsX11_ring wsX11_isPerson := goodIn_r _ [6, 7, 8, 9, 5, 10, 55, 56, 57, 58, 59, 60, 61, 62, 63, 64, 65, 66, 67, 68, 69, 70, 71, 72, 73, 74, 75, 76, 77, 78, 79, 80, 81, 82, 83, 84, 85] (by decide +kernel) (by decide +kernel)
set_option maxRecDepth 20000 in
theorem gX11_ring_X11_isPerson : GoodIn wsX11_ring (wsV RX11 206 RX11 yX11_isPerson wsX11_isPerson) := goodIn_app (goodIn_of _ (by decide +kernel)) ggX11_ring_X11_isPerson
theorem dX11_ring_8 : decode cX11_ring 8 = .ok (.invokevirtual 206, 3) := by decide +kernel
theorem dX11_ring_11 : decode cX11_ring 11 = .ok (.ifCond .ne 6, 3) := by decide +kernel
theorem dX11_ring_14 : decode cX11_ring 14 = .ok (.bipush (-2), 2) := by decide +kernel
theorem dX11_ring_16 : decode cX11_ring 16 = .ok (.ireturn, 1) := by decide +kernel
theorem dX11_rings_0 : decode cX11_rings 0 = .ok (.aload_n 0, 1) := by decide +kernel
theorem dX11_rings_1 : decode cX11_rings 1 = .ok (.iconst 0, 1) := by decide +kernel
theorem dX11_rings_2 : decode cX11_rings 2 = .ok (.putfield 59, 3) := by decide +kernel
theorem dX11_rings_5 : decode cX11_rings 5 = .ok (.aload_n 0, 1) := by decide +kernel
set_option maxRecDepth 20000 in
theorem ggX11_rings_X11_isCity : GoodIn wsX11_rings wsX11_isCity := goodIn_r _ [6, 7, 57, 58, 59, 60, 61, 62, 63, 64, 65, 66, 67, 68, 69, 70, 71, 72, 73, 74, 75, 76, 77, 78, 79, 80, 81, 82, 83, 84, 85, 86, 87] (by decide +kernel) (by decide +kernel)
set_option maxRecDepth 20000 in
theorem gX11_rings_X11_isCity : GoodIn wsX11_rings (wsV RX11 209 RX11 yX11_isCity wsX11_isCity) := goodIn_app (goodIn_of _ (by decide +kernel)) ggX11_rings_X11_isCity
theorem dX11_rings_6 : decode cX11_rings 6 = .ok (.invokevirtual 209, 3) := by decide +kernel
theorem dX11_rings_9 : decode cX11_rings 9 = .ok (.ifCond .ne 6, 3) := by decide +kernel
theorem dX11_rings_12 : decode cX11_rings 12 = .ok (.bipush (-2), 2) := by decide +kernel
theorem dX11_rings_14 : decode cX11_rings 14 = .ok (.ireturn, 1) := by decide +kernel
theorem dX11_chain_0 : decode cX11_chain 0 = .ok (.aload_n 0, 1) := by decide +kernel
theorem dX11_chain_1 : decode cX11_chain 1 = .ok (.iconst 0, 1) := by decide +kernel
theorem dX11_chain_2 : decode cX11_chain 2 = .ok (.putfield 59, 3) := by decide +kernel
theorem dX11_chain_5 : decode cX11_chain 5 = .ok (.aload_n 0, 1) := by decide +kernel
theorem dX11_chain_6 : decode cX11_chain 6 = .ok (.iload_n 1, 1) := by decide +kernel
theorem dX11_chain_7 : decode cX11_chain 7 = .ok (.iload_n 2, 1) := by decide +kernel
set_option maxRecDepth 20000 in
theorem ggX11_chain_X11_isChain : GoodIn wsX11_chain wsX11_isChain := goodIn_r _ [6, 7, 8, 9, 5, 10, 11, 12, 13, 14, 15, 16, 17, 18, 67, 68, 69, 70, 71, 72, 73, 74, 75, 76, 77, 78, 79, 80, 81, 82, 83, 84, 85, 86, 87, 88, 89, 90, 91, 92, 93, 94, 95, 96, 97] (by decide +kernel) (by decide +kernel)
set_option maxRecDepth 20000 in
theorem gX11_chain_X11_isChain : GoodIn wsX11_chain (wsV RX11 281 RX11 yX11_isChain wsX11_isChain) := goodIn_app (goodIn_of _ (by decide +kernel)) ggX11_chain_X11_isChain
theorem dX11_chain_8 : decode cX11_chain 8 = .ok (.invokevirtual 281, 3) := by decide +kernel
theorem dX11_chain_11 : decode cX11_chain 11 = .ok (.ifCond .ne 6, 3) := by decide +kernel
theorem dX11_chain_14 : decode cX11_chain 14 = .ok (.bipush (-2), 2) := by decide +kernel
theorem dX11_chain_16 : decode cX11_chain 16 = .ok (.ireturn, 1) := by decide +kernel
theorem dX11_doer_0 : decode cX11_doer 0 = .ok (.aload_n 0, 1) := by decide +kernel
theorem dX11_doer_1 : decode cX11_doer 1 = .ok (.iconst 0, 1) := by decide +kernel
theorem dX11_doer_2 : decode cX11_doer 2 = .ok (.putfield 59, 3) := by decide +kernel
theorem dX11_doer_5 : decode cX11_doer 5 = .ok (.aload_n 0, 1) := by decide +kernel
theorem dX11_doer_6 : decode cX11_doer 6 = .ok (.iload_n 1, 1) := by decide +kernel
theorem dX11_doer_7 : decode cX11_doer 7 = .ok (.iload_n 2, 1) := by decide +kernel
set_option maxRecDepth 20000 in
theorem ggX11_doer_X11_isChain : GoodIn wsX11_doer wsX11_isChain := goodIn_r _ [6, 7, 8, 9, 5, 10, 11, 12, 13, 14, 15, 16, 17, 18, 67, 68, 69, 70, 71, 72, 73, 74, 75, 76, 77, 78, 79, 80, 81, 82, 83, 84, 85, 86, 87, 88, 89, 90, 91, 92, 93, 94, 95, 96, 97] (by decide +kernel) (by decide +kernel)
set_option maxRecDepth 20000 in
theorem gX11_doer_X11_isChain : GoodIn wsX11_doer (wsV RX11 281 RX11 yX11_isChain wsX11_isChain) := goodIn_app (goodIn_of _ (by decide +kernel)) ggX11_doer_X11_isChain
theorem dX11_doer_8 : decode cX11_doer 8 = .ok (.invokevirtual 281, 3) := by decide +kernel
theorem dX11_doer_11 : decode cX11_doer 11 = .ok (.ifCond .ne 6, 3) := by decide +kernel
theorem dX11_doer_14 : decode cX11_doer 14 = .ok (.bipush (-2), 2) := by decide +kernel
theorem dX11_doer_16 : decode cX11_doer 16 = .ok (.ireturn, 1) := by decide +kernel
theorem dX11_asked_0 : decode cX11_asked 0 = .ok (.aload_n 0, 1) := by decide +kernel
theorem dX11_asked_1 : decode cX11_asked 1 = .ok (.iconst 0, 1) := by decide +kernel
theorem dX11_asked_2 : decode cX11_asked 2 = .ok (.putfield 59, 3) := by decide +kernel
theorem dX11_asked_5 : decode cX11_asked 5 = .ok (.aload_n 0, 1) := by decide +kernel
theorem dX11_asked_6 : decode cX11_asked 6 = .ok (.iload_n 1, 1) := by decide +kernel
theorem dX11_asked_7 : decode cX11_asked 7 = .ok (.iload_n 2, 1) := by decide +kernel
set_option maxRecDepth 20000 in
theorem ggX11_asked_X11_isChain : GoodIn wsX11_asked wsX11_isChain := goodIn_r _ [7, 8, 9, 10, 6, 11, 12, 13, 14, 15, 16, 17, 18, 19, 67, 68, 69, 70, 71, 72, 73, 74, 75, 76, 77, 78, 79, 80, 81, 82, 83, 84, 85, 86, 87, 88, 89, 90, 91, 92, 93, 94, 95, 96, 97] (by decide +kernel) (by decide +kernel)
set_option maxRecDepth 20000 in
theorem gX11_asked_X11_isChain : GoodIn wsX11_asked (wsV RX11 281 RX11 yX11_isChain wsX11_isChain) := goodIn_app (goodIn_of _ (by decide +kernel)) ggX11_asked_X11_isChain
theorem dX11_asked_8 : decode cX11_asked 8 = .ok (.invokevirtual 281, 3) := by decide +kernel
theorem dX11_asked_11 : decode cX11_asked 11 = .ok (.ifCond .ne 6, 3) := by decide +kernel
theorem dX11_asked_14 : decode cX11_asked 14 = .ok (.bipush (-2), 2) := by decide +kernel
theorem dX11_asked_16 : decode cX11_asked 16 = .ok (.ireturn, 1) := by decide +kernel
theorem dX11_can_0 : decode cX11_can 0 = .ok (.aload_n 0, 1) := by decide +kernel
theorem dX11_can_1 : decode cX11_can 1 = .ok (.iconst 0, 1) := by decide +kernel
theorem dX11_can_2 : decode cX11_can 2 = .ok (.putfield 59, 3) := by decide +kernel
theorem dX11_can_5 : decode cX11_can 5 = .ok (.aload_n 0, 1) := by decide +kernel
theorem dX11_can_6 : decode cX11_can 6 = .ok (.iload_n 1, 1) := by decide +kernel
theorem dX11_can_7 : decode cX11_can 7 = .ok (.i2l, 1) := by decide +kernel
set_option maxRecDepth 20000 in
theorem ggX11_can_X11_isPerson : GoodIn wsX11_can wsX11_isPerson := goodIn_r _ [6, 7, 8, 9, 5, 10, 59, 60, 61, 62, 63, 64, 65, 66, 67, 68, 69, 70, 71, 72, 73, 74, 75, 76, 77, 78, 79, 80, 81, 82, 83, 84, 85, 86, 87, 88, 89] (by decide +kernel) (by decide +kernel)
set_option maxRecDepth 20000 in
theorem gX11_can_X11_isPerson : GoodIn wsX11_can (wsV RX11 206 RX11 yX11_isPerson wsX11_isPerson) := goodIn_app (goodIn_of _ (by decide +kernel)) ggX11_can_X11_isPerson
theorem dX11_can_8 : decode cX11_can 8 = .ok (.invokevirtual 206, 3) := by decide +kernel
theorem dX11_can_11 : decode cX11_can 11 = .ok (.ifCond .ne 6, 3) := by decide +kernel
theorem dX11_can_14 : decode cX11_can 14 = .ok (.bipush (-2), 2) := by decide +kernel
theorem dX11_can_16 : decode cX11_can 16 = .ok (.ireturn, 1) := by decide +kernel
theorem dX11_why_0 : decode cX11_why 0 = .ok (.aload_n 0, 1) := by decide +kernel
theorem dX11_why_1 : decode cX11_why 1 = .ok (.iconst 0, 1) := by decide +kernel
theorem dX11_why_2 : decode cX11_why 2 = .ok (.putfield 59, 3) := by decide +kernel
theorem dX11_why_5 : decode cX11_why 5 = .ok (.aload_n 0, 1) := by decide +kernel
theorem dX11_why_6 : decode cX11_why 6 = .ok (.iload_n 1, 1) := by decide +kernel
theorem dX11_why_7 : decode cX11_why 7 = .ok (.iload_n 2, 1) := by decide +kernel
set_option maxRecDepth 20000 in
theorem ggX11_why_X11_arePeople : GoodIn wsX11_why wsX11_arePeople := goodIn_r _ [6, 7, 8, 9, 5, 10, 11, 12, 13, 14, 63, 64, 65, 66, 67, 68, 69, 70, 71, 72, 73, 74, 75, 76, 77, 78, 79, 80, 81, 82, 83, 84, 85, 86, 87, 88, 89, 90, 91, 92, 93] (by decide +kernel) (by decide +kernel)
set_option maxRecDepth 20000 in
theorem gX11_why_X11_arePeople : GoodIn wsX11_why (wsV RX11 266 RX11 yX11_arePeople wsX11_arePeople) := goodIn_app (goodIn_of _ (by decide +kernel)) ggX11_why_X11_arePeople
theorem dX11_why_8 : decode cX11_why 8 = .ok (.invokevirtual 266, 3) := by decide +kernel
theorem dX11_why_11 : decode cX11_why 11 = .ok (.ifCond .eq 11, 3) := by decide +kernel
theorem dX11_why_22 : decode cX11_why 22 = .ok (.bipush (-2), 2) := by decide +kernel
theorem dX11_why_24 : decode cX11_why 24 = .ok (.ireturn, 1) := by decide +kernel
theorem dX11_ask_0 : decode cX11_ask 0 = .ok (.aload_n 0, 1) := by decide +kernel
theorem dX11_ask_1 : decode cX11_ask 1 = .ok (.iconst 0, 1) := by decide +kernel
theorem dX11_ask_2 : decode cX11_ask 2 = .ok (.putfield 59, 3) := by decide +kernel
theorem dX11_ask_5 : decode cX11_ask 5 = .ok (.aload_n 0, 1) := by decide +kernel
theorem dX11_ask_6 : decode cX11_ask 6 = .ok (.iload_n 1, 1) := by decide +kernel
theorem dX11_ask_7 : decode cX11_ask 7 = .ok (.iload_n 2, 1) := by decide +kernel
set_option maxRecDepth 20000 in
theorem ggX11_ask_X11_arePeople : GoodIn wsX11_ask wsX11_arePeople := goodIn_r _ [7, 8, 9, 10, 6, 11, 12, 13, 14, 15, 71, 72, 73, 74, 75, 76, 77, 78, 79, 80, 81, 82, 83, 84, 85, 86, 87, 88, 89, 90, 91, 92, 93, 94, 95, 96, 97, 98, 99, 100, 101] (by decide +kernel) (by decide +kernel)
set_option maxRecDepth 20000 in
theorem gX11_ask_X11_arePeople : GoodIn wsX11_ask (wsV RX11 266 RX11 yX11_arePeople wsX11_arePeople) := goodIn_app (goodIn_of _ (by decide +kernel)) ggX11_ask_X11_arePeople
theorem dX11_ask_8 : decode cX11_ask 8 = .ok (.invokevirtual 266, 3) := by decide +kernel
theorem dX11_ask_11 : decode cX11_ask 11 = .ok (.ifCond .eq 11, 3) := by decide +kernel
theorem dX11_ask_22 : decode cX11_ask 22 = .ok (.bipush (-2), 2) := by decide +kernel
theorem dX11_ask_24 : decode cX11_ask 24 = .ok (.ireturn, 1) := by decide +kernel
theorem dX11_give_0 : decode cX11_give 0 = .ok (.aload_n 0, 1) := by decide +kernel
theorem dX11_give_1 : decode cX11_give 1 = .ok (.iconst 0, 1) := by decide +kernel
theorem dX11_give_2 : decode cX11_give 2 = .ok (.putfield 59, 3) := by decide +kernel
theorem dX11_give_5 : decode cX11_give 5 = .ok (.aload_n 0, 1) := by decide +kernel
theorem dX11_give_6 : decode cX11_give 6 = .ok (.iload_n 1, 1) := by decide +kernel
theorem dX11_give_7 : decode cX11_give 7 = .ok (.iload_n 2, 1) := by decide +kernel
set_option maxRecDepth 20000 in
theorem ggX11_give_X11_arePeople : GoodIn wsX11_give wsX11_arePeople := goodIn_r _ [7, 8, 9, 10, 6, 11, 12, 13, 14, 15, 67, 68, 69, 70, 71, 72, 73, 74, 75, 76, 77, 78, 79, 80, 81, 82, 83, 84, 85, 86, 87, 88, 89, 90, 91, 92, 93, 94, 95, 96, 97] (by decide +kernel) (by decide +kernel)
set_option maxRecDepth 20000 in
theorem gX11_give_X11_arePeople : GoodIn wsX11_give (wsV RX11 266 RX11 yX11_arePeople wsX11_arePeople) := goodIn_app (goodIn_of _ (by decide +kernel)) ggX11_give_X11_arePeople
theorem dX11_give_8 : decode cX11_give 8 = .ok (.invokevirtual 266, 3) := by decide +kernel
theorem dX11_give_11 : decode cX11_give 11 = .ok (.ifCond .eq 13, 3) := by decide +kernel
theorem dX11_give_24 : decode cX11_give 24 = .ok (.bipush (-2), 2) := by decide +kernel
theorem dX11_give_26 : decode cX11_give 26 = .ok (.ireturn, 1) := by decide +kernel
theorem dX11_swap_0 : decode cX11_swap 0 = .ok (.aload_n 0, 1) := by decide +kernel
theorem dX11_swap_1 : decode cX11_swap 1 = .ok (.iconst 0, 1) := by decide +kernel
theorem dX11_swap_2 : decode cX11_swap 2 = .ok (.putfield 59, 3) := by decide +kernel
theorem dX11_swap_5 : decode cX11_swap 5 = .ok (.aload_n 0, 1) := by decide +kernel
theorem dX11_swap_6 : decode cX11_swap 6 = .ok (.iload_n 1, 1) := by decide +kernel
theorem dX11_swap_7 : decode cX11_swap 7 = .ok (.iload_n 2, 1) := by decide +kernel
set_option maxRecDepth 20000 in
theorem ggX11_swap_X11_arePeople : GoodIn wsX11_swap wsX11_arePeople := goodIn_r _ [7, 8, 9, 10, 6, 11, 12, 13, 14, 15, 63, 64, 65, 66, 67, 68, 69, 70, 71, 72, 73, 74, 75, 76, 77, 78, 79, 80, 81, 82, 83, 84, 85, 86, 87, 88, 89, 90, 91, 92, 93] (by decide +kernel) (by decide +kernel)
set_option maxRecDepth 20000 in
theorem gX11_swap_X11_arePeople : GoodIn wsX11_swap (wsV RX11 266 RX11 yX11_arePeople wsX11_arePeople) := goodIn_app (goodIn_of _ (by decide +kernel)) ggX11_swap_X11_arePeople
theorem dX11_swap_8 : decode cX11_swap 8 = .ok (.invokevirtual 266, 3) := by decide +kernel
theorem dX11_swap_11 : decode cX11_swap 11 = .ok (.ifCond .eq 8, 3) := by decide +kernel
theorem dX11_swap_19 : decode cX11_swap 19 = .ok (.bipush (-2), 2) := by decide +kernel
theorem dX11_swap_21 : decode cX11_swap 21 = .ok (.ireturn, 1) := by decide +kernel
theorem dX11_steal_0 : decode cX11_steal 0 = .ok (.aload_n 0, 1) := by decide +kernel
theorem dX11_steal_1 : decode cX11_steal 1 = .ok (.iconst 0, 1) := by decide +kernel
theorem dX11_steal_2 : decode cX11_steal 2 = .ok (.putfield 59, 3) := by decide +kernel
theorem dX11_steal_5 : decode cX11_steal 5 = .ok (.aload_n 0, 1) := by decide +kernel
theorem dX11_steal_6 : decode cX11_steal 6 = .ok (.iload_n 1, 1) := by decide +kernel
theorem dX11_steal_7 : decode cX11_steal 7 = .ok (.iload_n 2, 1) := by decide +kernel
set_option maxRecDepth 20000 in
theorem ggX11_steal_X11_arePeople : GoodIn wsX11_steal wsX11_arePeople := goodIn_r _ [8, 9, 10, 11, 7, 12, 13, 14, 15, 16, 63, 64, 65, 66, 67, 68, 69, 70, 71, 72, 73, 74, 75, 76, 77, 78, 79, 80, 81, 82, 83, 84, 85, 86, 87, 88, 89, 90, 91, 92, 93] (by decide +kernel) (by decide +kernel)
set_option maxRecDepth 20000 in
theorem gX11_steal_X11_arePeople : GoodIn wsX11_steal (wsV RX11 266 RX11 yX11_arePeople wsX11_arePeople) := goodIn_app (goodIn_of _ (by decide +kernel)) ggX11_steal_X11_arePeople
theorem dX11_steal_8 : decode cX11_steal 8 = .ok (.invokevirtual 266, 3) := by decide +kernel
theorem dX11_steal_11 : decode cX11_steal 11 = .ok (.ifCond .ne 6, 3) := by decide +kernel
theorem dX11_steal_14 : decode cX11_steal 14 = .ok (.bipush (-2), 2) := by decide +kernel
theorem dX11_steal_16 : decode cX11_steal 16 = .ok (.ireturn, 1) := by decide +kernel
theorem dX11_day_0 : decode cX11_day 0 = .ok (.aload_n 0, 1) := by decide +kernel
theorem dX11_day_1 : decode cX11_day 1 = .ok (.iconst 0, 1) := by decide +kernel
theorem dX11_day_2 : decode cX11_day 2 = .ok (.putfield 59, 3) := by decide +kernel
theorem dX11_day_5 : decode cX11_day 5 = .ok (.aload_n 0, 1) := by decide +kernel
set_option maxRecDepth 20000 in
theorem ggX11_day_X11_isCity : GoodIn wsX11_day wsX11_isCity := goodIn_r _ [7, 8, 57, 58, 59, 60, 61, 62, 63, 64, 65, 66, 67, 68, 69, 70, 71, 72, 73, 74, 75, 76, 77, 78, 79, 80, 81, 82, 83, 84, 85, 86, 87] (by decide +kernel) (by decide +kernel)
set_option maxRecDepth 20000 in
theorem gX11_day_X11_isCity : GoodIn wsX11_day (wsV RX11 209 RX11 yX11_isCity wsX11_isCity) := goodIn_app (goodIn_of _ (by decide +kernel)) ggX11_day_X11_isCity
theorem dX11_day_6 : decode cX11_day 6 = .ok (.invokevirtual 209, 3) := by decide +kernel
theorem dX11_day_9 : decode cX11_day 9 = .ok (.ifCond .ne 6, 3) := by decide +kernel
theorem dX11_day_12 : decode cX11_day 12 = .ok (.bipush (-2), 2) := by decide +kernel
theorem dX11_day_14 : decode cX11_day 14 = .ok (.ireturn, 1) := by decide +kernel
theorem dX11_undo_0 : decode cX11_undo 0 = .ok (.aload_n 0, 1) := by decide +kernel
theorem dX11_undo_1 : decode cX11_undo 1 = .ok (.iconst 0, 1) := by decide +kernel
theorem dX11_undo_2 : decode cX11_undo 2 = .ok (.putfield 59, 3) := by decide +kernel
theorem dX11_undo_5 : decode cX11_undo 5 = .ok (.aload_n 0, 1) := by decide +kernel
set_option maxRecDepth 20000 in
theorem ggX11_undo_X11_isCity : GoodIn wsX11_undo wsX11_isCity := goodIn_r _ [7, 8, 9, 10, 11, 12, 13, 14, 15, 16, 17, 18, 19, 20, 21, 22, 23, 24, 25, 26, 27, 28, 29, 30, 31, 32, 33, 34, 35, 36, 37, 38, 39] (by decide +kernel) (by decide +kernel)
set_option maxRecDepth 20000 in
theorem gX11_undo_X11_isCity : GoodIn wsX11_undo (wsV RX11 209 RX11 yX11_isCity wsX11_isCity) := goodIn_app (goodIn_of _ (by decide +kernel)) ggX11_undo_X11_isCity
theorem dX11_undo_6 : decode cX11_undo 6 = .ok (.invokevirtual 209, 3) := by decide +kernel
theorem dX11_undo_9 : decode cX11_undo 9 = .ok (.ifCond .ne 6, 3) := by decide +kernel
theorem dX11_undo_12 : decode cX11_undo 12 = .ok (.bipush (-2), 2) := by decide +kernel
theorem dX11_undo_14 : decode cX11_undo 14 = .ok (.ireturn, 1) := by decide +kernel
theorem dX11_anew_0 : decode cX11_anew 0 = .ok (.aload_n 0, 1) := by decide +kernel
theorem dX11_anew_1 : decode cX11_anew 1 = .ok (.iconst 0, 1) := by decide +kernel
theorem dX11_anew_2 : decode cX11_anew 2 = .ok (.putfield 59, 3) := by decide +kernel
theorem dX11_anew_5 : decode cX11_anew 5 = .ok (.aload_n 0, 1) := by decide +kernel
set_option maxRecDepth 20000 in
theorem ggX11_anew_X11_isCity : GoodIn wsX11_anew wsX11_isCity := goodIn_r _ [7, 8, 9, 10, 11, 12, 13, 14, 15, 16, 17, 18, 19, 20, 21, 22, 23, 24, 25, 26, 27, 28, 29, 30, 31, 32, 33, 34, 35, 36, 37, 38, 39] (by decide +kernel) (by decide +kernel)
set_option maxRecDepth 20000 in
theorem gX11_anew_X11_isCity : GoodIn wsX11_anew (wsV RX11 209 RX11 yX11_isCity wsX11_isCity) := goodIn_app (goodIn_of _ (by decide +kernel)) ggX11_anew_X11_isCity
theorem dX11_anew_6 : decode cX11_anew 6 = .ok (.invokevirtual 209, 3) := by decide +kernel
theorem dX11_anew_9 : decode cX11_anew 9 = .ok (.ifCond .ne 6, 3) := by decide +kernel
theorem dX11_anew_12 : decode cX11_anew 12 = .ok (.bipush (-2), 2) := by decide +kernel
theorem dX11_anew_14 : decode cX11_anew 14 = .ok (.ireturn, 1) := by decide +kernel
theorem dX11_now_0 : decode cX11_now 0 = .ok (.aload_n 0, 1) := by decide +kernel
theorem dX11_now_1 : decode cX11_now 1 = .ok (.iconst 0, 1) := by decide +kernel
theorem dX11_now_2 : decode cX11_now 2 = .ok (.putfield 59, 3) := by decide +kernel
theorem dX11_now_5 : decode cX11_now 5 = .ok (.aload_n 0, 1) := by decide +kernel
set_option maxRecDepth 20000 in
theorem ggX11_now_X11_isCity : GoodIn wsX11_now wsX11_isCity := goodIn_r _ [11, 12, 53, 54, 55, 56, 57, 58, 59, 60, 61, 62, 63, 64, 65, 66, 67, 68, 69, 70, 71, 72, 73, 74, 75, 76, 77, 78, 79, 80, 81, 82, 83] (by decide +kernel) (by decide +kernel)
set_option maxRecDepth 20000 in
theorem gX11_now_X11_isCity : GoodIn wsX11_now (wsV RX11 209 RX11 yX11_isCity wsX11_isCity) := goodIn_app (goodIn_of _ (by decide +kernel)) ggX11_now_X11_isCity
theorem dX11_now_6 : decode cX11_now 6 = .ok (.invokevirtual 209, 3) := by decide +kernel
theorem dX11_now_9 : decode cX11_now 9 = .ok (.ifCond .eq 15, 3) := by decide +kernel
theorem dX11_now_24 : decode cX11_now 24 = .ok (.bipush (-2), 2) := by decide +kernel
theorem dX11_now_26 : decode cX11_now 26 = .ok (.ireturn, 1) := by decide +kernel
theorem dX11_own_0 : decode cX11_own 0 = .ok (.aload_n 0, 1) := by decide +kernel
theorem dX11_own_1 : decode cX11_own 1 = .ok (.iconst 0, 1) := by decide +kernel
theorem dX11_own_2 : decode cX11_own 2 = .ok (.putfield 59, 3) := by decide +kernel
theorem dX11_own_5 : decode cX11_own 5 = .ok (.aload_n 0, 1) := by decide +kernel
set_option maxRecDepth 20000 in
theorem ggX11_own_X11_isCity : GoodIn wsX11_own wsX11_isCity := goodIn_r _ [7, 8, 68, 69, 70, 71, 72, 73, 74, 75, 76, 77, 78, 79, 80, 81, 82, 83, 84, 85, 86, 87, 88, 89, 90, 91, 92, 93, 94, 95, 96, 97, 98] (by decide +kernel) (by decide +kernel)
set_option maxRecDepth 20000 in
theorem gX11_own_X11_isCity : GoodIn wsX11_own (wsV RX11 209 RX11 yX11_isCity wsX11_isCity) := goodIn_app (goodIn_of _ (by decide +kernel)) ggX11_own_X11_isCity
theorem dX11_own_6 : decode cX11_own 6 = .ok (.invokevirtual 209, 3) := by decide +kernel
theorem dX11_own_9 : decode cX11_own 9 = .ok (.ifCond .ne 6, 3) := by decide +kernel
theorem dX11_own_12 : decode cX11_own 12 = .ok (.bipush (-2), 2) := by decide +kernel
theorem dX11_own_14 : decode cX11_own 14 = .ok (.ireturn, 1) := by decide +kernel
theorem dX11_first_0 : decode cX11_first 0 = .ok (.aload_n 0, 1) := by decide +kernel
theorem dX11_first_1 : decode cX11_first 1 = .ok (.iconst 0, 1) := by decide +kernel
theorem dX11_first_2 : decode cX11_first 2 = .ok (.putfield 59, 3) := by decide +kernel
theorem dX11_first_5 : decode cX11_first 5 = .ok (.aload_n 0, 1) := by decide +kernel
set_option maxRecDepth 20000 in
theorem ggX11_first_X11_isCity : GoodIn wsX11_first wsX11_isCity := goodIn_r _ [7, 8, 67, 68, 69, 70, 71, 72, 73, 74, 75, 76, 77, 78, 79, 80, 81, 82, 83, 84, 85, 86, 87, 88, 89, 90, 91, 92, 93, 94, 95, 96, 97] (by decide +kernel) (by decide +kernel)
set_option maxRecDepth 20000 in
theorem gX11_first_X11_isCity : GoodIn wsX11_first (wsV RX11 209 RX11 yX11_isCity wsX11_isCity) := goodIn_app (goodIn_of _ (by decide +kernel)) ggX11_first_X11_isCity
theorem dX11_first_6 : decode cX11_first 6 = .ok (.invokevirtual 209, 3) := by decide +kernel
theorem dX11_first_9 : decode cX11_first 9 = .ok (.ifCond .eq 13, 3) := by decide +kernel
theorem dX11_first_22 : decode cX11_first 22 = .ok (.bipush (-2), 2) := by decide +kernel
theorem dX11_first_24 : decode cX11_first 24 = .ok (.ireturn, 1) := by decide +kernel
theorem dX11_work_0 : decode cX11_work 0 = .ok (.aload_n 0, 1) := by decide +kernel
theorem dX11_work_1 : decode cX11_work 1 = .ok (.iconst 0, 1) := by decide +kernel
theorem dX11_work_2 : decode cX11_work 2 = .ok (.putfield 59, 3) := by decide +kernel
theorem dX11_work_5 : decode cX11_work 5 = .ok (.aload_n 0, 1) := by decide +kernel
set_option maxRecDepth 20000 in
theorem ggX11_work_X11_isCity : GoodIn wsX11_work wsX11_isCity := goodIn_r _ [8, 9, 58, 59, 60, 61, 62, 63, 64, 65, 66, 67, 68, 69, 70, 71, 72, 73, 74, 75, 76, 77, 78, 79, 80, 81, 82, 83, 84, 85, 86, 87, 88] (by decide +kernel) (by decide +kernel)
set_option maxRecDepth 20000 in
theorem gX11_work_X11_isCity : GoodIn wsX11_work (wsV RX11 209 RX11 yX11_isCity wsX11_isCity) := goodIn_app (goodIn_of _ (by decide +kernel)) ggX11_work_X11_isCity
theorem dX11_work_6 : decode cX11_work 6 = .ok (.invokevirtual 209, 3) := by decide +kernel
theorem dX11_work_9 : decode cX11_work 9 = .ok (.ifCond .ne 6, 3) := by decide +kernel
theorem dX11_work_12 : decode cX11_work 12 = .ok (.bipush (-2), 2) := by decide +kernel
theorem dX11_work_14 : decode cX11_work 14 = .ok (.ireturn, 1) := by decide +kernel
theorem dX11_works_0 : decode cX11_works 0 = .ok (.aload_n 0, 1) := by decide +kernel
theorem dX11_works_1 : decode cX11_works 1 = .ok (.iconst 0, 1) := by decide +kernel
theorem dX11_works_2 : decode cX11_works 2 = .ok (.putfield 59, 3) := by decide +kernel
theorem dX11_works_5 : decode cX11_works 5 = .ok (.aload_n 0, 1) := by decide +kernel
theorem dX11_works_6 : decode cX11_works 6 = .ok (.iload_n 1, 1) := by decide +kernel
theorem dX11_works_7 : decode cX11_works 7 = .ok (.i2l, 1) := by decide +kernel
set_option maxRecDepth 20000 in
theorem ggX11_works_X11_isPerson : GoodIn wsX11_works wsX11_isPerson := goodIn_r _ [8, 9, 10, 11, 7, 12, 60, 61, 62, 63, 64, 65, 66, 67, 68, 69, 70, 71, 72, 73, 74, 75, 76, 77, 78, 79, 80, 81, 82, 83, 84, 85, 86, 87, 88, 89, 90] (by decide +kernel) (by decide +kernel)
set_option maxRecDepth 20000 in
theorem gX11_works_X11_isPerson : GoodIn wsX11_works (wsV RX11 206 RX11 yX11_isPerson wsX11_isPerson) := goodIn_app (goodIn_of _ (by decide +kernel)) ggX11_works_X11_isPerson
theorem dX11_works_8 : decode cX11_works 8 = .ok (.invokevirtual 206, 3) := by decide +kernel
theorem dX11_works_11 : decode cX11_works 11 = .ok (.ifCond .ne 6, 3) := by decide +kernel
theorem dX11_works_14 : decode cX11_works 14 = .ok (.bipush (-2), 2) := by decide +kernel
theorem dX11_works_16 : decode cX11_works 16 = .ok (.ireturn, 1) := by decide +kernel
theorem dX11_cover_0 : decode cX11_cover 0 = .ok (.aload_n 0, 1) := by decide +kernel
theorem dX11_cover_1 : decode cX11_cover 1 = .ok (.iconst 0, 1) := by decide +kernel
theorem dX11_cover_2 : decode cX11_cover 2 = .ok (.putfield 59, 3) := by decide +kernel
theorem dX11_cover_5 : decode cX11_cover 5 = .ok (.aload_n 0, 1) := by decide +kernel
theorem dX11_cover_6 : decode cX11_cover 6 = .ok (.iload_n 1, 1) := by decide +kernel
set_option maxRecDepth 20000 in
theorem ggX11_cover_X11_areDeeds : GoodIn wsX11_cover wsX11_areDeeds := goodIn_r _ [6, 7, 8, 9, 10, 5, 11, 12, 13, 14, 15, 76, 77, 78, 79, 80, 81, 82, 83, 84, 85, 86, 87, 88, 89, 90, 91, 92, 93, 94, 95, 96, 97, 98, 99, 100, 101, 102, 103, 104, 105, 106] (by decide +kernel) (by decide +kernel)
set_option maxRecDepth 20000 in
theorem gX11_cover_X11_areDeeds : GoodIn wsX11_cover (wsV RX11 317 RX11 yX11_areDeeds wsX11_areDeeds) := goodIn_app (goodIn_of _ (by decide +kernel)) ggX11_cover_X11_areDeeds
theorem dX11_cover_7 : decode cX11_cover 7 = .ok (.invokevirtual 317, 3) := by decide +kernel
theorem dX11_cover_10 : decode cX11_cover 10 = .ok (.ifCond .ne 6, 3) := by decide +kernel
theorem dX11_cover_13 : decode cX11_cover 13 = .ok (.bipush (-2), 2) := by decide +kernel
theorem dX11_cover_15 : decode cX11_cover 15 = .ok (.ireturn, 1) := by decide +kernel
theorem dX11_covers_0 : decode cX11_covers 0 = .ok (.aload_n 0, 1) := by decide +kernel
theorem dX11_covers_1 : decode cX11_covers 1 = .ok (.iconst 0, 1) := by decide +kernel
theorem dX11_covers_2 : decode cX11_covers 2 = .ok (.putfield 59, 3) := by decide +kernel
theorem dX11_covers_5 : decode cX11_covers 5 = .ok (.aload_n 0, 1) := by decide +kernel
theorem dX11_covers_6 : decode cX11_covers 6 = .ok (.iload_n 1, 1) := by decide +kernel
set_option maxRecDepth 20000 in
theorem ggX11_covers_X11_areDeeds : GoodIn wsX11_covers wsX11_areDeeds := goodIn_r _ [6, 7, 8, 9, 10, 5, 11, 12, 13, 14, 15, 76, 77, 78, 79, 80, 81, 82, 83, 84, 85, 86, 87, 88, 89, 90, 91, 92, 93, 94, 95, 96, 97, 98, 99, 100, 101, 102, 103, 104, 105, 106] (by decide +kernel) (by decide +kernel)
set_option maxRecDepth 20000 in
theorem gX11_covers_X11_areDeeds : GoodIn wsX11_covers (wsV RX11 317 RX11 yX11_areDeeds wsX11_areDeeds) := goodIn_app (goodIn_of _ (by decide +kernel)) ggX11_covers_X11_areDeeds
theorem dX11_covers_7 : decode cX11_covers 7 = .ok (.invokevirtual 317, 3) := by decide +kernel
theorem dX11_covers_10 : decode cX11_covers 10 = .ok (.ifCond .eq 11, 3) := by decide +kernel
theorem dX11_covers_21 : decode cX11_covers 21 = .ok (.bipush (-2), 2) := by decide +kernel
theorem dX11_covers_23 : decode cX11_covers 23 = .ok (.ireturn, 1) := by decide +kernel
theorem dX11_buy_0 : decode cX11_buy 0 = .ok (.aload_n 0, 1) := by decide +kernel
theorem dX11_buy_1 : decode cX11_buy 1 = .ok (.iconst 0, 1) := by decide +kernel
theorem dX11_buy_2 : decode cX11_buy 2 = .ok (.putfield 59, 3) := by decide +kernel
theorem dX11_buy_5 : decode cX11_buy 5 = .ok (.aload_n 0, 1) := by decide +kernel
theorem dX11_buy_6 : decode cX11_buy 6 = .ok (.iload_n 1, 1) := by decide +kernel
set_option maxRecDepth 20000 in
theorem ggX11_buy_X11_areDeeds : GoodIn wsX11_buy wsX11_areDeeds := goodIn_r _ [6, 7, 8, 9, 10, 5, 11, 12, 13, 14, 15, 37, 38, 39, 40, 41, 42, 43, 44, 45, 46, 47, 48, 49, 50, 51, 52, 53, 54, 55, 56, 57, 58, 59, 60, 61, 62, 63, 64, 65, 66, 67] (by decide +kernel) (by decide +kernel)
set_option maxRecDepth 20000 in
theorem gX11_buy_X11_areDeeds : GoodIn wsX11_buy (wsV RX11 317 RX11 yX11_areDeeds wsX11_areDeeds) := goodIn_app (goodIn_of _ (by decide +kernel)) ggX11_buy_X11_areDeeds
theorem dX11_buy_7 : decode cX11_buy 7 = .ok (.invokevirtual 317, 3) := by decide +kernel
theorem dX11_buy_10 : decode cX11_buy 10 = .ok (.ifCond .ne 6, 3) := by decide +kernel
theorem dX11_buy_13 : decode cX11_buy 13 = .ok (.bipush (-2), 2) := by decide +kernel
theorem dX11_buy_15 : decode cX11_buy 15 = .ok (.ireturn, 1) := by decide +kernel
theorem dX11_bought_0 : decode cX11_bought 0 = .ok (.aload_n 0, 1) := by decide +kernel
theorem dX11_bought_1 : decode cX11_bought 1 = .ok (.iconst 0, 1) := by decide +kernel
theorem dX11_bought_2 : decode cX11_bought 2 = .ok (.putfield 59, 3) := by decide +kernel
theorem dX11_bought_5 : decode cX11_bought 5 = .ok (.aload_n 0, 1) := by decide +kernel
theorem dX11_bought_6 : decode cX11_bought 6 = .ok (.iload_n 1, 1) := by decide +kernel
set_option maxRecDepth 20000 in
theorem ggX11_bought_X11_areDeeds : GoodIn wsX11_bought wsX11_areDeeds := goodIn_r _ [6, 7, 8, 9, 10, 5, 11, 12, 13, 14, 15, 37, 38, 39, 40, 41, 42, 43, 44, 45, 46, 47, 48, 49, 50, 51, 52, 53, 54, 55, 56, 57, 58, 59, 60, 61, 62, 63, 64, 65, 66, 67] (by decide +kernel) (by decide +kernel)
set_option maxRecDepth 20000 in
theorem gX11_bought_X11_areDeeds : GoodIn wsX11_bought (wsV RX11 317 RX11 yX11_areDeeds wsX11_areDeeds) := goodIn_app (goodIn_of _ (by decide +kernel)) ggX11_bought_X11_areDeeds
theorem dX11_bought_7 : decode cX11_bought 7 = .ok (.invokevirtual 317, 3) := by decide +kernel
theorem dX11_bought_10 : decode cX11_bought 10 = .ok (.ifCond .eq 11, 3) := by decide +kernel
theorem dX11_bought_21 : decode cX11_bought 21 = .ok (.bipush (-2), 2) := by decide +kernel
theorem dX11_bought_23 : decode cX11_bought 23 = .ok (.ireturn, 1) := by decide +kernel
theorem dX11_deeds_0 : decode cX11_deeds 0 = .ok (.aload_n 0, 1) := by decide +kernel
theorem dX11_deeds_1 : decode cX11_deeds 1 = .ok (.iconst 0, 1) := by decide +kernel
theorem dX11_deeds_2 : decode cX11_deeds 2 = .ok (.putfield 59, 3) := by decide +kernel
theorem dX11_deeds_5 : decode cX11_deeds 5 = .ok (.aload_n 0, 1) := by decide +kernel
set_option maxRecDepth 20000 in
theorem ggX11_deeds_X11_isCity : GoodIn wsX11_deeds wsX11_isCity := goodIn_r _ [7, 8, 36, 37, 38, 39, 40, 41, 42, 43, 44, 45, 46, 47, 48, 49, 50, 51, 52, 53, 54, 55, 56, 57, 58, 59, 60, 61, 62, 63, 64, 65, 66] (by decide +kernel) (by decide +kernel)
set_option maxRecDepth 20000 in
theorem gX11_deeds_X11_isCity : GoodIn wsX11_deeds (wsV RX11 209 RX11 yX11_isCity wsX11_isCity) := goodIn_app (goodIn_of _ (by decide +kernel)) ggX11_deeds_X11_isCity
theorem dX11_deeds_6 : decode cX11_deeds 6 = .ok (.invokevirtual 209, 3) := by decide +kernel
theorem dX11_deeds_9 : decode cX11_deeds 9 = .ok (.ifCond .eq 30, 3) := by decide +kernel
theorem dX11_deeds_39 : decode cX11_deeds 39 = .ok (.bipush (-2), 2) := by decide +kernel
theorem dX11_deeds_41 : decode cX11_deeds 41 = .ok (.ireturn, 1) := by decide +kernel
theorem dX11_hired_0 : decode cX11_hired 0 = .ok (.aload_n 0, 1) := by decide +kernel
theorem dX11_hired_1 : decode cX11_hired 1 = .ok (.iconst 0, 1) := by decide +kernel
theorem dX11_hired_2 : decode cX11_hired 2 = .ok (.putfield 59, 3) := by decide +kernel
theorem dX11_hired_5 : decode cX11_hired 5 = .ok (.aload_n 0, 1) := by decide +kernel
set_option maxRecDepth 20000 in
theorem ggX11_hired_X11_isCity : GoodIn wsX11_hired wsX11_isCity := goodIn_r _ [7, 8, 36, 37, 38, 39, 40, 41, 42, 43, 44, 45, 46, 47, 48, 49, 50, 51, 52, 53, 54, 55, 56, 57, 58, 59, 60, 61, 62, 63, 64, 65, 66] (by decide +kernel) (by decide +kernel)
set_option maxRecDepth 20000 in
theorem gX11_hired_X11_isCity : GoodIn wsX11_hired (wsV RX11 209 RX11 yX11_isCity wsX11_isCity) := goodIn_app (goodIn_of _ (by decide +kernel)) ggX11_hired_X11_isCity
theorem dX11_hired_6 : decode cX11_hired 6 = .ok (.invokevirtual 209, 3) := by decide +kernel
theorem dX11_hired_9 : decode cX11_hired 9 = .ok (.ifCond .eq 23, 3) := by decide +kernel
theorem dX11_hired_32 : decode cX11_hired 32 = .ok (.bipush (-2), 2) := by decide +kernel
theorem dX11_hired_34 : decode cX11_hired 34 = .ok (.ireturn, 1) := by decide +kernel
theorem dX11_suspects_0 : decode cX11_suspects 0 = .ok (.aload_n 0, 1) := by decide +kernel
theorem dX11_suspects_1 : decode cX11_suspects 1 = .ok (.iconst 0, 1) := by decide +kernel
theorem dX11_suspects_2 : decode cX11_suspects 2 = .ok (.putfield 59, 3) := by decide +kernel
theorem dX11_suspects_5 : decode cX11_suspects 5 = .ok (.aload_n 0, 1) := by decide +kernel
theorem dX11_suspects_6 : decode cX11_suspects 6 = .ok (.iload_n 1, 1) := by decide +kernel
set_option maxRecDepth 20000 in
theorem ggX11_suspects_X11_whyNot : GoodIn wsX11_suspects wsX11_whyNot := goodIn_r _ [6, 7, 8, 9, 10, 11, 5, 12, 13, 14, 15, 16, 17, 18, 19, 20, 21, 22, 23, 24, 25, 40, 41, 42, 43, 44, 45, 46, 47, 48, 49, 50, 51, 52, 53, 54, 55, 56, 57, 58, 59, 60, 61, 62, 63, 64, 65, 66, 67, 68, 69, 70] (by decide +kernel) (by decide +kernel)
set_option maxRecDepth 20000 in
theorem gX11_suspects_X11_whyNot : GoodIn wsX11_suspects (wsV RX11 334 RX11 yX11_whyNot wsX11_whyNot) := goodIn_app (goodIn_of _ (by decide +kernel)) ggX11_suspects_X11_whyNot
theorem dX11_suspects_7 : decode cX11_suspects 7 = .ok (.invokevirtual 334, 3) := by decide +kernel
theorem dX11_suspects_10 : decode cX11_suspects 10 = .ok (.istore_n 2, 1) := by decide +kernel
theorem dX11_suspects_11 : decode cX11_suspects 11 = .ok (.iload_n 2, 1) := by decide +kernel
theorem dX11_suspects_12 : decode cX11_suspects 12 = .ok (.ifCond .eq 7, 3) := by decide +kernel
theorem dX11_suspects_15 : decode cX11_suspects 15 = .ok (.iload_n 2, 1) := by decide +kernel
theorem dX11_suspects_16 : decode cX11_suspects 16 = .ok (.goto 12, 3) := by decide +kernel
theorem dX11_suspects_28 : decode cX11_suspects 28 = .ok (.ireturn, 1) := by decide +kernel
theorem dX11_watch_0 : decode cX11_watch 0 = .ok (.aload_n 0, 1) := by decide +kernel
theorem dX11_watch_1 : decode cX11_watch 1 = .ok (.iconst 0, 1) := by decide +kernel
theorem dX11_watch_2 : decode cX11_watch 2 = .ok (.putfield 59, 3) := by decide +kernel
theorem dX11_watch_5 : decode cX11_watch 5 = .ok (.aload_n 0, 1) := by decide +kernel
theorem dX11_watch_6 : decode cX11_watch 6 = .ok (.iload_n 1, 1) := by decide +kernel
set_option maxRecDepth 20000 in
theorem ggX11_watch_X11_whyNot : GoodIn wsX11_watch wsX11_whyNot := goodIn_r _ [7, 8, 9, 10, 11, 12, 6, 13, 14, 15, 16, 17, 18, 19, 20, 21, 22, 23, 24, 25, 26, 49, 50, 51, 52, 53, 54, 55, 56, 57, 58, 59, 60, 61, 62, 63, 64, 65, 66, 67, 68, 69, 70, 71, 72, 73, 74, 75, 76, 77, 78, 79] (by decide +kernel) (by decide +kernel)
set_option maxRecDepth 20000 in
theorem gX11_watch_X11_whyNot : GoodIn wsX11_watch (wsV RX11 334 RX11 yX11_whyNot wsX11_whyNot) := goodIn_app (goodIn_of _ (by decide +kernel)) ggX11_watch_X11_whyNot
theorem dX11_watch_7 : decode cX11_watch 7 = .ok (.invokevirtual 334, 3) := by decide +kernel
theorem dX11_watch_10 : decode cX11_watch 10 = .ok (.istore_n 2, 1) := by decide +kernel
theorem dX11_watch_11 : decode cX11_watch 11 = .ok (.iload_n 2, 1) := by decide +kernel
theorem dX11_watch_12 : decode cX11_watch 12 = .ok (.ifCond .eq 5, 3) := by decide +kernel
theorem dX11_watch_15 : decode cX11_watch 15 = .ok (.iload_n 2, 1) := by decide +kernel
theorem dX11_watch_16 : decode cX11_watch 16 = .ok (.ireturn, 1) := by decide +kernel
theorem dX11_leaves_0 : decode cX11_leaves 0 = .ok (.aload_n 0, 1) := by decide +kernel
theorem dX11_leaves_1 : decode cX11_leaves 1 = .ok (.iconst 0, 1) := by decide +kernel
theorem dX11_leaves_2 : decode cX11_leaves 2 = .ok (.putfield 59, 3) := by decide +kernel
theorem dX11_leaves_5 : decode cX11_leaves 5 = .ok (.aload_n 0, 1) := by decide +kernel
theorem dX11_leaves_6 : decode cX11_leaves 6 = .ok (.iload_n 1, 1) := by decide +kernel
set_option maxRecDepth 20000 in
theorem ggX11_leaves_X11_whyNot : GoodIn wsX11_leaves wsX11_whyNot := goodIn_r _ [7, 8, 9, 10, 11, 12, 6, 13, 14, 15, 16, 17, 18, 19, 20, 21, 22, 23, 24, 25, 26, 49, 50, 51, 52, 53, 54, 55, 56, 57, 58, 59, 60, 61, 62, 63, 64, 65, 66, 67, 68, 69, 70, 71, 72, 73, 74, 75, 76, 77, 78, 79] (by decide +kernel) (by decide +kernel)
set_option maxRecDepth 20000 in
theorem gX11_leaves_X11_whyNot : GoodIn wsX11_leaves (wsV RX11 334 RX11 yX11_whyNot wsX11_whyNot) := goodIn_app (goodIn_of _ (by decide +kernel)) ggX11_leaves_X11_whyNot
theorem dX11_leaves_7 : decode cX11_leaves 7 = .ok (.invokevirtual 334, 3) := by decide +kernel
theorem dX11_leaves_10 : decode cX11_leaves 10 = .ok (.istore_n 2, 1) := by decide +kernel
theorem dX11_leaves_11 : decode cX11_leaves 11 = .ok (.iload_n 2, 1) := by decide +kernel
theorem dX11_leaves_12 : decode cX11_leaves 12 = .ok (.ifCond .eq 5, 3) := by decide +kernel
theorem dX11_leaves_15 : decode cX11_leaves 15 = .ok (.iload_n 2, 1) := by decide +kernel
theorem dX11_leaves_16 : decode cX11_leaves 16 = .ok (.ireturn, 1) := by decide +kernel
theorem dX11_proof_0 : decode cX11_proof 0 = .ok (.aload_n 0, 1) := by decide +kernel
theorem dX11_proof_1 : decode cX11_proof 1 = .ok (.iconst 0, 1) := by decide +kernel
theorem dX11_proof_2 : decode cX11_proof 2 = .ok (.putfield 59, 3) := by decide +kernel
theorem dX11_proof_5 : decode cX11_proof 5 = .ok (.aload_n 0, 1) := by decide +kernel
theorem dX11_proof_6 : decode cX11_proof 6 = .ok (.iload_n 1, 1) := by decide +kernel
set_option maxRecDepth 20000 in
theorem ggX11_proof_X11_whyNot : GoodIn wsX11_proof wsX11_whyNot := goodIn_r _ [6, 7, 8, 9, 10, 11, 5, 12, 13, 14, 15, 16, 17, 18, 19, 20, 21, 22, 23, 24, 25, 43, 44, 45, 46, 47, 48, 49, 50, 51, 52, 53, 54, 55, 56, 57, 58, 59, 60, 61, 62, 63, 64, 65, 66, 67, 68, 69, 70, 71, 72, 73] (by decide +kernel) (by decide +kernel)
set_option maxRecDepth 20000 in
theorem gX11_proof_X11_whyNot : GoodIn wsX11_proof (wsV RX11 334 RX11 yX11_whyNot wsX11_whyNot) := goodIn_app (goodIn_of _ (by decide +kernel)) ggX11_proof_X11_whyNot
theorem dX11_proof_7 : decode cX11_proof 7 = .ok (.invokevirtual 334, 3) := by decide +kernel
theorem dX11_proof_10 : decode cX11_proof 10 = .ok (.istore_n 2, 1) := by decide +kernel
theorem dX11_proof_11 : decode cX11_proof 11 = .ok (.iload_n 2, 1) := by decide +kernel
theorem dX11_proof_12 : decode cX11_proof 12 = .ok (.ifCond .eq 5, 3) := by decide +kernel
theorem dX11_proof_15 : decode cX11_proof 15 = .ok (.iload_n 2, 1) := by decide +kernel
theorem dX11_proof_16 : decode cX11_proof 16 = .ok (.ireturn, 1) := by decide +kernel
theorem dX11_duel_0 : decode cX11_duel 0 = .ok (.aload_n 0, 1) := by decide +kernel
theorem dX11_duel_1 : decode cX11_duel 1 = .ok (.iconst 0, 1) := by decide +kernel
theorem dX11_duel_2 : decode cX11_duel 2 = .ok (.putfield 59, 3) := by decide +kernel
theorem dX11_duel_5 : decode cX11_duel 5 = .ok (.aload_n 0, 1) := by decide +kernel
theorem dX11_duel_6 : decode cX11_duel 6 = .ok (.iload_n 1, 1) := by decide +kernel
theorem dX11_duel_7 : decode cX11_duel 7 = .ok (.iload_n 2, 1) := by decide +kernel
set_option maxRecDepth 20000 in
theorem ggX11_duel_X11_isDuel : GoodIn wsX11_duel wsX11_isDuel := goodIn_r _ [8, 9, 10, 11, 7, 12, 13, 14, 15, 16, 2, 17, 18, 19, 20, 21, 22, 23, 24, 25, 26, 27, 28, 3, 29, 30, 31, 32, 33, 34, 35, 36, 37, 38, 39, 40, 41, 42, 43, 44, 45, 46, 47, 48, 49, 50, 51, 52, 53, 54, 55, 56, 57, 58, 59, 60, 61, 62, 69, 70, 71, 72, 73, 74, 75, 76, 77, 78, 79, 80, 81, 82, 83, 84, 85, 86, 87, 88, 89, 90, 91, 92, 93, 94, 95, 96, 97, 98, 99] (by decide +kernel) (by decide +kernel)
set_option maxRecDepth 20000 in
theorem gX11_duel_X11_isDuel : GoodIn wsX11_duel (wsV RX11 355 RX11 yX11_isDuel wsX11_isDuel) := goodIn_app (goodIn_of _ (by decide +kernel)) ggX11_duel_X11_isDuel
theorem dX11_duel_8 : decode cX11_duel 8 = .ok (.invokevirtual 355, 3) := by decide +kernel
theorem dX11_duel_11 : decode cX11_duel 11 = .ok (.ifCond .eq 13, 3) := by decide +kernel
theorem dX11_duel_24 : decode cX11_duel 24 = .ok (.bipush (-2), 2) := by decide +kernel
theorem dX11_duel_26 : decode cX11_duel 26 = .ok (.ireturn, 1) := by decide +kernel
theorem dX11_lays_0 : decode cX11_lays 0 = .ok (.aload_n 0, 1) := by decide +kernel
theorem dX11_lays_1 : decode cX11_lays 1 = .ok (.iconst 0, 1) := by decide +kernel
theorem dX11_lays_2 : decode cX11_lays 2 = .ok (.putfield 59, 3) := by decide +kernel
theorem dX11_lays_5 : decode cX11_lays 5 = .ok (.aload_n 0, 1) := by decide +kernel
theorem dX11_lays_6 : decode cX11_lays 6 = .ok (.iload_n 1, 1) := by decide +kernel
theorem dX11_lays_7 : decode cX11_lays 7 = .ok (.iload_n 2, 1) := by decide +kernel
set_option maxRecDepth 20000 in
theorem ggX11_lays_X11_isDuel : GoodIn wsX11_lays wsX11_isDuel := goodIn_r _ [6, 7, 8, 9, 5, 10, 11, 12, 13, 14, 15, 16, 17, 18, 19, 20, 21, 22, 23, 24, 25, 26, 27, 28, 29, 30, 31, 32, 33, 34, 35, 36, 37, 38, 39, 40, 41, 42, 43, 44, 45, 46, 47, 48, 49, 50, 51, 52, 53, 54, 55, 56, 57, 58, 59, 60, 61, 62, 75, 76, 77, 78, 79, 80, 81, 82, 83, 84, 85, 86, 87, 88, 89, 90, 91, 92, 93, 94, 95, 96, 97, 98, 99, 100, 101, 102, 103, 104, 105] (by decide +kernel) (by decide +kernel)
set_option maxRecDepth 20000 in
theorem gX11_lays_X11_isDuel : GoodIn wsX11_lays (wsV RX11 355 RX11 yX11_isDuel wsX11_isDuel) := goodIn_app (goodIn_of _ (by decide +kernel)) ggX11_lays_X11_isDuel
theorem dX11_lays_8 : decode cX11_lays 8 = .ok (.invokevirtual 355, 3) := by decide +kernel
theorem dX11_lays_11 : decode cX11_lays 11 = .ok (.ifCond .eq 12, 3) := by decide +kernel
theorem dX11_lays_23 : decode cX11_lays 23 = .ok (.bipush (-2), 2) := by decide +kernel
theorem dX11_lays_25 : decode cX11_lays 25 = .ok (.ireturn, 1) := by decide +kernel
theorem dX11_reply_0 : decode cX11_reply 0 = .ok (.aload_n 0, 1) := by decide +kernel
theorem dX11_reply_1 : decode cX11_reply 1 = .ok (.iconst 0, 1) := by decide +kernel
theorem dX11_reply_2 : decode cX11_reply 2 = .ok (.putfield 59, 3) := by decide +kernel
theorem dX11_reply_5 : decode cX11_reply 5 = .ok (.aload_n 0, 1) := by decide +kernel
theorem dX11_reply_6 : decode cX11_reply 6 = .ok (.iload_n 1, 1) := by decide +kernel
theorem dX11_reply_7 : decode cX11_reply 7 = .ok (.iload_n 2, 1) := by decide +kernel
set_option maxRecDepth 20000 in
theorem ggX11_reply_X11_isDuel : GoodIn wsX11_reply wsX11_isDuel := goodIn_r _ [6, 7, 8, 9, 5, 10, 11, 12, 13, 14, 15, 16, 17, 18, 19, 20, 21, 22, 23, 24, 25, 26, 27, 28, 29, 30, 31, 32, 33, 34, 35, 36, 37, 38, 39, 40, 41, 42, 43, 44, 45, 46, 47, 48, 49, 50, 51, 52, 53, 54, 55, 56, 57, 58, 59, 60, 61, 62, 75, 76, 77, 78, 79, 80, 81, 82, 83, 84, 85, 86, 87, 88, 89, 90, 91, 92, 93, 94, 95, 96, 97, 98, 99, 100, 101, 102, 103, 104, 105] (by decide +kernel) (by decide +kernel)
set_option maxRecDepth 20000 in
theorem gX11_reply_X11_isDuel : GoodIn wsX11_reply (wsV RX11 355 RX11 yX11_isDuel wsX11_isDuel) := goodIn_app (goodIn_of _ (by decide +kernel)) ggX11_reply_X11_isDuel
theorem dX11_reply_8 : decode cX11_reply 8 = .ok (.invokevirtual 355, 3) := by decide +kernel
theorem dX11_reply_11 : decode cX11_reply 11 = .ok (.ifCond .eq 17, 3) := by decide +kernel
theorem dX11_reply_28 : decode cX11_reply 28 = .ok (.bipush (-2), 2) := by decide +kernel
theorem dX11_reply_30 : decode cX11_reply 30 = .ok (.ireturn, 1) := by decide +kernel
theorem dX11_firm_0 : decode cX11_firm 0 = .ok (.aload_n 0, 1) := by decide +kernel
theorem dX11_firm_1 : decode cX11_firm 1 = .ok (.iconst 0, 1) := by decide +kernel
theorem dX11_firm_2 : decode cX11_firm 2 = .ok (.putfield 59, 3) := by decide +kernel
theorem dX11_firm_5 : decode cX11_firm 5 = .ok (.aload_n 0, 1) := by decide +kernel
theorem dX11_firm_6 : decode cX11_firm 6 = .ok (.iload_n 1, 1) := by decide +kernel
set_option maxRecDepth 20000 in
theorem ggX11_firm_X11_isSet : GoodIn wsX11_firm wsX11_isSet := goodIn_r _ [6, 7, 8, 9, 10, 5, 11, 12, 13, 14, 15, 72, 73, 74, 75, 76, 77, 78, 79, 80, 81, 82, 83, 84, 85, 86, 87, 88, 89, 90, 91, 92, 93, 94, 95, 96, 97, 98, 99, 100, 101, 102] (by decide +kernel) (by decide +kernel)
set_option maxRecDepth 20000 in
theorem gX11_firm_X11_isSet : GoodIn wsX11_firm (wsV RX11 370 RX11 yX11_isSet wsX11_isSet) := goodIn_app (goodIn_of _ (by decide +kernel)) ggX11_firm_X11_isSet
theorem dX11_firm_7 : decode cX11_firm 7 = .ok (.invokevirtual 370, 3) := by decide +kernel
theorem dX11_firm_10 : decode cX11_firm 10 = .ok (.ifCond .ne 6, 3) := by decide +kernel
theorem dX11_firm_13 : decode cX11_firm 13 = .ok (.bipush (-2), 2) := by decide +kernel
theorem dX11_firm_15 : decode cX11_firm 15 = .ok (.ireturn, 1) := by decide +kernel
theorem dX11_firms_0 : decode cX11_firms 0 = .ok (.aload_n 0, 1) := by decide +kernel
theorem dX11_firms_1 : decode cX11_firms 1 = .ok (.iconst 0, 1) := by decide +kernel
theorem dX11_firms_2 : decode cX11_firms 2 = .ok (.putfield 59, 3) := by decide +kernel
theorem dX11_firms_5 : decode cX11_firms 5 = .ok (.aload_n 0, 1) := by decide +kernel
set_option maxRecDepth 20000 in
theorem ggX11_firms_X11_isCity : GoodIn wsX11_firms wsX11_isCity := goodIn_r _ [7, 8, 65, 66, 67, 68, 69, 70, 71, 72, 73, 74, 75, 76, 77, 78, 79, 80, 81, 82, 83, 84, 85, 86, 87, 88, 89, 90, 91, 92, 93, 94, 95] (by decide +kernel) (by decide +kernel)
set_option maxRecDepth 20000 in
theorem gX11_firms_X11_isCity : GoodIn wsX11_firms (wsV RX11 209 RX11 yX11_isCity wsX11_isCity) := goodIn_app (goodIn_of _ (by decide +kernel)) ggX11_firms_X11_isCity
theorem dX11_firms_6 : decode cX11_firms 6 = .ok (.invokevirtual 209, 3) := by decide +kernel
theorem dX11_firms_9 : decode cX11_firms 9 = .ok (.ifCond .ne 6, 3) := by decide +kernel
theorem dX11_firms_12 : decode cX11_firms 12 = .ok (.bipush (-2), 2) := by decide +kernel
theorem dX11_firms_14 : decode cX11_firms 14 = .ok (.ireturn, 1) := by decide +kernel
theorem dX11_firmest_0 : decode cX11_firmest 0 = .ok (.aload_n 0, 1) := by decide +kernel
theorem dX11_firmest_1 : decode cX11_firmest 1 = .ok (.iconst 0, 1) := by decide +kernel
theorem dX11_firmest_2 : decode cX11_firmest 2 = .ok (.putfield 59, 3) := by decide +kernel
theorem dX11_firmest_5 : decode cX11_firmest 5 = .ok (.aload_n 0, 1) := by decide +kernel
set_option maxRecDepth 20000 in
theorem ggX11_firmest_X11_isCity : GoodIn wsX11_firmest wsX11_isCity := goodIn_r _ [7, 8, 68, 69, 70, 71, 72, 73, 74, 75, 76, 77, 78, 79, 80, 81, 82, 83, 84, 85, 86, 87, 88, 89, 90, 91, 92, 93, 94, 95, 96, 97, 98] (by decide +kernel) (by decide +kernel)
set_option maxRecDepth 20000 in
theorem gX11_firmest_X11_isCity : GoodIn wsX11_firmest (wsV RX11 209 RX11 yX11_isCity wsX11_isCity) := goodIn_app (goodIn_of _ (by decide +kernel)) ggX11_firmest_X11_isCity
theorem dX11_firmest_6 : decode cX11_firmest 6 = .ok (.invokevirtual 209, 3) := by decide +kernel
theorem dX11_firmest_9 : decode cX11_firmest 9 = .ok (.ifCond .ne 6, 3) := by decide +kernel
theorem dX11_firmest_12 : decode cX11_firmest 12 = .ok (.bipush (-2), 2) := by decide +kernel
theorem dX11_firmest_14 : decode cX11_firmest 14 = .ok (.ireturn, 1) := by decide +kernel
theorem dX11_leave_0 : decode cX11_leave 0 = .ok (.aload_n 0, 1) := by decide +kernel
theorem dX11_leave_1 : decode cX11_leave 1 = .ok (.iconst 0, 1) := by decide +kernel
theorem dX11_leave_2 : decode cX11_leave 2 = .ok (.putfield 59, 3) := by decide +kernel
theorem dX11_leave_5 : decode cX11_leave 5 = .ok (.aload_n 0, 1) := by decide +kernel
theorem dX11_leave_6 : decode cX11_leave 6 = .ok (.iload_n 1, 1) := by decide +kernel
set_option maxRecDepth 20000 in
theorem ggX11_leave_X11_isSet : GoodIn wsX11_leave wsX11_isSet := goodIn_r _ [6, 7, 8, 9, 10, 5, 11, 12, 13, 14, 15, 72, 73, 74, 75, 76, 77, 78, 79, 80, 81, 82, 83, 84, 85, 86, 87, 88, 89, 90, 91, 92, 93, 94, 95, 96, 97, 98, 99, 100, 101, 102] (by decide +kernel) (by decide +kernel)
set_option maxRecDepth 20000 in
theorem gX11_leave_X11_isSet : GoodIn wsX11_leave (wsV RX11 370 RX11 yX11_isSet wsX11_isSet) := goodIn_app (goodIn_of _ (by decide +kernel)) ggX11_leave_X11_isSet
theorem dX11_leave_7 : decode cX11_leave 7 = .ok (.invokevirtual 370, 3) := by decide +kernel
theorem dX11_leave_10 : decode cX11_leave 10 = .ok (.ifCond .ne 6, 3) := by decide +kernel
theorem dX11_leave_13 : decode cX11_leave 13 = .ok (.bipush (-2), 2) := by decide +kernel
theorem dX11_leave_15 : decode cX11_leave 15 = .ok (.ireturn, 1) := by decide +kernel
theorem dX11_ransom_0 : decode cX11_ransom 0 = .ok (.aload_n 0, 1) := by decide +kernel
theorem dX11_ransom_1 : decode cX11_ransom 1 = .ok (.iconst 0, 1) := by decide +kernel
theorem dX11_ransom_2 : decode cX11_ransom 2 = .ok (.putfield 59, 3) := by decide +kernel
theorem dX11_ransom_5 : decode cX11_ransom 5 = .ok (.aload_n 0, 1) := by decide +kernel
theorem dX11_ransom_6 : decode cX11_ransom 6 = .ok (.iload_n 1, 1) := by decide +kernel
theorem dX11_ransom_7 : decode cX11_ransom 7 = .ok (.iload_n 2, 1) := by decide +kernel
set_option maxRecDepth 20000 in
theorem ggX11_ransom_X11_arePeople : GoodIn wsX11_ransom wsX11_arePeople := goodIn_r _ [6, 7, 8, 9, 5, 10, 11, 12, 13, 14, 63, 64, 65, 66, 67, 68, 69, 70, 71, 72, 73, 74, 75, 76, 77, 78, 79, 80, 81, 82, 83, 84, 85, 86, 87, 88, 89, 90, 91, 92, 93] (by decide +kernel) (by decide +kernel)
set_option maxRecDepth 20000 in
theorem gX11_ransom_X11_arePeople : GoodIn wsX11_ransom (wsV RX11 266 RX11 yX11_arePeople wsX11_arePeople) := goodIn_app (goodIn_of _ (by decide +kernel)) ggX11_ransom_X11_arePeople
theorem dX11_ransom_8 : decode cX11_ransom 8 = .ok (.invokevirtual 266, 3) := by decide +kernel
theorem dX11_ransom_11 : decode cX11_ransom 11 = .ok (.ifCond .ne 6, 3) := by decide +kernel
theorem dX11_ransom_14 : decode cX11_ransom 14 = .ok (.bipush (-2), 2) := by decide +kernel
theorem dX11_ransom_16 : decode cX11_ransom 16 = .ok (.ireturn, 1) := by decide +kernel
theorem dX11_ransomed_0 : decode cX11_ransomed 0 = .ok (.aload_n 0, 1) := by decide +kernel
theorem dX11_ransomed_1 : decode cX11_ransomed 1 = .ok (.iconst 0, 1) := by decide +kernel
theorem dX11_ransomed_2 : decode cX11_ransomed 2 = .ok (.putfield 59, 3) := by decide +kernel
theorem dX11_ransomed_5 : decode cX11_ransomed 5 = .ok (.aload_n 0, 1) := by decide +kernel
theorem dX11_ransomed_6 : decode cX11_ransomed 6 = .ok (.iload_n 1, 1) := by decide +kernel
theorem dX11_ransomed_7 : decode cX11_ransomed 7 = .ok (.iload_n 2, 1) := by decide +kernel
set_option maxRecDepth 20000 in
theorem ggX11_ransomed_X11_arePeople : GoodIn wsX11_ransomed wsX11_arePeople := goodIn_r _ [6, 7, 8, 9, 5, 10, 11, 12, 13, 14, 63, 64, 65, 66, 67, 68, 69, 70, 71, 72, 73, 74, 75, 76, 77, 78, 79, 80, 81, 82, 83, 84, 85, 86, 87, 88, 89, 90, 91, 92, 93] (by decide +kernel) (by decide +kernel)
set_option maxRecDepth 20000 in
theorem gX11_ransomed_X11_arePeople : GoodIn wsX11_ransomed (wsV RX11 266 RX11 yX11_arePeople wsX11_arePeople) := goodIn_app (goodIn_of _ (by decide +kernel)) ggX11_ransomed_X11_arePeople
theorem dX11_ransomed_8 : decode cX11_ransomed 8 = .ok (.invokevirtual 266, 3) := by decide +kernel
theorem dX11_ransomed_11 : decode cX11_ransomed 11 = .ok (.ifCond .eq 12, 3) := by decide +kernel
theorem dX11_ransomed_23 : decode cX11_ransomed 23 = .ok (.bipush (-2), 2) := by decide +kernel
theorem dX11_ransomed_25 : decode cX11_ransomed 25 = .ok (.ireturn, 1) := by decide +kernel
theorem dX11_power_0 : decode cX11_power 0 = .ok (.aload_n 0, 1) := by decide +kernel
theorem dX11_power_1 : decode cX11_power 1 = .ok (.iconst 0, 1) := by decide +kernel
theorem dX11_power_2 : decode cX11_power 2 = .ok (.putfield 59, 3) := by decide +kernel
theorem dX11_power_5 : decode cX11_power 5 = .ok (.aload_n 0, 1) := by decide +kernel
theorem dX11_power_6 : decode cX11_power 6 = .ok (.iload_n 1, 1) := by decide +kernel
theorem dX11_power_7 : decode cX11_power 7 = .ok (.i2l, 1) := by decide +kernel
set_option maxRecDepth 20000 in
theorem ggX11_power_X11_isPerson : GoodIn wsX11_power wsX11_isPerson := goodIn_r _ [6, 7, 8, 9, 5, 10, 66, 67, 68, 69, 70, 71, 72, 73, 74, 75, 76, 77, 78, 79, 80, 81, 82, 83, 84, 85, 86, 87, 88, 89, 90, 91, 92, 93, 94, 95, 96] (by decide +kernel) (by decide +kernel)
set_option maxRecDepth 20000 in
theorem gX11_power_X11_isPerson : GoodIn wsX11_power (wsV RX11 206 RX11 yX11_isPerson wsX11_isPerson) := goodIn_app (goodIn_of _ (by decide +kernel)) ggX11_power_X11_isPerson
theorem dX11_power_8 : decode cX11_power 8 = .ok (.invokevirtual 206, 3) := by decide +kernel
theorem dX11_power_11 : decode cX11_power 11 = .ok (.ifCond .ne 6, 3) := by decide +kernel
theorem dX11_power_14 : decode cX11_power 14 = .ok (.bipush (-2), 2) := by decide +kernel
theorem dX11_power_16 : decode cX11_power 16 = .ok (.ireturn, 1) := by decide +kernel
theorem dX11_mighty_0 : decode cX11_mighty 0 = .ok (.aload_n 0, 1) := by decide +kernel
theorem dX11_mighty_1 : decode cX11_mighty 1 = .ok (.iconst 0, 1) := by decide +kernel
theorem dX11_mighty_2 : decode cX11_mighty 2 = .ok (.putfield 59, 3) := by decide +kernel
theorem dX11_mighty_5 : decode cX11_mighty 5 = .ok (.aload_n 0, 1) := by decide +kernel
set_option maxRecDepth 20000 in
theorem ggX11_mighty_X11_isCity : GoodIn wsX11_mighty wsX11_isCity := goodIn_r _ [7, 8, 64, 65, 66, 67, 68, 69, 70, 71, 72, 73, 74, 75, 76, 77, 78, 79, 80, 81, 82, 83, 84, 85, 86, 87, 88, 89, 90, 91, 92, 93, 94] (by decide +kernel) (by decide +kernel)
set_option maxRecDepth 20000 in
theorem gX11_mighty_X11_isCity : GoodIn wsX11_mighty (wsV RX11 209 RX11 yX11_isCity wsX11_isCity) := goodIn_app (goodIn_of _ (by decide +kernel)) ggX11_mighty_X11_isCity
theorem dX11_mighty_6 : decode cX11_mighty 6 = .ok (.invokevirtual 209, 3) := by decide +kernel
theorem dX11_mighty_9 : decode cX11_mighty 9 = .ok (.ifCond .ne 6, 3) := by decide +kernel
theorem dX11_mighty_12 : decode cX11_mighty 12 = .ok (.bipush (-2), 2) := by decide +kernel
theorem dX11_mighty_14 : decode cX11_mighty 14 = .ok (.ireturn, 1) := by decide +kernel
theorem dX11_covet_0 : decode cX11_covet 0 = .ok (.aload_n 0, 1) := by decide +kernel
theorem dX11_covet_1 : decode cX11_covet 1 = .ok (.iconst 0, 1) := by decide +kernel
theorem dX11_covet_2 : decode cX11_covet 2 = .ok (.putfield 59, 3) := by decide +kernel
theorem dX11_covet_5 : decode cX11_covet 5 = .ok (.aload_n 0, 1) := by decide +kernel
theorem dX11_covet_6 : decode cX11_covet 6 = .ok (.iload_n 1, 1) := by decide +kernel
theorem dX11_covet_7 : decode cX11_covet 7 = .ok (.i2l, 1) := by decide +kernel
set_option maxRecDepth 20000 in
theorem ggX11_covet_X11_isPerson : GoodIn wsX11_covet wsX11_isPerson := goodIn_r _ [8, 2, 9, 10, 7, 11, 66, 67, 68, 69, 70, 71, 72, 73, 74, 75, 76, 77, 78, 79, 80, 81, 82, 83, 84, 85, 86, 87, 88, 89, 90, 91, 92, 93, 94, 95, 96] (by decide +kernel) (by decide +kernel)
set_option maxRecDepth 20000 in
theorem gX11_covet_X11_isPerson : GoodIn wsX11_covet (wsV RX11 206 RX11 yX11_isPerson wsX11_isPerson) := goodIn_app (goodIn_of _ (by decide +kernel)) ggX11_covet_X11_isPerson
theorem dX11_covet_8 : decode cX11_covet 8 = .ok (.invokevirtual 206, 3) := by decide +kernel
theorem dX11_covet_11 : decode cX11_covet 11 = .ok (.ifCond .ne 6, 3) := by decide +kernel
theorem dX11_covet_14 : decode cX11_covet 14 = .ok (.bipush (-2), 2) := by decide +kernel
theorem dX11_covet_16 : decode cX11_covet 16 = .ok (.ireturn, 1) := by decide +kernel
theorem dX11_judge_0 : decode cX11_judge 0 = .ok (.aload_n 0, 1) := by decide +kernel
theorem dX11_judge_1 : decode cX11_judge 1 = .ok (.iconst 0, 1) := by decide +kernel
theorem dX11_judge_2 : decode cX11_judge 2 = .ok (.putfield 59, 3) := by decide +kernel
theorem dX11_judge_5 : decode cX11_judge 5 = .ok (.aload_n 0, 1) := by decide +kernel
theorem dX11_judge_6 : decode cX11_judge 6 = .ok (.iload_n 1, 1) := by decide +kernel
set_option maxRecDepth 20000 in
theorem ggX11_judge_X11_whyNotJudge : GoodIn wsX11_judge wsX11_whyNotJudge := goodIn_r _ [6, 7, 8, 9, 10, 11, 12, 5, 13, 14, 15, 16, 17, 18, 19, 20, 21, 22, 23, 24, 25, 26, 27, 28, 29, 30, 31, 71, 72, 73, 74, 75, 76, 77, 78, 79, 80, 81, 82, 83, 84, 85, 86, 87, 88, 89, 90, 91, 92, 93, 94, 95, 96, 97, 98, 99, 100, 101] (by decide +kernel) (by decide +kernel)
set_option maxRecDepth 20000 in
theorem gX11_judge_X11_whyNotJudge : GoodIn wsX11_judge (wsV RX11 382 RX11 yX11_whyNotJudge wsX11_whyNotJudge) := goodIn_app (goodIn_of _ (by decide +kernel)) ggX11_judge_X11_whyNotJudge
theorem dX11_judge_7 : decode cX11_judge 7 = .ok (.invokevirtual 382, 3) := by decide +kernel
theorem dX11_judge_10 : decode cX11_judge 10 = .ok (.istore_n 2, 1) := by decide +kernel
theorem dX11_judge_11 : decode cX11_judge 11 = .ok (.iload_n 2, 1) := by decide +kernel
theorem dX11_judge_12 : decode cX11_judge 12 = .ok (.ifCond .eq 7, 3) := by decide +kernel
theorem dX11_judge_15 : decode cX11_judge 15 = .ok (.iload_n 2, 1) := by decide +kernel
theorem dX11_judge_16 : decode cX11_judge 16 = .ok (.goto 8, 3) := by decide +kernel
theorem dX11_judge_24 : decode cX11_judge 24 = .ok (.ireturn, 1) := by decide +kernel
theorem dX11_freed_0 : decode cX11_freed 0 = .ok (.aload_n 0, 1) := by decide +kernel
theorem dX11_freed_1 : decode cX11_freed 1 = .ok (.iconst 0, 1) := by decide +kernel
theorem dX11_freed_2 : decode cX11_freed 2 = .ok (.putfield 59, 3) := by decide +kernel
theorem dX11_freed_5 : decode cX11_freed 5 = .ok (.aload_n 0, 1) := by decide +kernel
theorem dX11_freed_6 : decode cX11_freed 6 = .ok (.iload_n 1, 1) := by decide +kernel
set_option maxRecDepth 20000 in
theorem ggX11_freed_X11_whyNotJudge : GoodIn wsX11_freed wsX11_whyNotJudge := goodIn_r _ [6, 7, 8, 9, 10, 11, 12, 5, 13, 14, 15, 16, 17, 18, 19, 20, 21, 22, 23, 24, 25, 26, 27, 28, 29, 30, 31, 75, 76, 77, 78, 79, 80, 81, 82, 83, 84, 85, 86, 87, 88, 89, 90, 91, 92, 93, 94, 95, 96, 97, 98, 99, 100, 101, 102, 103, 104, 105] (by decide +kernel) (by decide +kernel)
set_option maxRecDepth 20000 in
theorem gX11_freed_X11_whyNotJudge : GoodIn wsX11_freed (wsV RX11 382 RX11 yX11_whyNotJudge wsX11_whyNotJudge) := goodIn_app (goodIn_of _ (by decide +kernel)) ggX11_freed_X11_whyNotJudge
theorem dX11_freed_7 : decode cX11_freed 7 = .ok (.invokevirtual 382, 3) := by decide +kernel
theorem dX11_freed_10 : decode cX11_freed 10 = .ok (.istore_n 2, 1) := by decide +kernel
theorem dX11_freed_11 : decode cX11_freed 11 = .ok (.iload_n 2, 1) := by decide +kernel
theorem dX11_freed_12 : decode cX11_freed 12 = .ok (.ifCond .eq 5, 3) := by decide +kernel
theorem dX11_freed_15 : decode cX11_freed 15 = .ok (.iload_n 2, 1) := by decide +kernel
theorem dX11_freed_16 : decode cX11_freed 16 = .ok (.ireturn, 1) := by decide +kernel
theorem dX11_drawn_0 : decode cX11_drawn 0 = .ok (.aload_n 0, 1) := by decide +kernel
theorem dX11_drawn_1 : decode cX11_drawn 1 = .ok (.iconst 0, 1) := by decide +kernel
theorem dX11_drawn_2 : decode cX11_drawn 2 = .ok (.putfield 59, 3) := by decide +kernel
theorem dX11_drawn_5 : decode cX11_drawn 5 = .ok (.iload_n 1, 1) := by decide +kernel
set_option maxRecDepth 20000 in
theorem ggX11_drawn_X11_isSeed : GoodIn wsX11_drawn wsX11_isSeed := goodIn_r _ [6, 7, 8, 9, 5, 10] (by decide +kernel) (by decide +kernel)
set_option maxRecDepth 20000 in
theorem gX11_drawn_X11_isSeed : GoodIn wsX11_drawn (va_wsS RX11 398 yX11_isSeed wsX11_isSeed) := goodIn_app (goodIn_of _ (by decide +kernel)) ggX11_drawn_X11_isSeed
theorem dX11_drawn_6 : decode cX11_drawn 6 = .ok (.invokestatic 398, 3) := by decide +kernel
theorem dX11_drawn_9 : decode cX11_drawn 9 = .ok (.ifCond .eq 12, 3) := by decide +kernel
theorem dX11_drawn_21 : decode cX11_drawn 21 = .ok (.bipush (-2), 2) := by decide +kernel
theorem dX11_drawn_23 : decode cX11_drawn 23 = .ok (.ireturn, 1) := by decide +kernel
theorem dX11_drawn_12 : decode cX11_drawn 12 = .ok (.aload_n 0, 1) := by decide +kernel
theorem dX11_drawn_13 : decode cX11_drawn 13 = .ok (.iload_n 2, 1) := by decide +kernel
theorem dX11_drawn_14 : decode cX11_drawn 14 = .ok (.i2l, 1) := by decide +kernel
set_option maxRecDepth 20000 in
theorem ggX11_drawn_X11_isPerson : GoodIn wsX11_drawn wsX11_isPerson := goodIn_r _ [14, 15, 8, 9, 5, 10, 25, 26, 27, 28, 29, 30, 31, 32, 33, 34, 35, 36, 37, 38, 39, 40, 41, 42, 43, 44, 45, 46, 47, 48, 49, 50, 51, 52, 53, 54, 55] (by decide +kernel) (by decide +kernel)
set_option maxRecDepth 20000 in
theorem gX11_drawn_X11_isPerson : GoodIn wsX11_drawn (wsV RX11 206 RX11 yX11_isPerson wsX11_isPerson) := goodIn_app (goodIn_of _ (by decide +kernel)) ggX11_drawn_X11_isPerson
theorem dX11_drawn_15 : decode cX11_drawn 15 = .ok (.invokevirtual 206, 3) := by decide +kernel
theorem dX11_drawn_18 : decode cX11_drawn 18 = .ok (.ifCond .ne 6, 3) := by decide +kernel
theorem dX11_luck_0 : decode cX11_luck 0 = .ok (.aload_n 0, 1) := by decide +kernel
theorem dX11_luck_1 : decode cX11_luck 1 = .ok (.iconst 0, 1) := by decide +kernel
theorem dX11_luck_2 : decode cX11_luck 2 = .ok (.putfield 59, 3) := by decide +kernel
theorem dX11_luck_5 : decode cX11_luck 5 = .ok (.iload_n 1, 1) := by decide +kernel
set_option maxRecDepth 20000 in
theorem ggX11_luck_X11_isSeed : GoodIn wsX11_luck wsX11_isSeed := goodIn_r _ [7, 8, 9, 10, 6, 11] (by decide +kernel) (by decide +kernel)
set_option maxRecDepth 20000 in
theorem gX11_luck_X11_isSeed : GoodIn wsX11_luck (va_wsS RX11 398 yX11_isSeed wsX11_isSeed) := goodIn_app (goodIn_of _ (by decide +kernel)) ggX11_luck_X11_isSeed
theorem dX11_luck_6 : decode cX11_luck 6 = .ok (.invokestatic 398, 3) := by decide +kernel
theorem dX11_luck_9 : decode cX11_luck 9 = .ok (.ifCond .eq 24, 3) := by decide +kernel
theorem dX11_luck_33 : decode cX11_luck 33 = .ok (.bipush (-2), 2) := by decide +kernel
theorem dX11_luck_35 : decode cX11_luck 35 = .ok (.ireturn, 1) := by decide +kernel
theorem dX11_luck_12 : decode cX11_luck 12 = .ok (.iload_n 2, 1) := by decide +kernel
theorem dX11_luck_13 : decode cX11_luck 13 = .ok (.i2l, 1) := by decide +kernel
theorem dX11_luck_14 : decode cX11_luck 14 = .ok (.lconst 1, 1) := by decide +kernel
theorem dX11_luck_15 : decode cX11_luck 15 = .ok (.ldc2_w 404, 3) := by decide +kernel
set_option maxRecDepth 20000 in
theorem ggX11_luck_X11_in : GoodIn wsX11_luck wsX11_in := goodIn_r _ [11] (by decide +kernel) (by decide +kernel)
set_option maxRecDepth 20000 in
theorem gX11_luck_X11_in : GoodIn wsX11_luck (va_wsS RX11 64 yX11_in wsX11_in) := goodIn_app (goodIn_of _ (by decide +kernel)) ggX11_luck_X11_in
theorem dX11_luck_18 : decode cX11_luck 18 = .ok (.invokestatic 64, 3) := by decide +kernel
theorem dX11_luck_21 : decode cX11_luck 21 = .ok (.ifCond .eq 12, 3) := by decide +kernel
theorem dX11_luck_24 : decode cX11_luck 24 = .ok (.aload_n 0, 1) := by decide +kernel
theorem dX11_luck_25 : decode cX11_luck 25 = .ok (.iload_n 3, 1) := by decide +kernel
theorem dX11_luck_26 : decode cX11_luck 26 = .ok (.i2l, 1) := by decide +kernel
set_option maxRecDepth 20000 in
theorem ggX11_luck_X11_isPerson : GoodIn wsX11_luck wsX11_isPerson := goodIn_r _ [15, 16, 9, 10, 6, 11, 26, 27, 28, 29, 30, 31, 32, 33, 34, 35, 36, 37, 38, 39, 40, 41, 42, 43, 44, 45, 46, 47, 48, 49, 50, 51, 52, 53, 54, 55, 56] (by decide +kernel) (by decide +kernel)
set_option maxRecDepth 20000 in
theorem gX11_luck_X11_isPerson : GoodIn wsX11_luck (wsV RX11 206 RX11 yX11_isPerson wsX11_isPerson) := goodIn_app (goodIn_of _ (by decide +kernel)) ggX11_luck_X11_isPerson
theorem dX11_luck_27 : decode cX11_luck 27 = .ok (.invokevirtual 206, 3) := by decide +kernel
theorem dX11_luck_30 : decode cX11_luck 30 = .ok (.ifCond .ne 6, 3) := by decide +kernel
theorem dX11_winds_0 : decode cX11_winds 0 = .ok (.aload_n 0, 1) := by decide +kernel
theorem dX11_winds_1 : decode cX11_winds 1 = .ok (.iconst 0, 1) := by decide +kernel
theorem dX11_winds_2 : decode cX11_winds 2 = .ok (.putfield 59, 3) := by decide +kernel
theorem dX11_winds_5 : decode cX11_winds 5 = .ok (.iload_n 1, 1) := by decide +kernel
set_option maxRecDepth 20000 in
theorem ggX11_winds_X11_isSeed : GoodIn wsX11_winds wsX11_isSeed := goodIn_r _ [6, 7, 8, 9, 5, 10] (by decide +kernel) (by decide +kernel)
set_option maxRecDepth 20000 in
theorem gX11_winds_X11_isSeed : GoodIn wsX11_winds (va_wsS RX11 398 yX11_isSeed wsX11_isSeed) := goodIn_app (goodIn_of _ (by decide +kernel)) ggX11_winds_X11_isSeed
theorem dX11_winds_6 : decode cX11_winds 6 = .ok (.invokestatic 398, 3) := by decide +kernel
theorem dX11_winds_9 : decode cX11_winds 9 = .ok (.ifCond .eq 22, 3) := by decide +kernel
theorem dX11_winds_31 : decode cX11_winds 31 = .ok (.bipush (-2), 2) := by decide +kernel
theorem dX11_winds_33 : decode cX11_winds 33 = .ok (.ireturn, 1) := by decide +kernel
theorem dX11_winds_12 : decode cX11_winds 12 = .ok (.iload_n 2, 1) := by decide +kernel
theorem dX11_winds_13 : decode cX11_winds 13 = .ok (.i2l, 1) := by decide +kernel
theorem dX11_winds_14 : decode cX11_winds 14 = .ok (.lconst 1, 1) := by decide +kernel
theorem dX11_winds_15 : decode cX11_winds 15 = .ok (.ldc2_w 404, 3) := by decide +kernel
set_option maxRecDepth 20000 in
theorem ggX11_winds_X11_in : GoodIn wsX11_winds wsX11_in := goodIn_r _ [10] (by decide +kernel) (by decide +kernel)
set_option maxRecDepth 20000 in
theorem gX11_winds_X11_in : GoodIn wsX11_winds (va_wsS RX11 64 yX11_in wsX11_in) := goodIn_app (goodIn_of _ (by decide +kernel)) ggX11_winds_X11_in
theorem dX11_winds_18 : decode cX11_winds 18 = .ok (.invokestatic 64, 3) := by decide +kernel
theorem dX11_winds_21 : decode cX11_winds 21 = .ok (.ifCond .eq 10, 3) := by decide +kernel
theorem dX11_winds_24 : decode cX11_winds 24 = .ok (.aload_n 0, 1) := by decide +kernel
set_option maxRecDepth 20000 in
theorem ggX11_winds_X11_isCity : GoodIn wsX11_winds wsX11_isCity := goodIn_r _ [14, 15, 35, 36, 37, 38, 39, 40, 41, 42, 43, 44, 45, 46, 47, 48, 49, 50, 51, 52, 53, 54, 55, 56, 57, 58, 59, 60, 61, 62, 63, 64, 65] (by decide +kernel) (by decide +kernel)
set_option maxRecDepth 20000 in
theorem gX11_winds_X11_isCity : GoodIn wsX11_winds (wsV RX11 209 RX11 yX11_isCity wsX11_isCity) := goodIn_app (goodIn_of _ (by decide +kernel)) ggX11_winds_X11_isCity
theorem dX11_winds_25 : decode cX11_winds 25 = .ok (.invokevirtual 209, 3) := by decide +kernel
theorem dX11_winds_28 : decode cX11_winds 28 = .ok (.ifCond .ne 6, 3) := by decide +kernel
theorem dX11_rate_0 : decode cX11_rate 0 = .ok (.aload_n 0, 1) := by decide +kernel
theorem dX11_rate_1 : decode cX11_rate 1 = .ok (.iconst 0, 1) := by decide +kernel
theorem dX11_rate_2 : decode cX11_rate 2 = .ok (.putfield 59, 3) := by decide +kernel
theorem dX11_rate_5 : decode cX11_rate 5 = .ok (.aload_n 0, 1) := by decide +kernel
theorem dX11_rate_6 : decode cX11_rate 6 = .ok (.iload_n 1, 1) := by decide +kernel
theorem dX11_rate_7 : decode cX11_rate 7 = .ok (.i2l, 1) := by decide +kernel
set_option maxRecDepth 20000 in
theorem ggX11_rate_X11_isPerson : GoodIn wsX11_rate wsX11_isPerson := goodIn_r _ [9, 3, 10, 11, 8, 12, 13, 14, 15, 16, 17, 18, 19, 20, 21, 22, 23, 24, 25, 26, 27, 28, 29, 30, 31, 32, 33, 34, 35, 36, 37, 38, 39, 40, 41, 42, 43] (by decide +kernel) (by decide +kernel)
set_option maxRecDepth 20000 in
theorem gX11_rate_X11_isPerson : GoodIn wsX11_rate (wsV RX11 206 RX11 yX11_isPerson wsX11_isPerson) := goodIn_app (goodIn_of _ (by decide +kernel)) ggX11_rate_X11_isPerson
theorem dX11_rate_8 : decode cX11_rate 8 = .ok (.invokevirtual 206, 3) := by decide +kernel
theorem dX11_rate_11 : decode cX11_rate 11 = .ok (.ifCond .eq 15, 3) := by decide +kernel
theorem dX11_rate_26 : decode cX11_rate 26 = .ok (.bipush (-2), 2) := by decide +kernel
theorem dX11_rate_28 : decode cX11_rate 28 = .ok (.ireturn, 1) := by decide +kernel
theorem dX11_forge_0 : decode cX11_forge 0 = .ok (.aload_n 0, 1) := by decide +kernel
theorem dX11_forge_1 : decode cX11_forge 1 = .ok (.iconst 0, 1) := by decide +kernel
theorem dX11_forge_2 : decode cX11_forge 2 = .ok (.putfield 59, 3) := by decide +kernel
theorem dX11_forge_5 : decode cX11_forge 5 = .ok (.aload_n 0, 1) := by decide +kernel
theorem dX11_forge_6 : decode cX11_forge 6 = .ok (.iload_n 1, 1) := by decide +kernel
theorem dX11_forge_7 : decode cX11_forge 7 = .ok (.i2l, 1) := by decide +kernel
set_option maxRecDepth 20000 in
theorem ggX11_forge_X11_isPerson : GoodIn wsX11_forge wsX11_isPerson := goodIn_r _ [8, 2, 9, 10, 7, 11, 12, 13, 14, 15, 16, 17, 18, 19, 20, 21, 22, 23, 24, 25, 26, 27, 28, 29, 30, 31, 32, 33, 34, 35, 36, 37, 38, 39, 40, 41, 42] (by decide +kernel) (by decide +kernel)
set_option maxRecDepth 20000 in
theorem gX11_forge_X11_isPerson : GoodIn wsX11_forge (wsV RX11 206 RX11 yX11_isPerson wsX11_isPerson) := goodIn_app (goodIn_of _ (by decide +kernel)) ggX11_forge_X11_isPerson
theorem dX11_forge_8 : decode cX11_forge 8 = .ok (.invokevirtual 206, 3) := by decide +kernel
theorem dX11_forge_11 : decode cX11_forge 11 = .ok (.ifCond .eq 13, 3) := by decide +kernel
theorem dX11_forge_24 : decode cX11_forge 24 = .ok (.bipush (-2), 2) := by decide +kernel
theorem dX11_forge_26 : decode cX11_forge 26 = .ok (.ireturn, 1) := by decide +kernel
theorem dX11_lay_0 : decode cX11_lay 0 = .ok (.aload_n 0, 1) := by decide +kernel
theorem dX11_lay_1 : decode cX11_lay 1 = .ok (.iconst 0, 1) := by decide +kernel
theorem dX11_lay_2 : decode cX11_lay 2 = .ok (.putfield 59, 3) := by decide +kernel
theorem dX11_lay_5 : decode cX11_lay 5 = .ok (.aload_n 0, 1) := by decide +kernel
theorem dX11_lay_6 : decode cX11_lay 6 = .ok (.iload_n 1, 1) := by decide +kernel
theorem dX11_lay_7 : decode cX11_lay 7 = .ok (.iload_n 2, 1) := by decide +kernel
set_option maxRecDepth 20000 in
theorem ggX11_lay_X11_isDuel : GoodIn wsX11_lay wsX11_isDuel := goodIn_r _ [6, 7, 8, 9, 5, 10, 11, 12, 13, 14, 15, 16, 17, 18, 19, 20, 21, 22, 23, 24, 25, 26, 27, 28, 29, 30, 31, 32, 33, 34, 35, 36, 37, 38, 39, 40, 41, 42, 43, 44, 45, 46, 47, 48, 49, 50, 51, 52, 53, 54, 55, 56, 57, 58, 59, 60, 61, 62, 75, 76, 77, 78, 79, 80, 81, 82, 83, 84, 85, 86, 87, 88, 89, 90, 91, 92, 93, 94, 95, 96, 97, 98, 99, 100, 101, 102, 103, 104, 105] (by decide +kernel) (by decide +kernel)
set_option maxRecDepth 20000 in
theorem gX11_lay_X11_isDuel : GoodIn wsX11_lay (wsV RX11 355 RX11 yX11_isDuel wsX11_isDuel) := goodIn_app (goodIn_of _ (by decide +kernel)) ggX11_lay_X11_isDuel
theorem dX11_lay_8 : decode cX11_lay 8 = .ok (.invokevirtual 355, 3) := by decide +kernel
theorem dX11_lay_11 : decode cX11_lay 11 = .ok (.ifCond .ne 7, 3) := by decide +kernel
theorem dX11_lay_14 : decode cX11_lay 14 = .ok (.sipush (-1000), 3) := by decide +kernel
theorem dX11_lay_17 : decode cX11_lay 17 = .ok (.ireturn, 1) := by decide +kernel
theorem dX11_wins_0 : decode cX11_wins 0 = .ok (.aload_n 0, 1) := by decide +kernel
theorem dX11_wins_1 : decode cX11_wins 1 = .ok (.iconst 0, 1) := by decide +kernel
theorem dX11_wins_2 : decode cX11_wins 2 = .ok (.putfield 59, 3) := by decide +kernel
theorem dX11_wins_5 : decode cX11_wins 5 = .ok (.aload_n 0, 1) := by decide +kernel
theorem dX11_wins_6 : decode cX11_wins 6 = .ok (.iload_n 1, 1) := by decide +kernel
set_option maxRecDepth 20000 in
theorem ggX11_wins_X11_isSet : GoodIn wsX11_wins wsX11_isSet := goodIn_r _ [6, 7, 8, 9, 10, 5, 11, 12, 13, 14, 15, 72, 73, 74, 75, 76, 77, 78, 79, 80, 81, 82, 83, 84, 85, 86, 87, 88, 89, 90, 91, 92, 93, 94, 95, 96, 97, 98, 99, 100, 101, 102] (by decide +kernel) (by decide +kernel)
set_option maxRecDepth 20000 in
theorem gX11_wins_X11_isSet : GoodIn wsX11_wins (wsV RX11 370 RX11 yX11_isSet wsX11_isSet) := goodIn_app (goodIn_of _ (by decide +kernel)) ggX11_wins_X11_isSet
theorem dX11_wins_7 : decode cX11_wins 7 = .ok (.invokevirtual 370, 3) := by decide +kernel
theorem dX11_wins_10 : decode cX11_wins 10 = .ok (.ifCond .eq 20, 3) := by decide +kernel
theorem dX11_wins_30 : decode cX11_wins 30 = .ok (.sipush (-10000), 3) := by decide +kernel
theorem dX11_wins_33 : decode cX11_wins 33 = .ok (.ireturn, 1) := by decide +kernel
section RWS
variable {p : Program} {l : Launch} {e : Env} {R : Room} {s : State} {m : MethodId} {args : Array Value} {below : List Frame} {meth : Method} {c : Code} {H : Heap} {locs : List Loc} {cells slots : Nat} {Q : State → Prop}
variable {pc : Nat} {ls : Array Slot} {rest st0 : List Value} {a : Array Value} {A0 : Nat → Prop} {H0 : Heap} {G : va_G}
theorem ws_callv {ws : va_W} (hr : va_Run p l e R s m args below meth c H locs cells slots 0 0 (F0 m pc ls st0) rest (va_Qv (fun _ : Unit => True) (fun _ t => va_P G vwCl ws t.heap) (aset ws) a) (aset ws)) (hS : va_S A0 H0 H locs) (hD : va_D A0 ws)
    (kk : ∀ (H1 : Heap) (locs1 : List Loc), va_P G vwCl ws H1 → va_S A0 H0 H1 locs1 → W p l e R s m args below meth c H1 locs1 cells slots Q (F0 m (pc + 3) ls rest)) : W p l e R s m args below meth c H locs cells slots Q (F0 m pc ls st0) :=
  va_callv hr hS (fun q _ h => by obtain ⟨k, x, h⟩ := h; exact hD.2 k (q, x) h) (fun q h => by obtain ⟨k, x, h⟩ := h; exact hD.2 k (q, x) h) (fun u t H1 locs1 ht hvm hw hB hz hk hS1 => kk H1 locs1 (by rw [← ht]; exact hB) hS1)
end RWS
def WD : Nat → Int32 := upd (upd (upd (upd (fun _ => 0) (0 : Int32).toNatClampNeg (-1)) (1 : Int32).toNatClampNeg (-1)) (2 : Int32).toNatClampNeg (-1)) (3 : Int32).toNatClampNeg (-1)
theorem WD_m1 {x : Int32} (h0 : 0 ≤ x.toInt) (h1 : x.toInt < 4) : WD x.toNatClampNeg = -1 := by
  rcases sp4 h0 h1 with rfl | rfl | rfl | rfl <;> rfl
def mF (b : Nat → Nat) (ct : Nat → ClassId) : va_W := [((b 0), .inr (11, [.int 0, .ref (b 1), .ref (b 2), .ref (b 3), .ref (b 4), .ref (b 5), .int 0, .int 0, .int 0, .int 0, .int 0, .long 0, .int 0, .int 0, .int 0, .int (-1), .ref (b 6), .ref (b 7), .ref (b 8), .ref (b 9), .ref (b 10), .ref (b 11), .ref (b 12), .ref (b 13), .int 0, .int 0, .int 0, .int 0, .ref (b 14), .int 0, .int 0])), ((b 1), .inl (ct 0, 4, .inl WD)), ((b 2), .inl (ct 0, 4, .inl (fun _ => 0))), ((b 3), .inl (ct 3, 240, .inr (.inl (fun _ => 0)))), ((b 4), .inl (ct 3, 60, .inr (.inl (fun _ => 0)))), ((b 5), .inl (ct 1, 900, .inl (fun _ => 0))), ((b 6), .inl (ct 0, 5, .inl (fun _ => 0))), ((b 7), .inl (ct 0, 15, .inl (fun _ => 0))), ((b 8), .inl (ct 0, 200, .inl (fun _ => 0))), ((b 9), .inl (ct 0, 1000, .inl (fun _ => 0))), ((b 10), .inl (ct 2, 3, .inl (fun _ => 0))), ((b 11), .inl (ct 0, 8, .inl (fun _ => 0))), ((b 12), .inl (ct 0, 8, .inl (fun _ => 0))), ((b 13), .inl (ct 0, 8, .inl (fun _ => 0))), ((b 14), .inl (ct 0, 576, .inl (fun _ => 0)))]

set_option maxHeartbeats 4000000 in
set_option maxRecDepth 100000 in
theorem c_X11_isSlot (l : Launch) (G : va_G) (ct : Nat → ClassId) (p0 : Int32)  : Met l yX11_isSlot wsX11_isSlot ({ frames := 1, cells := 0, slots := 0, locals := 25 }) (va_Pc [.int p0] (roP G ct [])) (roQ (fun r => slotP p0 r)) 0 0 no := by
  refine Met.ofW (cc := cX11_isSlot) (maxL := 1) (ret := (some .boolean)) (by decide) rfl ?_
  intro p e s m args below meth c s₁ B hml hv
  obtain ⟨rfl, hP, hK⟩ := hv
  have hx := B.exec
  have hb := B.bytes
  have hr := B.returns
  have hts := atoms_spec (ws := wsX11_isSlot) B.pre
  have hown : s.vm.findClass RX11 = some m.cls := findClass_of_methodNamed B.named
  have hlocks := B.notSynchronized
  have hS : va_S no s.heap s.heap [] := va_S.rf
  have hl := lv_entry ([.int p0]) (n := 1) (Nat.le_of_ble_eq_true rfl)
  rw [lg_entry_eq]
  generalize (lg_sl ([.int p0]) ++ List.replicate (1 - (lg_sl ([.int p0])).length) Slot.unset).toArray = ls at hl ⊢
  have hl : lv_has ls 1 [(0, .int p0)] := hl
  refine lv_iload_n hx hb dX11_isSlot_0 rfl (lv_at hl 0 rfl) ?_
  refine lv_i2l hx hb dX11_isSlot_1 rfl ?_
  refine lv_lconst (v := 0) hx hb dX11_isSlot_2 (by decide) ?_
  refine lv_ldc2 (own := RX11) (v := 3) hx hb hown (hts (.constantLong RX11 62 (3)) (by decide +kernel)) dX11_isSlot_3 ?_
  refine ro_calli (va_runS (As := [.long p0.toInt64, .long 0, .long 3]) (rest := []) ⟨hx, hb, hml, hown, hts⟩ (c_X11_in l G ct p0.toInt64 0 3) (va_cwS 3 hts gX11_isSlot_X11_in rfl rfl rfl (by decide +kernel) ⟨Nat.le_of_ble_eq_true rfl, Nat.le_of_ble_eq_true rfl⟩) (ro_pre hK (hP.sub [] rfl)) rfl rfl hl.1 rfl (lv_room (Nat.le_of_ble_eq_true rfl)) dX11_isSlot_6 ⟨Nat.zero_le _, Nat.zero_le _⟩) hS hP (fun r_1 H locs wr_1 hP hS => ?_)
  exact W.zret (v := r_1) (ty := .boolean) hx hb hr (nar_b (in_b wr_1)) (fun t ht hW => ⟨⟨r_1, (), rfl, by have gwr_1 := wr_1; unfold inP at gwr_1; have := Int32.toInt_toInt64 p0; have : (0 : Int64).toInt = 0 := (by decide); have : (3 : Int64).toInt = 3 := (by decide); show slotP p0 r_1; unfold slotP; omega, trivial⟩, hS.F ht⟩) hS.2.2 dX11_isSlot_9

set_option maxHeartbeats 4000000 in
set_option maxRecDepth 100000 in
theorem c_X11_isDeed (l : Launch) (G : va_G) (ct : Nat → ClassId) (p0 : Int64)  : Met l yX11_isDeed wsX11_isDeed ({ frames := 1, cells := 0, slots := 0, locals := 25 }) (va_Pc [.long p0] (roP G ct [])) (roQ (fun r => bP r)) 0 0 no := by
  refine Met.ofW (cc := cX11_isDeed) (maxL := 2) (ret := (some .boolean)) (by decide) rfl ?_
  intro p e s m args below meth c s₁ B hml hv
  obtain ⟨rfl, hP, hK⟩ := hv
  have hx := B.exec
  have hb := B.bytes
  have hr := B.returns
  have hts := atoms_spec (ws := wsX11_isDeed) B.pre
  have hown : s.vm.findClass RX11 = some m.cls := findClass_of_methodNamed B.named
  have hlocks := B.notSynchronized
  have hS : va_S no s.heap s.heap [] := va_S.rf
  have hl := lv_entry ([.long p0]) (n := 2) (Nat.le_of_ble_eq_true rfl)
  rw [lg_entry_eq]
  generalize (lg_sl ([.long p0]) ++ List.replicate (2 - (lg_sl ([.long p0])).length) Slot.unset).toArray = ls at hl ⊢
  have hl : lv_has ls 2 [(0, .long p0)] := hl
  refine lv_lload_n hx hb dX11_isDeed_0 rfl (lv_at hl 0 rfl) ?_
  refine lv_lconst (v := 0) hx hb dX11_isDeed_1 (by decide) ?_
  refine lv_ldc2 (own := RX11) (v := 5) hx hb hown (hts (.constantLong RX11 212 (5)) (by decide +kernel)) dX11_isDeed_2 ?_
  refine ro_calli (va_runS (As := [.long p0, .long 0, .long 5]) (rest := []) ⟨hx, hb, hml, hown, hts⟩ (c_X11_in l G ct p0 0 5) (va_cwS 3 hts gX11_isDeed_X11_in rfl rfl rfl (by decide +kernel) ⟨Nat.le_of_ble_eq_true rfl, Nat.le_of_ble_eq_true rfl⟩) (ro_pre hK (hP.sub [] rfl)) rfl rfl hl.1 rfl (lv_room (Nat.le_of_ble_eq_true rfl)) dX11_isDeed_5 ⟨Nat.zero_le _, Nat.zero_le _⟩) hS hP (fun r_1 H locs wr_1 hP hS => ?_)
  exact W.zret (v := r_1) (ty := .boolean) hx hb hr (nar_b (in_b wr_1)) (fun t ht hW => ⟨⟨r_1, (), rfl, by have gwr_1 := wr_1; unfold inP at gwr_1; have : (0 : Int64).toInt = 0 := (by decide); have : (5 : Int64).toInt = 5 := (by decide); show bP r_1; unfold bP; omega, trivial⟩, hS.F ht⟩) hS.2.2 dX11_isDeed_8

set_option maxHeartbeats 4000000 in
set_option maxRecDepth 100000 in
theorem c_X11_isSeed (l : Launch) (G : va_G) (ct : Nat → ClassId) (p0 : Int32)  : Met l yX11_isSeed wsX11_isSeed ({ frames := 1, cells := 0, slots := 0, locals := 25 }) (va_Pc [.int p0] (roP G ct [])) (roQ (fun r => bP r)) 0 0 no := by
  refine Met.ofW (cc := cX11_isSeed) (maxL := 1) (ret := (some .boolean)) (by decide) rfl ?_
  intro p e s m args below meth c s₁ B hml hv
  obtain ⟨rfl, hP, hK⟩ := hv
  have hx := B.exec
  have hb := B.bytes
  have hr := B.returns
  have hts := atoms_spec (ws := wsX11_isSeed) B.pre
  have hown : s.vm.findClass RX11 = some m.cls := findClass_of_methodNamed B.named
  have hlocks := B.notSynchronized
  have hS : va_S no s.heap s.heap [] := va_S.rf
  have hl := lv_entry ([.int p0]) (n := 1) (Nat.le_of_ble_eq_true rfl)
  rw [lg_entry_eq]
  generalize (lg_sl ([.int p0]) ++ List.replicate (1 - (lg_sl ([.int p0])).length) Slot.unset).toArray = ls at hl ⊢
  have hl : lv_has ls 1 [(0, .int p0)] := hl
  refine lv_iload_n hx hb dX11_isSeed_0 rfl (lv_at hl 0 rfl) ?_
  refine lv_i2l hx hb dX11_isSeed_1 rfl ?_
  refine lv_lconst (v := 0) hx hb dX11_isSeed_2 (by decide) ?_
  refine lv_ldc2 (own := RX11) (v := 2000000000) hx hb hown (hts (.constantLong RX11 396 (2000000000)) (by decide +kernel)) dX11_isSeed_3 ?_
  refine ro_calli (va_runS (As := [.long p0.toInt64, .long 0, .long 2000000000]) (rest := []) ⟨hx, hb, hml, hown, hts⟩ (c_X11_in l G ct p0.toInt64 0 2000000000) (va_cwS 3 hts gX11_isSeed_X11_in rfl rfl rfl (by decide +kernel) ⟨Nat.le_of_ble_eq_true rfl, Nat.le_of_ble_eq_true rfl⟩) (ro_pre hK (hP.sub [] rfl)) rfl rfl hl.1 rfl (lv_room (Nat.le_of_ble_eq_true rfl)) dX11_isSeed_6 ⟨Nat.zero_le _, Nat.zero_le _⟩) hS hP (fun r_1 H locs wr_1 hP hS => ?_)
  exact W.zret (v := r_1) (ty := .boolean) hx hb hr (nar_b (in_b wr_1)) (fun t ht hW => ⟨⟨r_1, (), rfl, by have gwr_1 := wr_1; unfold inP at gwr_1; have := Int32.toInt_toInt64 p0; have : (0 : Int64).toInt = 0 := (by decide); have : (2000000000 : Int64).toInt = 2000000000 := (by decide); show bP r_1; unfold bP; omega, trivial⟩, hS.F ht⟩) hS.2.2 dX11_isSeed_9

set_option maxHeartbeats 4000000 in
set_option maxRecDepth 100000 in
theorem c_X11_isPerson (l : Launch) (G : va_G) (ct : Nat → ClassId) (b : Nat → Nat) (p0 : Int64)  : Met l yX11_isPerson wsX11_isPerson ({ frames := 1, cells := 0, slots := 0, locals := 25 }) (va_Pc [.ref (b 0), .long p0] (roP G ct (mF b ct))) (roQ (fun r => r = 0)) 0 0 no := by
  refine Met.ofW (cc := cX11_isPerson) (maxL := 3) (ret := (some .boolean)) (by decide) rfl ?_
  intro p e s m args below meth c s₁ B hml hv
  obtain ⟨rfl, hP, hK⟩ := hv
  have hx := B.exec
  have hb := B.bytes
  have hr := B.returns
  have hts := atoms_spec (ws := wsX11_isPerson) B.pre
  have hown : s.vm.findClass RX11 = some m.cls := findClass_of_methodNamed B.named
  have hlocks := B.notSynchronized
  have hS : va_S no s.heap s.heap [] := va_S.rf
  have hl := lv_entry ([.ref (b 0), .long p0]) (n := 3) (Nat.le_of_ble_eq_true rfl)
  rw [lg_entry_eq]
  generalize (lg_sl ([.ref (b 0), .long p0]) ++ List.replicate (3 - (lg_sl ([.ref (b 0), .long p0])).length) Slot.unset).toArray = ls at hl ⊢
  have hl : lv_has ls 3 [(0, .ref (b 0)), (1, .long p0)] := hl
  refine lv_lload_n hx hb dX11_isPerson_0 rfl (lv_at hl 1 rfl) ?_
  refine lv_lconst (v := 0) hx hb dX11_isPerson_1 (by decide) ?_
  refine lv_aload_n hx hb dX11_isPerson_2 rfl (lv_at hl 0 rfl) ?_
  refine va_get (D := G) (ci := 11) (v := .ref (b 7)) (C := RX11) (T := TX11) (N := 31) hx hb hts (by decide +kernel) hown hK.1 hP 0 rfl rfl 17 (by decide) (hts (.fieldLink RX11 34 "CardHolderModel" "has" "[I") (by decide +kernel)) (fun _ h9 => h9) rfl dX11_isPerson_3 ?_
  refine lv_iconst (v := 1) hx hb dX11_isPerson_6 (by decide) ?_
  refine va_iald hx hb hK.1 hP 7 0 rfl rfl (in_lit (by decide)) dX11_isPerson_7 ?_
  refine ix_i (y := 0) rfl ?_
  refine lv_i2l (v := 0) hx hb dX11_isPerson_8 (by decide) ?_
  refine lv_lconst (v := 1) hx hb dX11_isPerson_9 (by decide) ?_
  refine lv_lsub hx hb dX11_isPerson_10 ?_
  refine ix_l (y := (-1)) (by decide) ?_
  refine ro_calli (va_runS (As := [.long p0, .long 0, .long (-1)]) (rest := []) ⟨hx, hb, hml, hown, hts⟩ (c_X11_in l G ct p0 0 (-1)) (va_cwS 3 hts gX11_isPerson_X11_in rfl rfl rfl (by decide +kernel) ⟨Nat.le_of_ble_eq_true rfl, Nat.le_of_ble_eq_true rfl⟩) (ro_pre hK (hP.sub [] rfl)) rfl rfl hl.1 rfl (lv_room (Nat.le_of_ble_eq_true rfl)) dX11_isPerson_11 ⟨Nat.zero_le _, Nat.zero_le _⟩) hS hP (fun r_1 H locs wr_1 hP hS => ?_)
  obtain rfl := in_0 wr_1
  exact W.zret (v := 0) (ty := .boolean) hx hb hr (rfl) (fun t ht hW => ⟨⟨0, (), rfl, rfl, trivial⟩, hS.F ht⟩) hS.2.2 dX11_isPerson_14

set_option maxHeartbeats 4000000 in
set_option maxRecDepth 100000 in
theorem c_X11_arePeople (l : Launch) (G : va_G) (ct : Nat → ClassId) (b : Nat → Nat) (p0 : Int32) (p1 : Int32)  : Met l yX11_arePeople wsX11_arePeople ({ frames := 2, cells := 0, slots := 0, locals := 47 }) (va_Pc [.ref (b 0), .int p0, .int p1] (roP G ct (mF b ct))) (roQ (fun r => r = 0)) 0 0 no := by
  refine Met.ofW (cc := cX11_arePeople) (maxL := 3) (ret := (some .boolean)) (by decide) rfl ?_
  intro p e s m args below meth c s₁ B hml hv
  obtain ⟨rfl, hP, hK⟩ := hv
  have hx := B.exec
  have hb := B.bytes
  have hr := B.returns
  have hts := atoms_spec (ws := wsX11_arePeople) B.pre
  have hown : s.vm.findClass RX11 = some m.cls := findClass_of_methodNamed B.named
  have hlocks := B.notSynchronized
  have hS : va_S no s.heap s.heap [] := va_S.rf
  have hl := lv_entry ([.ref (b 0), .int p0, .int p1]) (n := 3) (Nat.le_of_ble_eq_true rfl)
  rw [lg_entry_eq]
  generalize (lg_sl ([.ref (b 0), .int p0, .int p1]) ++ List.replicate (3 - (lg_sl ([.ref (b 0), .int p0, .int p1])).length) Slot.unset).toArray = ls at hl ⊢
  have hl : lv_has ls 3 [(0, .ref (b 0)), (1, .int p0), (2, .int p1)] := hl
  refine lv_aload_n hx hb dX11_arePeople_0 rfl (lv_at hl 0 rfl) ?_
  refine lv_iload_n hx hb dX11_arePeople_1 rfl (lv_at hl 1 rfl) ?_
  refine lv_i2l hx hb dX11_arePeople_2 rfl ?_
  refine ro_calli (va_runV (As := [.long p0.toInt64]) (rest := []) ⟨hx, hb, hml, hown, hts⟩ (c_X11_isPerson l G ct b p0.toInt64) (cwV 1 hts gX11_arePeople_X11_isPerson rfl rfl rfl (by decide +kernel) ⟨Nat.le_of_ble_eq_true rfl, Nat.le_of_ble_eq_true rfl⟩) (ro_preV 11 0 hK hP rfl rfl) rfl rfl hl.1 rfl (lv_room (Nat.le_of_ble_eq_true rfl)) dX11_arePeople_3 ⟨Nat.zero_le _, Nat.zero_le _⟩) hS hP (fun r_1 H locs wr_1 hP hS => ?_)
  obtain rfl := wr_1
  refine lv_if_eq (tgt := 22) hx hb dX11_arePeople_6 (by decide) (fun c_2 => ?_) (fun c_2 => ?_)
  · refine lv_iconst (v := 0) hx hb dX11_arePeople_22 (by decide) ?_
    exact W.zret (v := 0) (ty := .boolean) hx hb hr (rfl) (fun t ht hW => ⟨⟨0, (), rfl, rfl, trivial⟩, hS.F ht⟩) hS.2.2 dX11_arePeople_23
  · exact absurd c_2 (by decide)

set_option maxHeartbeats 4000000 in
set_option maxRecDepth 100000 in
theorem c_X11_isCity (l : Launch) (G : va_G) (ct : Nat → ClassId) (b : Nat → Nat)  : Met l yX11_isCity wsX11_isCity ({ frames := 0, cells := 0, slots := 0, locals := 0 }) (va_Pc [.ref (b 0)] (roP G ct (mF b ct))) (roQ (fun r => r = 0)) 0 0 no := by
  refine Met.ofW (cc := cX11_isCity) (maxL := 1) (ret := (some .boolean)) (by decide) rfl ?_
  intro p e s m args below meth c s₁ B hml hv
  obtain ⟨rfl, hP, hK⟩ := hv
  have hx := B.exec
  have hb := B.bytes
  have hr := B.returns
  have hts := atoms_spec (ws := wsX11_isCity) B.pre
  have hown : s.vm.findClass RX11 = some m.cls := findClass_of_methodNamed B.named
  have hlocks := B.notSynchronized
  have hS : va_S no s.heap s.heap [] := va_S.rf
  have hl := lv_entry ([.ref (b 0)]) (n := 1) (Nat.le_of_ble_eq_true rfl)
  rw [lg_entry_eq]
  generalize (lg_sl ([.ref (b 0)]) ++ List.replicate (1 - (lg_sl ([.ref (b 0)])).length) Slot.unset).toArray = ls at hl ⊢
  have hl : lv_has ls 1 [(0, .ref (b 0))] := hl
  refine lv_aload_n hx hb dX11_isCity_0 rfl (lv_at hl 0 rfl) ?_
  refine va_get (D := G) (ci := 11) (v := .ref (b 6)) (C := RX11) (T := TX11) (N := 31) hx hb hts (by decide +kernel) hown hK.1 hP 0 rfl rfl 16 (by decide) (hts (.fieldLink RX11 31 "CardHolderModel" "lines" "[I") (by decide +kernel)) (fun _ h9 => h9) rfl dX11_isCity_1 ?_
  refine lv_iconst (v := 0) hx hb dX11_isCity_4 (by decide) ?_
  refine va_iald hx hb hK.1 hP 6 0 rfl rfl (in_lit (by decide)) dX11_isCity_5 ?_
  refine ix_i (y := 0) rfl ?_
  refine lv_if_le (tgt := 13) hx hb dX11_isCity_6 (by decide) (fun c_1 => ?_) (fun c_1 => ?_)
  · refine lv_iconst (v := 0) hx hb dX11_isCity_13 (by decide) ?_
    exact W.zret (v := 0) (ty := .boolean) hx hb hr (rfl) (fun t ht hW => ⟨⟨0, (), rfl, rfl, trivial⟩, hS.F ht⟩) hS.2.2 dX11_isCity_14
  · exact absurd c_1 (by decide)

set_option maxHeartbeats 4000000 in
set_option maxRecDepth 100000 in
theorem c_X11_isSet (l : Launch) (G : va_G) (ct : Nat → ClassId) (b : Nat → Nat) (p0 : Int32)  : Met l yX11_isSet wsX11_isSet ({ frames := 1, cells := 0, slots := 0, locals := 25 }) (va_Pc [.ref (b 0), .int p0] (roP G ct (mF b ct))) (roQ (fun r => r = 0)) 0 0 no := by
  refine Met.ofW (cc := cX11_isSet) (maxL := 2) (ret := (some .boolean)) (by decide) rfl ?_
  intro p e s m args below meth c s₁ B hml hv
  obtain ⟨rfl, hP, hK⟩ := hv
  have hx := B.exec
  have hb := B.bytes
  have hr := B.returns
  have hts := atoms_spec (ws := wsX11_isSet) B.pre
  have hown : s.vm.findClass RX11 = some m.cls := findClass_of_methodNamed B.named
  have hlocks := B.notSynchronized
  have hS : va_S no s.heap s.heap [] := va_S.rf
  have hl := lv_entry ([.ref (b 0), .int p0]) (n := 2) (Nat.le_of_ble_eq_true rfl)
  rw [lg_entry_eq]
  generalize (lg_sl ([.ref (b 0), .int p0]) ++ List.replicate (2 - (lg_sl ([.ref (b 0), .int p0])).length) Slot.unset).toArray = ls at hl ⊢
  have hl : lv_has ls 2 [(0, .ref (b 0)), (1, .int p0)] := hl
  refine lv_aload_n hx hb dX11_isSet_0 rfl (lv_at hl 0 rfl) ?_
  refine ro_calli (va_runV (As := []) (rest := []) ⟨hx, hb, hml, hown, hts⟩ (c_X11_isCity l G ct b) (cwV 0 hts gX11_isSet_X11_isCity rfl rfl rfl (by decide +kernel) ⟨Nat.le_of_ble_eq_true rfl, Nat.le_of_ble_eq_true rfl⟩) (ro_preV 11 0 hK hP rfl rfl) rfl rfl hl.1 rfl (lv_room (Nat.le_of_ble_eq_true rfl)) dX11_isSet_1 ⟨Nat.zero_le _, Nat.zero_le _⟩) hS hP (fun r_1 H locs wr_1 hP hS => ?_)
  obtain rfl := wr_1
  refine lv_if_eq (tgt := 31) hx hb dX11_isSet_4 (by decide) (fun c_2 => ?_) (fun c_2 => ?_)
  · refine lv_iconst (v := 0) hx hb dX11_isSet_31 (by decide) ?_
    exact W.zret (v := 0) (ty := .boolean) hx hb hr (rfl) (fun t ht hW => ⟨⟨0, (), rfl, rfl, trivial⟩, hS.F ht⟩) hS.2.2 dX11_isSet_32
  · exact absurd c_2 (by decide)

set_option maxHeartbeats 4000000 in
set_option maxRecDepth 100000 in
theorem c_X11_isChain (l : Launch) (G : va_G) (ct : Nat → ClassId) (b : Nat → Nat) (p0 : Int32) (p1 : Int32)  : Met l yX11_isChain wsX11_isChain ({ frames := 2, cells := 0, slots := 0, locals := 47 }) (va_Pc [.ref (b 0), .int p0, .int p1] (roP G ct (mF b ct))) (roQ (fun r => r = 0)) 0 0 no := by
  refine Met.ofW (cc := cX11_isChain) (maxL := 3) (ret := (some .boolean)) (by decide) rfl ?_
  intro p e s m args below meth c s₁ B hml hv
  obtain ⟨rfl, hP, hK⟩ := hv
  have hx := B.exec
  have hb := B.bytes
  have hr := B.returns
  have hts := atoms_spec (ws := wsX11_isChain) B.pre
  have hown : s.vm.findClass RX11 = some m.cls := findClass_of_methodNamed B.named
  have hlocks := B.notSynchronized
  have hS : va_S no s.heap s.heap [] := va_S.rf
  have hl := lv_entry ([.ref (b 0), .int p0, .int p1]) (n := 3) (Nat.le_of_ble_eq_true rfl)
  rw [lg_entry_eq]
  generalize (lg_sl ([.ref (b 0), .int p0, .int p1]) ++ List.replicate (3 - (lg_sl ([.ref (b 0), .int p0, .int p1])).length) Slot.unset).toArray = ls at hl ⊢
  have hl : lv_has ls 3 [(0, .ref (b 0)), (1, .int p0), (2, .int p1)] := hl
  refine lv_aload_n hx hb dX11_isChain_0 rfl (lv_at hl 0 rfl) ?_
  refine lv_iload_n hx hb dX11_isChain_1 rfl (lv_at hl 1 rfl) ?_
  refine lv_i2l hx hb dX11_isChain_2 rfl ?_
  refine ro_calli (va_runV (As := [.long p0.toInt64]) (rest := []) ⟨hx, hb, hml, hown, hts⟩ (c_X11_isPerson l G ct b p0.toInt64) (cwV 1 hts gX11_isChain_X11_isPerson rfl rfl rfl (by decide +kernel) ⟨Nat.le_of_ble_eq_true rfl, Nat.le_of_ble_eq_true rfl⟩) (ro_preV 11 0 hK hP rfl rfl) rfl rfl hl.1 rfl (lv_room (Nat.le_of_ble_eq_true rfl)) dX11_isChain_3 ⟨Nat.zero_le _, Nat.zero_le _⟩) hS hP (fun r_1 H locs wr_1 hP hS => ?_)
  obtain rfl := wr_1
  refine lv_if_eq (tgt := 21) hx hb dX11_isChain_6 (by decide) (fun c_2 => ?_) (fun c_2 => ?_)
  · refine lv_iconst (v := 0) hx hb dX11_isChain_21 (by decide) ?_
    exact W.zret (v := 0) (ty := .boolean) hx hb hr (rfl) (fun t ht hW => ⟨⟨0, (), rfl, rfl, trivial⟩, hS.F ht⟩) hS.2.2 dX11_isChain_22
  · exact absurd c_2 (by decide)

set_option maxHeartbeats 4000000 in
set_option maxRecDepth 100000 in
theorem c_X11_areDeeds (l : Launch) (G : va_G) (ct : Nat → ClassId) (b : Nat → Nat) (p0 : Int32)  : Met l yX11_areDeeds wsX11_areDeeds ({ frames := 1, cells := 0, slots := 0, locals := 25 }) (va_Pc [.ref (b 0), .int p0] (roP G ct (mF b ct))) (roQ (fun r => r = 0)) 0 0 no := by
  refine Met.ofW (cc := cX11_areDeeds) (maxL := 2) (ret := (some .boolean)) (by decide) rfl ?_
  intro p e s m args below meth c s₁ B hml hv
  obtain ⟨rfl, hP, hK⟩ := hv
  have hx := B.exec
  have hb := B.bytes
  have hr := B.returns
  have hts := atoms_spec (ws := wsX11_areDeeds) B.pre
  have hown : s.vm.findClass RX11 = some m.cls := findClass_of_methodNamed B.named
  have hlocks := B.notSynchronized
  have hS : va_S no s.heap s.heap [] := va_S.rf
  have hl := lv_entry ([.ref (b 0), .int p0]) (n := 2) (Nat.le_of_ble_eq_true rfl)
  rw [lg_entry_eq]
  generalize (lg_sl ([.ref (b 0), .int p0]) ++ List.replicate (2 - (lg_sl ([.ref (b 0), .int p0])).length) Slot.unset).toArray = ls at hl ⊢
  have hl : lv_has ls 2 [(0, .ref (b 0)), (1, .int p0)] := hl
  refine lv_aload_n hx hb dX11_areDeeds_0 rfl (lv_at hl 0 rfl) ?_
  refine ro_calli (va_runV (As := []) (rest := []) ⟨hx, hb, hml, hown, hts⟩ (c_X11_isCity l G ct b) (cwV 0 hts gX11_areDeeds_X11_isCity rfl rfl rfl (by decide +kernel) ⟨Nat.le_of_ble_eq_true rfl, Nat.le_of_ble_eq_true rfl⟩) (ro_preV 11 0 hK hP rfl rfl) rfl rfl hl.1 rfl (lv_room (Nat.le_of_ble_eq_true rfl)) dX11_areDeeds_1 ⟨Nat.zero_le _, Nat.zero_le _⟩) hS hP (fun r_1 H locs wr_1 hP hS => ?_)
  obtain rfl := wr_1
  refine lv_if_eq (tgt := 23) hx hb dX11_areDeeds_4 (by decide) (fun c_2 => ?_) (fun c_2 => ?_)
  · refine lv_iconst (v := 0) hx hb dX11_areDeeds_23 (by decide) ?_
    exact W.zret (v := 0) (ty := .boolean) hx hb hr (rfl) (fun t ht hW => ⟨⟨0, (), rfl, rfl, trivial⟩, hS.F ht⟩) hS.2.2 dX11_areDeeds_24
  · exact absurd c_2 (by decide)

set_option maxHeartbeats 4000000 in
set_option maxRecDepth 100000 in
theorem c_X11_whyNot (l : Launch) (G : va_G) (ct : Nat → ClassId) (b : Nat → Nat) (p0 : Int32)  : Met l yX11_whyNot wsX11_whyNot ({ frames := 2, cells := 0, slots := 0, locals := 46 }) (va_Pc [.ref (b 0), .int p0] (roP G ct (mF b ct))) (roQ (fun r => r = (-2))) 0 0 no := by
  refine Met.ofW (cc := cX11_whyNot) (maxL := 3) (ret := (some .int)) (by decide) rfl ?_
  intro p e s m args below meth c s₁ B hml hv
  obtain ⟨rfl, hP, hK⟩ := hv
  have hx := B.exec
  have hb := B.bytes
  have hr := B.returns
  have hts := atoms_spec (ws := wsX11_whyNot) B.pre
  have hown : s.vm.findClass RX11 = some m.cls := findClass_of_methodNamed B.named
  have hlocks := B.notSynchronized
  have hS : va_S no s.heap s.heap [] := va_S.rf
  have hl := lv_entry ([.ref (b 0), .int p0]) (n := 3) (Nat.le_of_ble_eq_true rfl)
  rw [lg_entry_eq]
  generalize (lg_sl ([.ref (b 0), .int p0]) ++ List.replicate (3 - (lg_sl ([.ref (b 0), .int p0])).length) Slot.unset).toArray = ls at hl ⊢
  have hl : lv_has ls 3 [(0, .ref (b 0)), (1, .int p0)] := hl
  refine lv_iload_n hx hb dX11_whyNot_0 rfl (lv_at hl 1 rfl) ?_
  refine ro_calli (va_runS (As := [.int p0]) (rest := []) ⟨hx, hb, hml, hown, hts⟩ (c_X11_isSlot l G ct p0) (va_cwS 1 hts gX11_whyNot_X11_isSlot rfl rfl rfl (by decide +kernel) ⟨Nat.le_of_ble_eq_true rfl, Nat.le_of_ble_eq_true rfl⟩) (ro_pre hK (hP.sub [] rfl)) rfl rfl hl.1 rfl (lv_room (Nat.le_of_ble_eq_true rfl)) dX11_whyNot_1 ⟨Nat.zero_le _, Nat.zero_le _⟩) hS hP (fun r_1 H locs wr_1 hP hS => ?_)
  refine lv_if_eq (tgt := 14) hx hb dX11_whyNot_4 (by decide) (fun c_2 => ?_) (fun c_2 => ?_)
  · refine lv_bipush (v := (-2)) hx hb dX11_whyNot_14 (by decide) ?_
    exact W.iret (v := (-2)) hx hb hr (fun t ht hW => ⟨⟨(-2), (), rfl, rfl, trivial⟩, hS.F ht⟩) hS.2.2 dX11_whyNot_16
  · refine lv_aload_n hx hb dX11_whyNot_7 rfl (lv_at hl 0 rfl) ?_
    refine ro_calli (va_runV (As := []) (rest := []) ⟨hx, hb, hml, hown, hts⟩ (c_X11_isCity l G ct b) (cwV 0 hts gX11_whyNot_X11_isCity rfl rfl rfl (by decide +kernel) ⟨Nat.le_of_ble_eq_true rfl, Nat.le_of_ble_eq_true rfl⟩) (ro_preV 11 0 hK hP rfl rfl) rfl rfl hl.1 rfl (lv_room (Nat.le_of_ble_eq_true rfl)) dX11_whyNot_8 ⟨Nat.zero_le _, Nat.zero_le _⟩) hS hP (fun r_3 H locs wr_3 hP hS => ?_)
    obtain rfl := wr_3
    refine lv_if_ne (tgt := 17) hx hb dX11_whyNot_11 (by decide) (fun c_4 => ?_) (fun c_4 => ?_)
    · exact absurd c_4 (by decide)
    · refine lv_bipush (v := (-2)) hx hb dX11_whyNot_14 (by decide) ?_
      exact W.iret (v := (-2)) hx hb hr (fun t ht hW => ⟨⟨(-2), (), rfl, rfl, trivial⟩, hS.F ht⟩) hS.2.2 dX11_whyNot_16

set_option maxHeartbeats 4000000 in
set_option maxRecDepth 100000 in
theorem c_X11_whyNotJudge (l : Launch) (G : va_G) (ct : Nat → ClassId) (b : Nat → Nat) (p0 : Int32)  : Met l yX11_whyNotJudge wsX11_whyNotJudge ({ frames := 2, cells := 0, slots := 0, locals := 47 }) (va_Pc [.ref (b 0), .int p0] (roP G ct (mF b ct))) (roQ (fun r => r = (-2))) 0 0 no := by
  refine Met.ofW (cc := cX11_whyNotJudge) (maxL := 5) (ret := (some .int)) (by decide) rfl ?_
  intro p e s m args below meth c s₁ B hml hv
  obtain ⟨rfl, hP, hK⟩ := hv
  have hx := B.exec
  have hb := B.bytes
  have hr := B.returns
  have hts := atoms_spec (ws := wsX11_whyNotJudge) B.pre
  have hown : s.vm.findClass RX11 = some m.cls := findClass_of_methodNamed B.named
  have hlocks := B.notSynchronized
  have hS : va_S no s.heap s.heap [] := va_S.rf
  have hl := lv_entry ([.ref (b 0), .int p0]) (n := 5) (Nat.le_of_ble_eq_true rfl)
  rw [lg_entry_eq]
  generalize (lg_sl ([.ref (b 0), .int p0]) ++ List.replicate (5 - (lg_sl ([.ref (b 0), .int p0])).length) Slot.unset).toArray = ls at hl ⊢
  have hl : lv_has ls 5 [(0, .ref (b 0)), (1, .int p0)] := hl
  refine lv_iload_n hx hb dX11_whyNotJudge_0 rfl (lv_at hl 1 rfl) ?_
  refine ro_calli (va_runS (As := [.int p0]) (rest := []) ⟨hx, hb, hml, hown, hts⟩ (c_X11_isSlot l G ct p0) (va_cwS 1 hts gX11_whyNotJudge_X11_isSlot rfl rfl rfl (by decide +kernel) ⟨Nat.le_of_ble_eq_true rfl, Nat.le_of_ble_eq_true rfl⟩) (ro_pre hK (hP.sub [] rfl)) rfl rfl hl.1 rfl (lv_room (Nat.le_of_ble_eq_true rfl)) dX11_whyNotJudge_1 ⟨Nat.zero_le _, Nat.zero_le _⟩) hS hP (fun r_1 H locs wr_1 hP hS => ?_)
  refine lv_if_eq (tgt := 14) hx hb dX11_whyNotJudge_4 (by decide) (fun c_2 => ?_) (fun c_2 => ?_)
  · refine lv_bipush (v := (-2)) hx hb dX11_whyNotJudge_14 (by decide) ?_
    exact W.iret (v := (-2)) hx hb hr (fun t ht hW => ⟨⟨(-2), (), rfl, rfl, trivial⟩, hS.F ht⟩) hS.2.2 dX11_whyNotJudge_16
  · refine lv_aload_n hx hb dX11_whyNotJudge_7 rfl (lv_at hl 0 rfl) ?_
    refine ro_calli (va_runV (As := []) (rest := []) ⟨hx, hb, hml, hown, hts⟩ (c_X11_isCity l G ct b) (cwV 0 hts gX11_whyNotJudge_X11_isCity rfl rfl rfl (by decide +kernel) ⟨Nat.le_of_ble_eq_true rfl, Nat.le_of_ble_eq_true rfl⟩) (ro_preV 11 0 hK hP rfl rfl) rfl rfl hl.1 rfl (lv_room (Nat.le_of_ble_eq_true rfl)) dX11_whyNotJudge_8 ⟨Nat.zero_le _, Nat.zero_le _⟩) hS hP (fun r_3 H locs wr_3 hP hS => ?_)
    obtain rfl := wr_3
    refine lv_if_ne (tgt := 17) hx hb dX11_whyNotJudge_11 (by decide) (fun c_4 => ?_) (fun c_4 => ?_)
    · exact absurd c_4 (by decide)
    · refine lv_bipush (v := (-2)) hx hb dX11_whyNotJudge_14 (by decide) ?_
      exact W.iret (v := (-2)) hx hb hr (fun t ht hW => ⟨⟨(-2), (), rfl, rfl, trivial⟩, hS.F ht⟩) hS.2.2 dX11_whyNotJudge_16

set_option maxHeartbeats 4000000 in
set_option maxRecDepth 100000 in
theorem c_X11_isDuel (l : Launch) (G : va_G) (ct : Nat → ClassId) (b : Nat → Nat) (p0 : Int32) (p1 : Int32)  : Met l yX11_isDuel wsX11_isDuel ({ frames := 5, cells := 0, slots := 0, locals := 111 }) (va_Pc [.ref (b 0), .int p0, .int p1] (roP G ct (mF b ct))) (roQ (fun r => r = 0)) 0 0 no := by
  refine Met.ofW (cc := cX11_isDuel) (maxL := 3) (ret := (some .boolean)) (by decide) rfl ?_
  intro p e s m args below meth c s₁ B hml hv
  obtain ⟨rfl, hP, hK⟩ := hv
  have hx := B.exec
  have hb := B.bytes
  have hr := B.returns
  have hts := atoms_spec (ws := wsX11_isDuel) B.pre
  have hown : s.vm.findClass RX11 = some m.cls := findClass_of_methodNamed B.named
  have hlocks := B.notSynchronized
  have hS : va_S no s.heap s.heap [] := va_S.rf
  have hl := lv_entry ([.ref (b 0), .int p0, .int p1]) (n := 3) (Nat.le_of_ble_eq_true rfl)
  rw [lg_entry_eq]
  generalize (lg_sl ([.ref (b 0), .int p0, .int p1]) ++ List.replicate (3 - (lg_sl ([.ref (b 0), .int p0, .int p1])).length) Slot.unset).toArray = ls at hl ⊢
  have hl : lv_has ls 3 [(0, .ref (b 0)), (1, .int p0), (2, .int p1)] := hl
  refine lv_aload_n hx hb dX11_isDuel_0 rfl (lv_at hl 0 rfl) ?_
  refine lv_iload_n hx hb dX11_isDuel_1 rfl (lv_at hl 1 rfl) ?_
  refine lv_iload_n hx hb dX11_isDuel_2 rfl (lv_at hl 2 rfl) ?_
  refine ro_calli (va_runV (As := [.int p0, .int p1]) (rest := []) ⟨hx, hb, hml, hown, hts⟩ (c_X11_arePeople l G ct b p0 p1) (cwV 2 hts gX11_isDuel_X11_arePeople rfl rfl rfl (by decide +kernel) ⟨Nat.le_of_ble_eq_true rfl, Nat.le_of_ble_eq_true rfl⟩) (ro_preV 11 0 hK hP rfl rfl) rfl rfl hl.1 rfl (lv_room (Nat.le_of_ble_eq_true rfl)) dX11_isDuel_3 ⟨Nat.zero_le _, Nat.zero_le _⟩) hS hP (fun r_1 H locs wr_1 hP hS => ?_)
  obtain rfl := wr_1
  refine lv_if_eq (tgt := 14) hx hb dX11_isDuel_6 (by decide) (fun c_2 => ?_) (fun c_2 => ?_)
  · refine lv_iconst (v := 0) hx hb dX11_isDuel_14 (by decide) ?_
    exact W.zret (v := 0) (ty := .boolean) hx hb hr (rfl) (fun t ht hW => ⟨⟨0, (), rfl, rfl, trivial⟩, hS.F ht⟩) hS.2.2 dX11_isDuel_15
  · exact absurd c_2 (by decide)

set_option maxHeartbeats 4000000 in
set_option maxRecDepth 100000 in
theorem c_X11_person (l : Launch) (G : va_G) (ct : Nat → ClassId) (b : Nat → Nat) (p0 : Int32) (p1 : Int32)  : Met l yX11_person wsX11_person ({ frames := 5, cells := 0, slots := 0, locals := 111 }) (va_Pc [.ref (b 0), .int p0, .int p1] (wrP G ct (mF b ct))) (va_Qi (fun (r : Int32) (u : Unit) => r = (-2)) (fun _ _ => True) (aset (mF b ct))) 0 0 (aset (mF b ct)) := by
  refine Met.ofW (cc := cX11_person) (maxL := 3) (ret := (some .int)) (by decide) rfl ?_
  intro p e s m args below meth c s₁ B hml hv
  obtain ⟨rfl, hP, hK, hD0⟩ := hv
  have hx := B.exec
  have hb := B.bytes
  have hr := B.returns
  have hts := atoms_spec (ws := wsX11_person) B.pre
  have hown : s.vm.findClass RX11 = some m.cls := findClass_of_methodNamed B.named
  have hlocks := B.notSynchronized
  have hD := hD0.aself
  generalize hAe : aset (mF b ct) = A at hD ⊢
  have hS : va_S A s.heap s.heap [] := va_S.rf
  have hl := lv_entry ([.ref (b 0), .int p0, .int p1]) (n := 3) (Nat.le_of_ble_eq_true rfl)
  rw [lg_entry_eq]
  generalize (lg_sl ([.ref (b 0), .int p0, .int p1]) ++ List.replicate (3 - (lg_sl ([.ref (b 0), .int p0, .int p1])).length) Slot.unset).toArray = ls at hl ⊢
  have hl : lv_has ls 3 [(0, .ref (b 0)), (1, .int p0), (2, .int p1)] := hl
  refine lv_aload_n hx hb dX11_person_0 rfl (lv_at hl 0 rfl) ?_
  refine lv_iconst (v := 0) hx hb dX11_person_1 (by decide) ?_
  refine va_put (D := G) (ci := 11) (v := .int 0) (ty := .int) (C := RX11) (T := TX11) (N := 31) hx hb hts (by decide +kernel) tyX11 tyX11_ok nmX11 hown hK.1 hP hD hS 0 rfl rfl 0 (by decide) (hts (.fieldLink RX11 59 "CardHolderModel" "thrown" "I") (by decide +kernel)) (fun _ h9 => h9) rfl (by decide +kernel) rfl rfl (Nat.le_of_ble_eq_true rfl) dX11_person_2 (fun H locs hP hD hS => ?_)
  have hP : va_P G vwCl (mF b ct) H := hP
  have hD : va_D A (mF b ct) := hD
  refine lv_aload_n hx hb dX11_person_5 rfl (lv_at hl 0 rfl) ?_
  refine lv_iload_n hx hb dX11_person_6 rfl (lv_at hl 1 rfl) ?_
  refine lv_i2l hx hb dX11_person_7 rfl ?_
  refine ro_calli (va_runV (As := [.long p0.toInt64]) (rest := []) ⟨hx, hb, hml, hown, hts⟩ (c_X11_isPerson l G ct b p0.toInt64) (cwV 1 hts gX11_person_X11_isPerson rfl rfl rfl (by decide +kernel) ⟨Nat.le_of_ble_eq_true rfl, Nat.le_of_ble_eq_true rfl⟩) (ro_preV 11 0 hK hP rfl rfl) rfl rfl hl.1 rfl (lv_room (Nat.le_of_ble_eq_true rfl)) dX11_person_8 ⟨Nat.zero_le _, Nat.zero_le _⟩) hS hP (fun r_1 H locs wr_1 hP hS => ?_)
  obtain rfl := wr_1
  refine lv_if_eq (tgt := 26) hx hb dX11_person_11 (by decide) (fun c_2 => ?_) (fun c_2 => ?_)
  · refine lv_bipush (v := (-2)) hx hb dX11_person_26 (by decide) ?_
    exact W.iret (v := (-2)) hx hb hr (fun t ht hW => ⟨⟨(-2), (), rfl, rfl, trivial⟩, hS.F ht⟩) hS.2.2 dX11_person_28
  · exact absurd c_2 (by decide)

set_option maxHeartbeats 4000000 in
set_option maxRecDepth 100000 in
theorem c_X11_free (l : Launch) (G : va_G) (ct : Nat → ClassId) (b : Nat → Nat)  : Met l yX11_free wsX11_free ({ frames := 5, cells := 0, slots := 0, locals := 111 }) (va_Pc [.ref (b 0)] (wrP G ct (mF b ct))) (va_Qi (fun (r : Int32) (u : Unit) => r = (-2)) (fun _ _ => True) (aset (mF b ct))) 0 0 (aset (mF b ct)) := by
  refine Met.ofW (cc := cX11_free) (maxL := 1) (ret := (some .int)) (by decide) rfl ?_
  intro p e s m args below meth c s₁ B hml hv
  obtain ⟨rfl, hP, hK, hD0⟩ := hv
  have hx := B.exec
  have hb := B.bytes
  have hr := B.returns
  have hts := atoms_spec (ws := wsX11_free) B.pre
  have hown : s.vm.findClass RX11 = some m.cls := findClass_of_methodNamed B.named
  have hlocks := B.notSynchronized
  have hD := hD0.aself
  generalize hAe : aset (mF b ct) = A at hD ⊢
  have hS : va_S A s.heap s.heap [] := va_S.rf
  have hl := lv_entry ([.ref (b 0)]) (n := 1) (Nat.le_of_ble_eq_true rfl)
  rw [lg_entry_eq]
  generalize (lg_sl ([.ref (b 0)]) ++ List.replicate (1 - (lg_sl ([.ref (b 0)])).length) Slot.unset).toArray = ls at hl ⊢
  have hl : lv_has ls 1 [(0, .ref (b 0))] := hl
  refine lv_aload_n hx hb dX11_free_0 rfl (lv_at hl 0 rfl) ?_
  refine lv_iconst (v := 0) hx hb dX11_free_1 (by decide) ?_
  refine va_put (D := G) (ci := 11) (v := .int 0) (ty := .int) (C := RX11) (T := TX11) (N := 31) hx hb hts (by decide +kernel) tyX11 tyX11_ok nmX11 hown hK.1 hP hD hS 0 rfl rfl 0 (by decide) (hts (.fieldLink RX11 59 "CardHolderModel" "thrown" "I") (by decide +kernel)) (fun _ h9 => h9) rfl (by decide +kernel) rfl rfl (Nat.le_of_ble_eq_true rfl) dX11_free_2 (fun H locs hP hD hS => ?_)
  have hP : va_P G vwCl (mF b ct) H := hP
  have hD : va_D A (mF b ct) := hD
  refine lv_aload_n hx hb dX11_free_5 rfl (lv_at hl 0 rfl) ?_
  refine ro_calli (va_runV (As := []) (rest := []) ⟨hx, hb, hml, hown, hts⟩ (c_X11_isCity l G ct b) (cwV 0 hts gX11_free_X11_isCity rfl rfl rfl (by decide +kernel) ⟨Nat.le_of_ble_eq_true rfl, Nat.le_of_ble_eq_true rfl⟩) (ro_preV 11 0 hK hP rfl rfl) rfl rfl hl.1 rfl (lv_room (Nat.le_of_ble_eq_true rfl)) dX11_free_6 ⟨Nat.zero_le _, Nat.zero_le _⟩) hS hP (fun r_1 H locs wr_1 hP hS => ?_)
  obtain rfl := wr_1
  refine lv_if_ne (tgt := 15) hx hb dX11_free_9 (by decide) (fun c_2 => ?_) (fun c_2 => ?_)
  · exact absurd c_2 (by decide)
  · refine lv_bipush (v := (-2)) hx hb dX11_free_12 (by decide) ?_
    exact W.iret (v := (-2)) hx hb hr (fun t ht hW => ⟨⟨(-2), (), rfl, rfl, trivial⟩, hS.F ht⟩) hS.2.2 dX11_free_14

set_option maxHeartbeats 4000000 in
set_option maxRecDepth 100000 in
theorem c_X11_under (l : Launch) (G : va_G) (ct : Nat → ClassId) (b : Nat → Nat) (p0 : Int32)  : Met l yX11_under wsX11_under ({ frames := 5, cells := 0, slots := 0, locals := 111 }) (va_Pc [.ref (b 0), .int p0] (wrP G ct (mF b ct))) (va_Qi (fun (r : Int32) (u : Unit) => r = (-2)) (fun _ _ => True) (aset (mF b ct))) 0 0 (aset (mF b ct)) := by
  refine Met.ofW (cc := cX11_under) (maxL := 2) (ret := (some .int)) (by decide) rfl ?_
  intro p e s m args below meth c s₁ B hml hv
  obtain ⟨rfl, hP, hK, hD0⟩ := hv
  have hx := B.exec
  have hb := B.bytes
  have hr := B.returns
  have hts := atoms_spec (ws := wsX11_under) B.pre
  have hown : s.vm.findClass RX11 = some m.cls := findClass_of_methodNamed B.named
  have hlocks := B.notSynchronized
  have hD := hD0.aself
  generalize hAe : aset (mF b ct) = A at hD ⊢
  have hS : va_S A s.heap s.heap [] := va_S.rf
  have hl := lv_entry ([.ref (b 0), .int p0]) (n := 2) (Nat.le_of_ble_eq_true rfl)
  rw [lg_entry_eq]
  generalize (lg_sl ([.ref (b 0), .int p0]) ++ List.replicate (2 - (lg_sl ([.ref (b 0), .int p0])).length) Slot.unset).toArray = ls at hl ⊢
  have hl : lv_has ls 2 [(0, .ref (b 0)), (1, .int p0)] := hl
  refine lv_aload_n hx hb dX11_under_0 rfl (lv_at hl 0 rfl) ?_
  refine lv_iconst (v := 0) hx hb dX11_under_1 (by decide) ?_
  refine va_put (D := G) (ci := 11) (v := .int 0) (ty := .int) (C := RX11) (T := TX11) (N := 31) hx hb hts (by decide +kernel) tyX11 tyX11_ok nmX11 hown hK.1 hP hD hS 0 rfl rfl 0 (by decide) (hts (.fieldLink RX11 59 "CardHolderModel" "thrown" "I") (by decide +kernel)) (fun _ h9 => h9) rfl (by decide +kernel) rfl rfl (Nat.le_of_ble_eq_true rfl) dX11_under_2 (fun H locs hP hD hS => ?_)
  have hP : va_P G vwCl (mF b ct) H := hP
  have hD : va_D A (mF b ct) := hD
  refine lv_aload_n hx hb dX11_under_5 rfl (lv_at hl 0 rfl) ?_
  refine lv_iload_n hx hb dX11_under_6 rfl (lv_at hl 1 rfl) ?_
  refine lv_i2l hx hb dX11_under_7 rfl ?_
  refine ro_calli (va_runV (As := [.long p0.toInt64]) (rest := []) ⟨hx, hb, hml, hown, hts⟩ (c_X11_isPerson l G ct b p0.toInt64) (cwV 1 hts gX11_under_X11_isPerson rfl rfl rfl (by decide +kernel) ⟨Nat.le_of_ble_eq_true rfl, Nat.le_of_ble_eq_true rfl⟩) (ro_preV 11 0 hK hP rfl rfl) rfl rfl hl.1 rfl (lv_room (Nat.le_of_ble_eq_true rfl)) dX11_under_8 ⟨Nat.zero_le _, Nat.zero_le _⟩) hS hP (fun r_1 H locs wr_1 hP hS => ?_)
  obtain rfl := wr_1
  refine lv_if_ne (tgt := 17) hx hb dX11_under_11 (by decide) (fun c_2 => ?_) (fun c_2 => ?_)
  · exact absurd c_2 (by decide)
  · refine lv_bipush (v := (-2)) hx hb dX11_under_14 (by decide) ?_
    exact W.iret (v := (-2)) hx hb hr (fun t ht hW => ⟨⟨(-2), (), rfl, rfl, trivial⟩, hS.F ht⟩) hS.2.2 dX11_under_16

set_option maxHeartbeats 4000000 in
set_option maxRecDepth 100000 in
theorem c_X11_time (l : Launch) (G : va_G) (ct : Nat → ClassId) (b : Nat → Nat) (p0 : Int32) (p1 : Int32)  : Met l yX11_time wsX11_time ({ frames := 5, cells := 0, slots := 0, locals := 111 }) (va_Pc [.ref (b 0), .int p0, .int p1] (wrP G ct (mF b ct))) (va_Qi (fun (r : Int32) (u : Unit) => r = (-2)) (fun _ _ => True) (aset (mF b ct))) 0 0 (aset (mF b ct)) := by
  refine Met.ofW (cc := cX11_time) (maxL := 3) (ret := (some .int)) (by decide) rfl ?_
  intro p e s m args below meth c s₁ B hml hv
  obtain ⟨rfl, hP, hK, hD0⟩ := hv
  have hx := B.exec
  have hb := B.bytes
  have hr := B.returns
  have hts := atoms_spec (ws := wsX11_time) B.pre
  have hown : s.vm.findClass RX11 = some m.cls := findClass_of_methodNamed B.named
  have hlocks := B.notSynchronized
  have hD := hD0.aself
  generalize hAe : aset (mF b ct) = A at hD ⊢
  have hS : va_S A s.heap s.heap [] := va_S.rf
  have hl := lv_entry ([.ref (b 0), .int p0, .int p1]) (n := 3) (Nat.le_of_ble_eq_true rfl)
  rw [lg_entry_eq]
  generalize (lg_sl ([.ref (b 0), .int p0, .int p1]) ++ List.replicate (3 - (lg_sl ([.ref (b 0), .int p0, .int p1])).length) Slot.unset).toArray = ls at hl ⊢
  have hl : lv_has ls 3 [(0, .ref (b 0)), (1, .int p0), (2, .int p1)] := hl
  refine lv_aload_n hx hb dX11_time_0 rfl (lv_at hl 0 rfl) ?_
  refine lv_iconst (v := 0) hx hb dX11_time_1 (by decide) ?_
  refine va_put (D := G) (ci := 11) (v := .int 0) (ty := .int) (C := RX11) (T := TX11) (N := 31) hx hb hts (by decide +kernel) tyX11 tyX11_ok nmX11 hown hK.1 hP hD hS 0 rfl rfl 0 (by decide) (hts (.fieldLink RX11 59 "CardHolderModel" "thrown" "I") (by decide +kernel)) (fun _ h9 => h9) rfl (by decide +kernel) rfl rfl (Nat.le_of_ble_eq_true rfl) dX11_time_2 (fun H locs hP hD hS => ?_)
  have hP : va_P G vwCl (mF b ct) H := hP
  have hD : va_D A (mF b ct) := hD
  refine lv_aload_n hx hb dX11_time_5 rfl (lv_at hl 0 rfl) ?_
  refine lv_iload_n hx hb dX11_time_6 rfl (lv_at hl 1 rfl) ?_
  refine lv_iload_n hx hb dX11_time_7 rfl (lv_at hl 2 rfl) ?_
  refine ro_calli (va_runV (As := [.int p0, .int p1]) (rest := []) ⟨hx, hb, hml, hown, hts⟩ (c_X11_arePeople l G ct b p0 p1) (cwV 2 hts gX11_time_X11_arePeople rfl rfl rfl (by decide +kernel) ⟨Nat.le_of_ble_eq_true rfl, Nat.le_of_ble_eq_true rfl⟩) (ro_preV 11 0 hK hP rfl rfl) rfl rfl hl.1 rfl (lv_room (Nat.le_of_ble_eq_true rfl)) dX11_time_8 ⟨Nat.zero_le _, Nat.zero_le _⟩) hS hP (fun r_1 H locs wr_1 hP hS => ?_)
  obtain rfl := wr_1
  refine lv_if_ne (tgt := 17) hx hb dX11_time_11 (by decide) (fun c_2 => ?_) (fun c_2 => ?_)
  · exact absurd c_2 (by decide)
  · refine lv_bipush (v := (-2)) hx hb dX11_time_14 (by decide) ?_
    exact W.iret (v := (-2)) hx hb hr (fun t ht hW => ⟨⟨(-2), (), rfl, rfl, trivial⟩, hS.F ht⟩) hS.2.2 dX11_time_16

set_option maxHeartbeats 4000000 in
set_option maxRecDepth 100000 in
theorem c_X11_top (l : Launch) (G : va_G) (ct : Nat → ClassId) (b : Nat → Nat) (p0 : Int32)  : Met l yX11_top wsX11_top ({ frames := 5, cells := 0, slots := 0, locals := 111 }) (va_Pc [.ref (b 0), .int p0] (wrP G ct (mF b ct))) (va_Qi (fun (r : Int32) (u : Unit) => r = (-2)) (fun _ _ => True) (aset (mF b ct))) 0 0 (aset (mF b ct)) := by
  refine Met.ofW (cc := cX11_top) (maxL := 4) (ret := (some .int)) (by decide) rfl ?_
  intro p e s m args below meth c s₁ B hml hv
  obtain ⟨rfl, hP, hK, hD0⟩ := hv
  have hx := B.exec
  have hb := B.bytes
  have hr := B.returns
  have hts := atoms_spec (ws := wsX11_top) B.pre
  have hown : s.vm.findClass RX11 = some m.cls := findClass_of_methodNamed B.named
  have hlocks := B.notSynchronized
  have hD := hD0.aself
  generalize hAe : aset (mF b ct) = A at hD ⊢
  have hS : va_S A s.heap s.heap [] := va_S.rf
  have hl := lv_entry ([.ref (b 0), .int p0]) (n := 4) (Nat.le_of_ble_eq_true rfl)
  rw [lg_entry_eq]
  generalize (lg_sl ([.ref (b 0), .int p0]) ++ List.replicate (4 - (lg_sl ([.ref (b 0), .int p0])).length) Slot.unset).toArray = ls at hl ⊢
  have hl : lv_has ls 4 [(0, .ref (b 0)), (1, .int p0)] := hl
  refine lv_aload_n hx hb dX11_top_0 rfl (lv_at hl 0 rfl) ?_
  refine lv_iconst (v := 0) hx hb dX11_top_1 (by decide) ?_
  refine va_put (D := G) (ci := 11) (v := .int 0) (ty := .int) (C := RX11) (T := TX11) (N := 31) hx hb hts (by decide +kernel) tyX11 tyX11_ok nmX11 hown hK.1 hP hD hS 0 rfl rfl 0 (by decide) (hts (.fieldLink RX11 59 "CardHolderModel" "thrown" "I") (by decide +kernel)) (fun _ h9 => h9) rfl (by decide +kernel) rfl rfl (Nat.le_of_ble_eq_true rfl) dX11_top_2 (fun H locs hP hD hS => ?_)
  have hP : va_P G vwCl (mF b ct) H := hP
  have hD : va_D A (mF b ct) := hD
  refine lv_aload_n hx hb dX11_top_5 rfl (lv_at hl 0 rfl) ?_
  refine lv_iload_n hx hb dX11_top_6 rfl (lv_at hl 1 rfl) ?_
  refine lv_i2l hx hb dX11_top_7 rfl ?_
  refine ro_calli (va_runV (As := [.long p0.toInt64]) (rest := []) ⟨hx, hb, hml, hown, hts⟩ (c_X11_isPerson l G ct b p0.toInt64) (cwV 1 hts gX11_top_X11_isPerson rfl rfl rfl (by decide +kernel) ⟨Nat.le_of_ble_eq_true rfl, Nat.le_of_ble_eq_true rfl⟩) (ro_preV 11 0 hK hP rfl rfl) rfl rfl hl.1 rfl (lv_room (Nat.le_of_ble_eq_true rfl)) dX11_top_8 ⟨Nat.zero_le _, Nat.zero_le _⟩) hS hP (fun r_1 H locs wr_1 hP hS => ?_)
  obtain rfl := wr_1
  refine lv_if_ne (tgt := 17) hx hb dX11_top_11 (by decide) (fun c_2 => ?_) (fun c_2 => ?_)
  · exact absurd c_2 (by decide)
  · refine lv_bipush (v := (-2)) hx hb dX11_top_14 (by decide) ?_
    exact W.iret (v := (-2)) hx hb hr (fun t ht hW => ⟨⟨(-2), (), rfl, rfl, trivial⟩, hS.F ht⟩) hS.2.2 dX11_top_16

set_option maxHeartbeats 4000000 in
set_option maxRecDepth 100000 in
theorem c_X11_ring (l : Launch) (G : va_G) (ct : Nat → ClassId) (b : Nat → Nat) (p0 : Int32)  : Met l yX11_ring wsX11_ring ({ frames := 5, cells := 0, slots := 0, locals := 111 }) (va_Pc [.ref (b 0), .int p0] (wrP G ct (mF b ct))) (va_Qi (fun (r : Int32) (u : Unit) => r = (-2)) (fun _ _ => True) (aset (mF b ct))) 0 0 (aset (mF b ct)) := by
  refine Met.ofW (cc := cX11_ring) (maxL := 2) (ret := (some .int)) (by decide) rfl ?_
  intro p e s m args below meth c s₁ B hml hv
  obtain ⟨rfl, hP, hK, hD0⟩ := hv
  have hx := B.exec
  have hb := B.bytes
  have hr := B.returns
  have hts := atoms_spec (ws := wsX11_ring) B.pre
  have hown : s.vm.findClass RX11 = some m.cls := findClass_of_methodNamed B.named
  have hlocks := B.notSynchronized
  have hD := hD0.aself
  generalize hAe : aset (mF b ct) = A at hD ⊢
  have hS : va_S A s.heap s.heap [] := va_S.rf
  have hl := lv_entry ([.ref (b 0), .int p0]) (n := 2) (Nat.le_of_ble_eq_true rfl)
  rw [lg_entry_eq]
  generalize (lg_sl ([.ref (b 0), .int p0]) ++ List.replicate (2 - (lg_sl ([.ref (b 0), .int p0])).length) Slot.unset).toArray = ls at hl ⊢
  have hl : lv_has ls 2 [(0, .ref (b 0)), (1, .int p0)] := hl
  refine lv_aload_n hx hb dX11_ring_0 rfl (lv_at hl 0 rfl) ?_
  refine lv_iconst (v := 0) hx hb dX11_ring_1 (by decide) ?_
  refine va_put (D := G) (ci := 11) (v := .int 0) (ty := .int) (C := RX11) (T := TX11) (N := 31) hx hb hts (by decide +kernel) tyX11 tyX11_ok nmX11 hown hK.1 hP hD hS 0 rfl rfl 0 (by decide) (hts (.fieldLink RX11 59 "CardHolderModel" "thrown" "I") (by decide +kernel)) (fun _ h9 => h9) rfl (by decide +kernel) rfl rfl (Nat.le_of_ble_eq_true rfl) dX11_ring_2 (fun H locs hP hD hS => ?_)
  have hP : va_P G vwCl (mF b ct) H := hP
  have hD : va_D A (mF b ct) := hD
  refine lv_aload_n hx hb dX11_ring_5 rfl (lv_at hl 0 rfl) ?_
  refine lv_iload_n hx hb dX11_ring_6 rfl (lv_at hl 1 rfl) ?_
  refine lv_i2l hx hb dX11_ring_7 rfl ?_
  refine ro_calli (va_runV (As := [.long p0.toInt64]) (rest := []) ⟨hx, hb, hml, hown, hts⟩ (c_X11_isPerson l G ct b p0.toInt64) (cwV 1 hts gX11_ring_X11_isPerson rfl rfl rfl (by decide +kernel) ⟨Nat.le_of_ble_eq_true rfl, Nat.le_of_ble_eq_true rfl⟩) (ro_preV 11 0 hK hP rfl rfl) rfl rfl hl.1 rfl (lv_room (Nat.le_of_ble_eq_true rfl)) dX11_ring_8 ⟨Nat.zero_le _, Nat.zero_le _⟩) hS hP (fun r_1 H locs wr_1 hP hS => ?_)
  obtain rfl := wr_1
  refine lv_if_ne (tgt := 17) hx hb dX11_ring_11 (by decide) (fun c_2 => ?_) (fun c_2 => ?_)
  · exact absurd c_2 (by decide)
  · refine lv_bipush (v := (-2)) hx hb dX11_ring_14 (by decide) ?_
    exact W.iret (v := (-2)) hx hb hr (fun t ht hW => ⟨⟨(-2), (), rfl, rfl, trivial⟩, hS.F ht⟩) hS.2.2 dX11_ring_16

set_option maxHeartbeats 4000000 in
set_option maxRecDepth 100000 in
theorem c_X11_rings (l : Launch) (G : va_G) (ct : Nat → ClassId) (b : Nat → Nat)  : Met l yX11_rings wsX11_rings ({ frames := 5, cells := 0, slots := 0, locals := 111 }) (va_Pc [.ref (b 0)] (wrP G ct (mF b ct))) (va_Qi (fun (r : Int32) (u : Unit) => r = (-2)) (fun _ _ => True) (aset (mF b ct))) 0 0 (aset (mF b ct)) := by
  refine Met.ofW (cc := cX11_rings) (maxL := 1) (ret := (some .int)) (by decide) rfl ?_
  intro p e s m args below meth c s₁ B hml hv
  obtain ⟨rfl, hP, hK, hD0⟩ := hv
  have hx := B.exec
  have hb := B.bytes
  have hr := B.returns
  have hts := atoms_spec (ws := wsX11_rings) B.pre
  have hown : s.vm.findClass RX11 = some m.cls := findClass_of_methodNamed B.named
  have hlocks := B.notSynchronized
  have hD := hD0.aself
  generalize hAe : aset (mF b ct) = A at hD ⊢
  have hS : va_S A s.heap s.heap [] := va_S.rf
  have hl := lv_entry ([.ref (b 0)]) (n := 1) (Nat.le_of_ble_eq_true rfl)
  rw [lg_entry_eq]
  generalize (lg_sl ([.ref (b 0)]) ++ List.replicate (1 - (lg_sl ([.ref (b 0)])).length) Slot.unset).toArray = ls at hl ⊢
  have hl : lv_has ls 1 [(0, .ref (b 0))] := hl
  refine lv_aload_n hx hb dX11_rings_0 rfl (lv_at hl 0 rfl) ?_
  refine lv_iconst (v := 0) hx hb dX11_rings_1 (by decide) ?_
  refine va_put (D := G) (ci := 11) (v := .int 0) (ty := .int) (C := RX11) (T := TX11) (N := 31) hx hb hts (by decide +kernel) tyX11 tyX11_ok nmX11 hown hK.1 hP hD hS 0 rfl rfl 0 (by decide) (hts (.fieldLink RX11 59 "CardHolderModel" "thrown" "I") (by decide +kernel)) (fun _ h9 => h9) rfl (by decide +kernel) rfl rfl (Nat.le_of_ble_eq_true rfl) dX11_rings_2 (fun H locs hP hD hS => ?_)
  have hP : va_P G vwCl (mF b ct) H := hP
  have hD : va_D A (mF b ct) := hD
  refine lv_aload_n hx hb dX11_rings_5 rfl (lv_at hl 0 rfl) ?_
  refine ro_calli (va_runV (As := []) (rest := []) ⟨hx, hb, hml, hown, hts⟩ (c_X11_isCity l G ct b) (cwV 0 hts gX11_rings_X11_isCity rfl rfl rfl (by decide +kernel) ⟨Nat.le_of_ble_eq_true rfl, Nat.le_of_ble_eq_true rfl⟩) (ro_preV 11 0 hK hP rfl rfl) rfl rfl hl.1 rfl (lv_room (Nat.le_of_ble_eq_true rfl)) dX11_rings_6 ⟨Nat.zero_le _, Nat.zero_le _⟩) hS hP (fun r_1 H locs wr_1 hP hS => ?_)
  obtain rfl := wr_1
  refine lv_if_ne (tgt := 15) hx hb dX11_rings_9 (by decide) (fun c_2 => ?_) (fun c_2 => ?_)
  · exact absurd c_2 (by decide)
  · refine lv_bipush (v := (-2)) hx hb dX11_rings_12 (by decide) ?_
    exact W.iret (v := (-2)) hx hb hr (fun t ht hW => ⟨⟨(-2), (), rfl, rfl, trivial⟩, hS.F ht⟩) hS.2.2 dX11_rings_14

set_option maxHeartbeats 4000000 in
set_option maxRecDepth 100000 in
theorem c_X11_chain (l : Launch) (G : va_G) (ct : Nat → ClassId) (b : Nat → Nat) (p0 : Int32) (p1 : Int32)  : Met l yX11_chain wsX11_chain ({ frames := 5, cells := 0, slots := 0, locals := 111 }) (va_Pc [.ref (b 0), .int p0, .int p1] (wrP G ct (mF b ct))) (va_Qi (fun (r : Int32) (u : Unit) => r = (-2)) (fun _ _ => True) (aset (mF b ct))) 0 0 (aset (mF b ct)) := by
  refine Met.ofW (cc := cX11_chain) (maxL := 4) (ret := (some .int)) (by decide) rfl ?_
  intro p e s m args below meth c s₁ B hml hv
  obtain ⟨rfl, hP, hK, hD0⟩ := hv
  have hx := B.exec
  have hb := B.bytes
  have hr := B.returns
  have hts := atoms_spec (ws := wsX11_chain) B.pre
  have hown : s.vm.findClass RX11 = some m.cls := findClass_of_methodNamed B.named
  have hlocks := B.notSynchronized
  have hD := hD0.aself
  generalize hAe : aset (mF b ct) = A at hD ⊢
  have hS : va_S A s.heap s.heap [] := va_S.rf
  have hl := lv_entry ([.ref (b 0), .int p0, .int p1]) (n := 4) (Nat.le_of_ble_eq_true rfl)
  rw [lg_entry_eq]
  generalize (lg_sl ([.ref (b 0), .int p0, .int p1]) ++ List.replicate (4 - (lg_sl ([.ref (b 0), .int p0, .int p1])).length) Slot.unset).toArray = ls at hl ⊢
  have hl : lv_has ls 4 [(0, .ref (b 0)), (1, .int p0), (2, .int p1)] := hl
  refine lv_aload_n hx hb dX11_chain_0 rfl (lv_at hl 0 rfl) ?_
  refine lv_iconst (v := 0) hx hb dX11_chain_1 (by decide) ?_
  refine va_put (D := G) (ci := 11) (v := .int 0) (ty := .int) (C := RX11) (T := TX11) (N := 31) hx hb hts (by decide +kernel) tyX11 tyX11_ok nmX11 hown hK.1 hP hD hS 0 rfl rfl 0 (by decide) (hts (.fieldLink RX11 59 "CardHolderModel" "thrown" "I") (by decide +kernel)) (fun _ h9 => h9) rfl (by decide +kernel) rfl rfl (Nat.le_of_ble_eq_true rfl) dX11_chain_2 (fun H locs hP hD hS => ?_)
  have hP : va_P G vwCl (mF b ct) H := hP
  have hD : va_D A (mF b ct) := hD
  refine lv_aload_n hx hb dX11_chain_5 rfl (lv_at hl 0 rfl) ?_
  refine lv_iload_n hx hb dX11_chain_6 rfl (lv_at hl 1 rfl) ?_
  refine lv_iload_n hx hb dX11_chain_7 rfl (lv_at hl 2 rfl) ?_
  refine ro_calli (va_runV (As := [.int p0, .int p1]) (rest := []) ⟨hx, hb, hml, hown, hts⟩ (c_X11_isChain l G ct b p0 p1) (cwV 2 hts gX11_chain_X11_isChain rfl rfl rfl (by decide +kernel) ⟨Nat.le_of_ble_eq_true rfl, Nat.le_of_ble_eq_true rfl⟩) (ro_preV 11 0 hK hP rfl rfl) rfl rfl hl.1 rfl (lv_room (Nat.le_of_ble_eq_true rfl)) dX11_chain_8 ⟨Nat.zero_le _, Nat.zero_le _⟩) hS hP (fun r_1 H locs wr_1 hP hS => ?_)
  obtain rfl := wr_1
  refine lv_if_ne (tgt := 17) hx hb dX11_chain_11 (by decide) (fun c_2 => ?_) (fun c_2 => ?_)
  · exact absurd c_2 (by decide)
  · refine lv_bipush (v := (-2)) hx hb dX11_chain_14 (by decide) ?_
    exact W.iret (v := (-2)) hx hb hr (fun t ht hW => ⟨⟨(-2), (), rfl, rfl, trivial⟩, hS.F ht⟩) hS.2.2 dX11_chain_16

set_option maxHeartbeats 4000000 in
set_option maxRecDepth 100000 in
theorem c_X11_doer (l : Launch) (G : va_G) (ct : Nat → ClassId) (b : Nat → Nat) (p0 : Int32) (p1 : Int32)  : Met l yX11_doer wsX11_doer ({ frames := 5, cells := 0, slots := 0, locals := 111 }) (va_Pc [.ref (b 0), .int p0, .int p1] (wrP G ct (mF b ct))) (va_Qi (fun (r : Int32) (u : Unit) => r = (-2)) (fun _ _ => True) (aset (mF b ct))) 0 0 (aset (mF b ct)) := by
  refine Met.ofW (cc := cX11_doer) (maxL := 3) (ret := (some .int)) (by decide) rfl ?_
  intro p e s m args below meth c s₁ B hml hv
  obtain ⟨rfl, hP, hK, hD0⟩ := hv
  have hx := B.exec
  have hb := B.bytes
  have hr := B.returns
  have hts := atoms_spec (ws := wsX11_doer) B.pre
  have hown : s.vm.findClass RX11 = some m.cls := findClass_of_methodNamed B.named
  have hlocks := B.notSynchronized
  have hD := hD0.aself
  generalize hAe : aset (mF b ct) = A at hD ⊢
  have hS : va_S A s.heap s.heap [] := va_S.rf
  have hl := lv_entry ([.ref (b 0), .int p0, .int p1]) (n := 3) (Nat.le_of_ble_eq_true rfl)
  rw [lg_entry_eq]
  generalize (lg_sl ([.ref (b 0), .int p0, .int p1]) ++ List.replicate (3 - (lg_sl ([.ref (b 0), .int p0, .int p1])).length) Slot.unset).toArray = ls at hl ⊢
  have hl : lv_has ls 3 [(0, .ref (b 0)), (1, .int p0), (2, .int p1)] := hl
  refine lv_aload_n hx hb dX11_doer_0 rfl (lv_at hl 0 rfl) ?_
  refine lv_iconst (v := 0) hx hb dX11_doer_1 (by decide) ?_
  refine va_put (D := G) (ci := 11) (v := .int 0) (ty := .int) (C := RX11) (T := TX11) (N := 31) hx hb hts (by decide +kernel) tyX11 tyX11_ok nmX11 hown hK.1 hP hD hS 0 rfl rfl 0 (by decide) (hts (.fieldLink RX11 59 "CardHolderModel" "thrown" "I") (by decide +kernel)) (fun _ h9 => h9) rfl (by decide +kernel) rfl rfl (Nat.le_of_ble_eq_true rfl) dX11_doer_2 (fun H locs hP hD hS => ?_)
  have hP : va_P G vwCl (mF b ct) H := hP
  have hD : va_D A (mF b ct) := hD
  refine lv_aload_n hx hb dX11_doer_5 rfl (lv_at hl 0 rfl) ?_
  refine lv_iload_n hx hb dX11_doer_6 rfl (lv_at hl 1 rfl) ?_
  refine lv_iload_n hx hb dX11_doer_7 rfl (lv_at hl 2 rfl) ?_
  refine ro_calli (va_runV (As := [.int p0, .int p1]) (rest := []) ⟨hx, hb, hml, hown, hts⟩ (c_X11_isChain l G ct b p0 p1) (cwV 2 hts gX11_doer_X11_isChain rfl rfl rfl (by decide +kernel) ⟨Nat.le_of_ble_eq_true rfl, Nat.le_of_ble_eq_true rfl⟩) (ro_preV 11 0 hK hP rfl rfl) rfl rfl hl.1 rfl (lv_room (Nat.le_of_ble_eq_true rfl)) dX11_doer_8 ⟨Nat.zero_le _, Nat.zero_le _⟩) hS hP (fun r_1 H locs wr_1 hP hS => ?_)
  obtain rfl := wr_1
  refine lv_if_ne (tgt := 17) hx hb dX11_doer_11 (by decide) (fun c_2 => ?_) (fun c_2 => ?_)
  · exact absurd c_2 (by decide)
  · refine lv_bipush (v := (-2)) hx hb dX11_doer_14 (by decide) ?_
    exact W.iret (v := (-2)) hx hb hr (fun t ht hW => ⟨⟨(-2), (), rfl, rfl, trivial⟩, hS.F ht⟩) hS.2.2 dX11_doer_16

set_option maxHeartbeats 4000000 in
set_option maxRecDepth 100000 in
theorem c_X11_asked (l : Launch) (G : va_G) (ct : Nat → ClassId) (b : Nat → Nat) (p0 : Int32) (p1 : Int32) (p2 : Int32)  : Met l yX11_asked wsX11_asked ({ frames := 5, cells := 0, slots := 0, locals := 111 }) (va_Pc [.ref (b 0), .int p0, .int p1, .int p2] (wrP G ct (mF b ct))) (va_Qi (fun (r : Int32) (u : Unit) => r = (-2)) (fun _ _ => True) (aset (mF b ct))) 0 0 (aset (mF b ct)) := by
  refine Met.ofW (cc := cX11_asked) (maxL := 8) (ret := (some .int)) (by decide) rfl ?_
  intro p e s m args below meth c s₁ B hml hv
  obtain ⟨rfl, hP, hK, hD0⟩ := hv
  have hx := B.exec
  have hb := B.bytes
  have hr := B.returns
  have hts := atoms_spec (ws := wsX11_asked) B.pre
  have hown : s.vm.findClass RX11 = some m.cls := findClass_of_methodNamed B.named
  have hlocks := B.notSynchronized
  have hD := hD0.aself
  generalize hAe : aset (mF b ct) = A at hD ⊢
  have hS : va_S A s.heap s.heap [] := va_S.rf
  have hl := lv_entry ([.ref (b 0), .int p0, .int p1, .int p2]) (n := 8) (Nat.le_of_ble_eq_true rfl)
  rw [lg_entry_eq]
  generalize (lg_sl ([.ref (b 0), .int p0, .int p1, .int p2]) ++ List.replicate (8 - (lg_sl ([.ref (b 0), .int p0, .int p1, .int p2])).length) Slot.unset).toArray = ls at hl ⊢
  have hl : lv_has ls 8 [(0, .ref (b 0)), (1, .int p0), (2, .int p1), (3, .int p2)] := hl
  refine lv_aload_n hx hb dX11_asked_0 rfl (lv_at hl 0 rfl) ?_
  refine lv_iconst (v := 0) hx hb dX11_asked_1 (by decide) ?_
  refine va_put (D := G) (ci := 11) (v := .int 0) (ty := .int) (C := RX11) (T := TX11) (N := 31) hx hb hts (by decide +kernel) tyX11 tyX11_ok nmX11 hown hK.1 hP hD hS 0 rfl rfl 0 (by decide) (hts (.fieldLink RX11 59 "CardHolderModel" "thrown" "I") (by decide +kernel)) (fun _ h9 => h9) rfl (by decide +kernel) rfl rfl (Nat.le_of_ble_eq_true rfl) dX11_asked_2 (fun H locs hP hD hS => ?_)
  have hP : va_P G vwCl (mF b ct) H := hP
  have hD : va_D A (mF b ct) := hD
  refine lv_aload_n hx hb dX11_asked_5 rfl (lv_at hl 0 rfl) ?_
  refine lv_iload_n hx hb dX11_asked_6 rfl (lv_at hl 1 rfl) ?_
  refine lv_iload_n hx hb dX11_asked_7 rfl (lv_at hl 2 rfl) ?_
  refine ro_calli (va_runV (As := [.int p0, .int p1]) (rest := []) ⟨hx, hb, hml, hown, hts⟩ (c_X11_isChain l G ct b p0 p1) (cwV 2 hts gX11_asked_X11_isChain rfl rfl rfl (by decide +kernel) ⟨Nat.le_of_ble_eq_true rfl, Nat.le_of_ble_eq_true rfl⟩) (ro_preV 11 0 hK hP rfl rfl) rfl rfl hl.1 rfl (lv_room (Nat.le_of_ble_eq_true rfl)) dX11_asked_8 ⟨Nat.zero_le _, Nat.zero_le _⟩) hS hP (fun r_1 H locs wr_1 hP hS => ?_)
  obtain rfl := wr_1
  refine lv_if_ne (tgt := 17) hx hb dX11_asked_11 (by decide) (fun c_2 => ?_) (fun c_2 => ?_)
  · exact absurd c_2 (by decide)
  · refine lv_bipush (v := (-2)) hx hb dX11_asked_14 (by decide) ?_
    exact W.iret (v := (-2)) hx hb hr (fun t ht hW => ⟨⟨(-2), (), rfl, rfl, trivial⟩, hS.F ht⟩) hS.2.2 dX11_asked_16

set_option maxHeartbeats 4000000 in
set_option maxRecDepth 100000 in
theorem c_X11_can (l : Launch) (G : va_G) (ct : Nat → ClassId) (b : Nat → Nat) (p0 : Int32)  : Met l yX11_can wsX11_can ({ frames := 5, cells := 0, slots := 0, locals := 111 }) (va_Pc [.ref (b 0), .int p0] (wrP G ct (mF b ct))) (va_Qi (fun (r : Int32) (u : Unit) => r = (-2)) (fun _ _ => True) (aset (mF b ct))) 0 0 (aset (mF b ct)) := by
  refine Met.ofW (cc := cX11_can) (maxL := 4) (ret := (some .int)) (by decide) rfl ?_
  intro p e s m args below meth c s₁ B hml hv
  obtain ⟨rfl, hP, hK, hD0⟩ := hv
  have hx := B.exec
  have hb := B.bytes
  have hr := B.returns
  have hts := atoms_spec (ws := wsX11_can) B.pre
  have hown : s.vm.findClass RX11 = some m.cls := findClass_of_methodNamed B.named
  have hlocks := B.notSynchronized
  have hD := hD0.aself
  generalize hAe : aset (mF b ct) = A at hD ⊢
  have hS : va_S A s.heap s.heap [] := va_S.rf
  have hl := lv_entry ([.ref (b 0), .int p0]) (n := 4) (Nat.le_of_ble_eq_true rfl)
  rw [lg_entry_eq]
  generalize (lg_sl ([.ref (b 0), .int p0]) ++ List.replicate (4 - (lg_sl ([.ref (b 0), .int p0])).length) Slot.unset).toArray = ls at hl ⊢
  have hl : lv_has ls 4 [(0, .ref (b 0)), (1, .int p0)] := hl
  refine lv_aload_n hx hb dX11_can_0 rfl (lv_at hl 0 rfl) ?_
  refine lv_iconst (v := 0) hx hb dX11_can_1 (by decide) ?_
  refine va_put (D := G) (ci := 11) (v := .int 0) (ty := .int) (C := RX11) (T := TX11) (N := 31) hx hb hts (by decide +kernel) tyX11 tyX11_ok nmX11 hown hK.1 hP hD hS 0 rfl rfl 0 (by decide) (hts (.fieldLink RX11 59 "CardHolderModel" "thrown" "I") (by decide +kernel)) (fun _ h9 => h9) rfl (by decide +kernel) rfl rfl (Nat.le_of_ble_eq_true rfl) dX11_can_2 (fun H locs hP hD hS => ?_)
  have hP : va_P G vwCl (mF b ct) H := hP
  have hD : va_D A (mF b ct) := hD
  refine lv_aload_n hx hb dX11_can_5 rfl (lv_at hl 0 rfl) ?_
  refine lv_iload_n hx hb dX11_can_6 rfl (lv_at hl 1 rfl) ?_
  refine lv_i2l hx hb dX11_can_7 rfl ?_
  refine ro_calli (va_runV (As := [.long p0.toInt64]) (rest := []) ⟨hx, hb, hml, hown, hts⟩ (c_X11_isPerson l G ct b p0.toInt64) (cwV 1 hts gX11_can_X11_isPerson rfl rfl rfl (by decide +kernel) ⟨Nat.le_of_ble_eq_true rfl, Nat.le_of_ble_eq_true rfl⟩) (ro_preV 11 0 hK hP rfl rfl) rfl rfl hl.1 rfl (lv_room (Nat.le_of_ble_eq_true rfl)) dX11_can_8 ⟨Nat.zero_le _, Nat.zero_le _⟩) hS hP (fun r_1 H locs wr_1 hP hS => ?_)
  obtain rfl := wr_1
  refine lv_if_ne (tgt := 17) hx hb dX11_can_11 (by decide) (fun c_2 => ?_) (fun c_2 => ?_)
  · exact absurd c_2 (by decide)
  · refine lv_bipush (v := (-2)) hx hb dX11_can_14 (by decide) ?_
    exact W.iret (v := (-2)) hx hb hr (fun t ht hW => ⟨⟨(-2), (), rfl, rfl, trivial⟩, hS.F ht⟩) hS.2.2 dX11_can_16

set_option maxHeartbeats 4000000 in
set_option maxRecDepth 100000 in
theorem c_X11_why (l : Launch) (G : va_G) (ct : Nat → ClassId) (b : Nat → Nat) (p0 : Int32) (p1 : Int32) (p2 : Int32)  : Met l yX11_why wsX11_why ({ frames := 5, cells := 0, slots := 0, locals := 111 }) (va_Pc [.ref (b 0), .int p0, .int p1, .int p2] (wrP G ct (mF b ct))) (va_Qi (fun (r : Int32) (u : Unit) => r = (-2)) (fun _ _ => True) (aset (mF b ct))) 0 0 (aset (mF b ct)) := by
  refine Met.ofW (cc := cX11_why) (maxL := 4) (ret := (some .int)) (by decide) rfl ?_
  intro p e s m args below meth c s₁ B hml hv
  obtain ⟨rfl, hP, hK, hD0⟩ := hv
  have hx := B.exec
  have hb := B.bytes
  have hr := B.returns
  have hts := atoms_spec (ws := wsX11_why) B.pre
  have hown : s.vm.findClass RX11 = some m.cls := findClass_of_methodNamed B.named
  have hlocks := B.notSynchronized
  have hD := hD0.aself
  generalize hAe : aset (mF b ct) = A at hD ⊢
  have hS : va_S A s.heap s.heap [] := va_S.rf
  have hl := lv_entry ([.ref (b 0), .int p0, .int p1, .int p2]) (n := 4) (Nat.le_of_ble_eq_true rfl)
  rw [lg_entry_eq]
  generalize (lg_sl ([.ref (b 0), .int p0, .int p1, .int p2]) ++ List.replicate (4 - (lg_sl ([.ref (b 0), .int p0, .int p1, .int p2])).length) Slot.unset).toArray = ls at hl ⊢
  have hl : lv_has ls 4 [(0, .ref (b 0)), (1, .int p0), (2, .int p1), (3, .int p2)] := hl
  refine lv_aload_n hx hb dX11_why_0 rfl (lv_at hl 0 rfl) ?_
  refine lv_iconst (v := 0) hx hb dX11_why_1 (by decide) ?_
  refine va_put (D := G) (ci := 11) (v := .int 0) (ty := .int) (C := RX11) (T := TX11) (N := 31) hx hb hts (by decide +kernel) tyX11 tyX11_ok nmX11 hown hK.1 hP hD hS 0 rfl rfl 0 (by decide) (hts (.fieldLink RX11 59 "CardHolderModel" "thrown" "I") (by decide +kernel)) (fun _ h9 => h9) rfl (by decide +kernel) rfl rfl (Nat.le_of_ble_eq_true rfl) dX11_why_2 (fun H locs hP hD hS => ?_)
  have hP : va_P G vwCl (mF b ct) H := hP
  have hD : va_D A (mF b ct) := hD
  refine lv_aload_n hx hb dX11_why_5 rfl (lv_at hl 0 rfl) ?_
  refine lv_iload_n hx hb dX11_why_6 rfl (lv_at hl 1 rfl) ?_
  refine lv_iload_n hx hb dX11_why_7 rfl (lv_at hl 2 rfl) ?_
  refine ro_calli (va_runV (As := [.int p0, .int p1]) (rest := []) ⟨hx, hb, hml, hown, hts⟩ (c_X11_arePeople l G ct b p0 p1) (cwV 2 hts gX11_why_X11_arePeople rfl rfl rfl (by decide +kernel) ⟨Nat.le_of_ble_eq_true rfl, Nat.le_of_ble_eq_true rfl⟩) (ro_preV 11 0 hK hP rfl rfl) rfl rfl hl.1 rfl (lv_room (Nat.le_of_ble_eq_true rfl)) dX11_why_8 ⟨Nat.zero_le _, Nat.zero_le _⟩) hS hP (fun r_1 H locs wr_1 hP hS => ?_)
  obtain rfl := wr_1
  refine lv_if_eq (tgt := 22) hx hb dX11_why_11 (by decide) (fun c_2 => ?_) (fun c_2 => ?_)
  · refine lv_bipush (v := (-2)) hx hb dX11_why_22 (by decide) ?_
    exact W.iret (v := (-2)) hx hb hr (fun t ht hW => ⟨⟨(-2), (), rfl, rfl, trivial⟩, hS.F ht⟩) hS.2.2 dX11_why_24
  · exact absurd c_2 (by decide)

set_option maxHeartbeats 4000000 in
set_option maxRecDepth 100000 in
theorem c_X11_ask (l : Launch) (G : va_G) (ct : Nat → ClassId) (b : Nat → Nat) (p0 : Int32) (p1 : Int32) (p2 : Int32)  : Met l yX11_ask wsX11_ask ({ frames := 5, cells := 0, slots := 0, locals := 111 }) (va_Pc [.ref (b 0), .int p0, .int p1, .int p2] (wrP G ct (mF b ct))) (va_Qi (fun (r : Int32) (u : Unit) => r = (-2)) (fun _ _ => True) (aset (mF b ct))) 0 0 (aset (mF b ct)) := by
  refine Met.ofW (cc := cX11_ask) (maxL := 4) (ret := (some .int)) (by decide) rfl ?_
  intro p e s m args below meth c s₁ B hml hv
  obtain ⟨rfl, hP, hK, hD0⟩ := hv
  have hx := B.exec
  have hb := B.bytes
  have hr := B.returns
  have hts := atoms_spec (ws := wsX11_ask) B.pre
  have hown : s.vm.findClass RX11 = some m.cls := findClass_of_methodNamed B.named
  have hlocks := B.notSynchronized
  have hD := hD0.aself
  generalize hAe : aset (mF b ct) = A at hD ⊢
  have hS : va_S A s.heap s.heap [] := va_S.rf
  have hl := lv_entry ([.ref (b 0), .int p0, .int p1, .int p2]) (n := 4) (Nat.le_of_ble_eq_true rfl)
  rw [lg_entry_eq]
  generalize (lg_sl ([.ref (b 0), .int p0, .int p1, .int p2]) ++ List.replicate (4 - (lg_sl ([.ref (b 0), .int p0, .int p1, .int p2])).length) Slot.unset).toArray = ls at hl ⊢
  have hl : lv_has ls 4 [(0, .ref (b 0)), (1, .int p0), (2, .int p1), (3, .int p2)] := hl
  refine lv_aload_n hx hb dX11_ask_0 rfl (lv_at hl 0 rfl) ?_
  refine lv_iconst (v := 0) hx hb dX11_ask_1 (by decide) ?_
  refine va_put (D := G) (ci := 11) (v := .int 0) (ty := .int) (C := RX11) (T := TX11) (N := 31) hx hb hts (by decide +kernel) tyX11 tyX11_ok nmX11 hown hK.1 hP hD hS 0 rfl rfl 0 (by decide) (hts (.fieldLink RX11 59 "CardHolderModel" "thrown" "I") (by decide +kernel)) (fun _ h9 => h9) rfl (by decide +kernel) rfl rfl (Nat.le_of_ble_eq_true rfl) dX11_ask_2 (fun H locs hP hD hS => ?_)
  have hP : va_P G vwCl (mF b ct) H := hP
  have hD : va_D A (mF b ct) := hD
  refine lv_aload_n hx hb dX11_ask_5 rfl (lv_at hl 0 rfl) ?_
  refine lv_iload_n hx hb dX11_ask_6 rfl (lv_at hl 1 rfl) ?_
  refine lv_iload_n hx hb dX11_ask_7 rfl (lv_at hl 2 rfl) ?_
  refine ro_calli (va_runV (As := [.int p0, .int p1]) (rest := []) ⟨hx, hb, hml, hown, hts⟩ (c_X11_arePeople l G ct b p0 p1) (cwV 2 hts gX11_ask_X11_arePeople rfl rfl rfl (by decide +kernel) ⟨Nat.le_of_ble_eq_true rfl, Nat.le_of_ble_eq_true rfl⟩) (ro_preV 11 0 hK hP rfl rfl) rfl rfl hl.1 rfl (lv_room (Nat.le_of_ble_eq_true rfl)) dX11_ask_8 ⟨Nat.zero_le _, Nat.zero_le _⟩) hS hP (fun r_1 H locs wr_1 hP hS => ?_)
  obtain rfl := wr_1
  refine lv_if_eq (tgt := 22) hx hb dX11_ask_11 (by decide) (fun c_2 => ?_) (fun c_2 => ?_)
  · refine lv_bipush (v := (-2)) hx hb dX11_ask_22 (by decide) ?_
    exact W.iret (v := (-2)) hx hb hr (fun t ht hW => ⟨⟨(-2), (), rfl, rfl, trivial⟩, hS.F ht⟩) hS.2.2 dX11_ask_24
  · exact absurd c_2 (by decide)

set_option maxHeartbeats 4000000 in
set_option maxRecDepth 100000 in
theorem c_X11_give (l : Launch) (G : va_G) (ct : Nat → ClassId) (b : Nat → Nat) (p0 : Int32) (p1 : Int32) (p2 : Int32) (p3 : Int32)  : Met l yX11_give wsX11_give ({ frames := 5, cells := 0, slots := 0, locals := 111 }) (va_Pc [.ref (b 0), .int p0, .int p1, .int p2, .int p3] (wrP G ct (mF b ct))) (va_Qi (fun (r : Int32) (u : Unit) => r = (-2)) (fun _ _ => True) (aset (mF b ct))) 0 0 (aset (mF b ct)) := by
  refine Met.ofW (cc := cX11_give) (maxL := 5) (ret := (some .int)) (by decide) rfl ?_
  intro p e s m args below meth c s₁ B hml hv
  obtain ⟨rfl, hP, hK, hD0⟩ := hv
  have hx := B.exec
  have hb := B.bytes
  have hr := B.returns
  have hts := atoms_spec (ws := wsX11_give) B.pre
  have hown : s.vm.findClass RX11 = some m.cls := findClass_of_methodNamed B.named
  have hlocks := B.notSynchronized
  have hD := hD0.aself
  generalize hAe : aset (mF b ct) = A at hD ⊢
  have hS : va_S A s.heap s.heap [] := va_S.rf
  have hl := lv_entry ([.ref (b 0), .int p0, .int p1, .int p2, .int p3]) (n := 5) (Nat.le_of_ble_eq_true rfl)
  rw [lg_entry_eq]
  generalize (lg_sl ([.ref (b 0), .int p0, .int p1, .int p2, .int p3]) ++ List.replicate (5 - (lg_sl ([.ref (b 0), .int p0, .int p1, .int p2, .int p3])).length) Slot.unset).toArray = ls at hl ⊢
  have hl : lv_has ls 5 [(0, .ref (b 0)), (1, .int p0), (2, .int p1), (3, .int p2), (4, .int p3)] := hl
  refine lv_aload_n hx hb dX11_give_0 rfl (lv_at hl 0 rfl) ?_
  refine lv_iconst (v := 0) hx hb dX11_give_1 (by decide) ?_
  refine va_put (D := G) (ci := 11) (v := .int 0) (ty := .int) (C := RX11) (T := TX11) (N := 31) hx hb hts (by decide +kernel) tyX11 tyX11_ok nmX11 hown hK.1 hP hD hS 0 rfl rfl 0 (by decide) (hts (.fieldLink RX11 59 "CardHolderModel" "thrown" "I") (by decide +kernel)) (fun _ h9 => h9) rfl (by decide +kernel) rfl rfl (Nat.le_of_ble_eq_true rfl) dX11_give_2 (fun H locs hP hD hS => ?_)
  have hP : va_P G vwCl (mF b ct) H := hP
  have hD : va_D A (mF b ct) := hD
  refine lv_aload_n hx hb dX11_give_5 rfl (lv_at hl 0 rfl) ?_
  refine lv_iload_n hx hb dX11_give_6 rfl (lv_at hl 1 rfl) ?_
  refine lv_iload_n hx hb dX11_give_7 rfl (lv_at hl 2 rfl) ?_
  refine ro_calli (va_runV (As := [.int p0, .int p1]) (rest := []) ⟨hx, hb, hml, hown, hts⟩ (c_X11_arePeople l G ct b p0 p1) (cwV 2 hts gX11_give_X11_arePeople rfl rfl rfl (by decide +kernel) ⟨Nat.le_of_ble_eq_true rfl, Nat.le_of_ble_eq_true rfl⟩) (ro_preV 11 0 hK hP rfl rfl) rfl rfl hl.1 rfl (lv_room (Nat.le_of_ble_eq_true rfl)) dX11_give_8 ⟨Nat.zero_le _, Nat.zero_le _⟩) hS hP (fun r_1 H locs wr_1 hP hS => ?_)
  obtain rfl := wr_1
  refine lv_if_eq (tgt := 24) hx hb dX11_give_11 (by decide) (fun c_2 => ?_) (fun c_2 => ?_)
  · refine lv_bipush (v := (-2)) hx hb dX11_give_24 (by decide) ?_
    exact W.iret (v := (-2)) hx hb hr (fun t ht hW => ⟨⟨(-2), (), rfl, rfl, trivial⟩, hS.F ht⟩) hS.2.2 dX11_give_26
  · exact absurd c_2 (by decide)

set_option maxHeartbeats 4000000 in
set_option maxRecDepth 100000 in
theorem c_X11_swap (l : Launch) (G : va_G) (ct : Nat → ClassId) (b : Nat → Nat) (p0 : Int32) (p1 : Int32)  : Met l yX11_swap wsX11_swap ({ frames := 5, cells := 0, slots := 0, locals := 111 }) (va_Pc [.ref (b 0), .int p0, .int p1] (wrP G ct (mF b ct))) (va_Qi (fun (r : Int32) (u : Unit) => r = (-2)) (fun _ _ => True) (aset (mF b ct))) 0 0 (aset (mF b ct)) := by
  refine Met.ofW (cc := cX11_swap) (maxL := 3) (ret := (some .int)) (by decide) rfl ?_
  intro p e s m args below meth c s₁ B hml hv
  obtain ⟨rfl, hP, hK, hD0⟩ := hv
  have hx := B.exec
  have hb := B.bytes
  have hr := B.returns
  have hts := atoms_spec (ws := wsX11_swap) B.pre
  have hown : s.vm.findClass RX11 = some m.cls := findClass_of_methodNamed B.named
  have hlocks := B.notSynchronized
  have hD := hD0.aself
  generalize hAe : aset (mF b ct) = A at hD ⊢
  have hS : va_S A s.heap s.heap [] := va_S.rf
  have hl := lv_entry ([.ref (b 0), .int p0, .int p1]) (n := 3) (Nat.le_of_ble_eq_true rfl)
  rw [lg_entry_eq]
  generalize (lg_sl ([.ref (b 0), .int p0, .int p1]) ++ List.replicate (3 - (lg_sl ([.ref (b 0), .int p0, .int p1])).length) Slot.unset).toArray = ls at hl ⊢
  have hl : lv_has ls 3 [(0, .ref (b 0)), (1, .int p0), (2, .int p1)] := hl
  refine lv_aload_n hx hb dX11_swap_0 rfl (lv_at hl 0 rfl) ?_
  refine lv_iconst (v := 0) hx hb dX11_swap_1 (by decide) ?_
  refine va_put (D := G) (ci := 11) (v := .int 0) (ty := .int) (C := RX11) (T := TX11) (N := 31) hx hb hts (by decide +kernel) tyX11 tyX11_ok nmX11 hown hK.1 hP hD hS 0 rfl rfl 0 (by decide) (hts (.fieldLink RX11 59 "CardHolderModel" "thrown" "I") (by decide +kernel)) (fun _ h9 => h9) rfl (by decide +kernel) rfl rfl (Nat.le_of_ble_eq_true rfl) dX11_swap_2 (fun H locs hP hD hS => ?_)
  have hP : va_P G vwCl (mF b ct) H := hP
  have hD : va_D A (mF b ct) := hD
  refine lv_aload_n hx hb dX11_swap_5 rfl (lv_at hl 0 rfl) ?_
  refine lv_iload_n hx hb dX11_swap_6 rfl (lv_at hl 1 rfl) ?_
  refine lv_iload_n hx hb dX11_swap_7 rfl (lv_at hl 2 rfl) ?_
  refine ro_calli (va_runV (As := [.int p0, .int p1]) (rest := []) ⟨hx, hb, hml, hown, hts⟩ (c_X11_arePeople l G ct b p0 p1) (cwV 2 hts gX11_swap_X11_arePeople rfl rfl rfl (by decide +kernel) ⟨Nat.le_of_ble_eq_true rfl, Nat.le_of_ble_eq_true rfl⟩) (ro_preV 11 0 hK hP rfl rfl) rfl rfl hl.1 rfl (lv_room (Nat.le_of_ble_eq_true rfl)) dX11_swap_8 ⟨Nat.zero_le _, Nat.zero_le _⟩) hS hP (fun r_1 H locs wr_1 hP hS => ?_)
  obtain rfl := wr_1
  refine lv_if_eq (tgt := 19) hx hb dX11_swap_11 (by decide) (fun c_2 => ?_) (fun c_2 => ?_)
  · refine lv_bipush (v := (-2)) hx hb dX11_swap_19 (by decide) ?_
    exact W.iret (v := (-2)) hx hb hr (fun t ht hW => ⟨⟨(-2), (), rfl, rfl, trivial⟩, hS.F ht⟩) hS.2.2 dX11_swap_21
  · exact absurd c_2 (by decide)

set_option maxHeartbeats 4000000 in
set_option maxRecDepth 100000 in
theorem c_X11_steal (l : Launch) (G : va_G) (ct : Nat → ClassId) (b : Nat → Nat) (p0 : Int32) (p1 : Int32)  : Met l yX11_steal wsX11_steal ({ frames := 5, cells := 0, slots := 0, locals := 111 }) (va_Pc [.ref (b 0), .int p0, .int p1] (wrP G ct (mF b ct))) (va_Qi (fun (r : Int32) (u : Unit) => r = (-2)) (fun _ _ => True) (aset (mF b ct))) 0 0 (aset (mF b ct)) := by
  refine Met.ofW (cc := cX11_steal) (maxL := 3) (ret := (some .int)) (by decide) rfl ?_
  intro p e s m args below meth c s₁ B hml hv
  obtain ⟨rfl, hP, hK, hD0⟩ := hv
  have hx := B.exec
  have hb := B.bytes
  have hr := B.returns
  have hts := atoms_spec (ws := wsX11_steal) B.pre
  have hown : s.vm.findClass RX11 = some m.cls := findClass_of_methodNamed B.named
  have hlocks := B.notSynchronized
  have hD := hD0.aself
  generalize hAe : aset (mF b ct) = A at hD ⊢
  have hS : va_S A s.heap s.heap [] := va_S.rf
  have hl := lv_entry ([.ref (b 0), .int p0, .int p1]) (n := 3) (Nat.le_of_ble_eq_true rfl)
  rw [lg_entry_eq]
  generalize (lg_sl ([.ref (b 0), .int p0, .int p1]) ++ List.replicate (3 - (lg_sl ([.ref (b 0), .int p0, .int p1])).length) Slot.unset).toArray = ls at hl ⊢
  have hl : lv_has ls 3 [(0, .ref (b 0)), (1, .int p0), (2, .int p1)] := hl
  refine lv_aload_n hx hb dX11_steal_0 rfl (lv_at hl 0 rfl) ?_
  refine lv_iconst (v := 0) hx hb dX11_steal_1 (by decide) ?_
  refine va_put (D := G) (ci := 11) (v := .int 0) (ty := .int) (C := RX11) (T := TX11) (N := 31) hx hb hts (by decide +kernel) tyX11 tyX11_ok nmX11 hown hK.1 hP hD hS 0 rfl rfl 0 (by decide) (hts (.fieldLink RX11 59 "CardHolderModel" "thrown" "I") (by decide +kernel)) (fun _ h9 => h9) rfl (by decide +kernel) rfl rfl (Nat.le_of_ble_eq_true rfl) dX11_steal_2 (fun H locs hP hD hS => ?_)
  have hP : va_P G vwCl (mF b ct) H := hP
  have hD : va_D A (mF b ct) := hD
  refine lv_aload_n hx hb dX11_steal_5 rfl (lv_at hl 0 rfl) ?_
  refine lv_iload_n hx hb dX11_steal_6 rfl (lv_at hl 1 rfl) ?_
  refine lv_iload_n hx hb dX11_steal_7 rfl (lv_at hl 2 rfl) ?_
  refine ro_calli (va_runV (As := [.int p0, .int p1]) (rest := []) ⟨hx, hb, hml, hown, hts⟩ (c_X11_arePeople l G ct b p0 p1) (cwV 2 hts gX11_steal_X11_arePeople rfl rfl rfl (by decide +kernel) ⟨Nat.le_of_ble_eq_true rfl, Nat.le_of_ble_eq_true rfl⟩) (ro_preV 11 0 hK hP rfl rfl) rfl rfl hl.1 rfl (lv_room (Nat.le_of_ble_eq_true rfl)) dX11_steal_8 ⟨Nat.zero_le _, Nat.zero_le _⟩) hS hP (fun r_1 H locs wr_1 hP hS => ?_)
  obtain rfl := wr_1
  refine lv_if_ne (tgt := 17) hx hb dX11_steal_11 (by decide) (fun c_2 => ?_) (fun c_2 => ?_)
  · exact absurd c_2 (by decide)
  · refine lv_bipush (v := (-2)) hx hb dX11_steal_14 (by decide) ?_
    exact W.iret (v := (-2)) hx hb hr (fun t ht hW => ⟨⟨(-2), (), rfl, rfl, trivial⟩, hS.F ht⟩) hS.2.2 dX11_steal_16

set_option maxHeartbeats 4000000 in
set_option maxRecDepth 100000 in
theorem c_X11_day (l : Launch) (G : va_G) (ct : Nat → ClassId) (b : Nat → Nat)  : Met l yX11_day wsX11_day ({ frames := 5, cells := 0, slots := 0, locals := 111 }) (va_Pc [.ref (b 0)] (wrP G ct (mF b ct))) (va_Qi (fun (r : Int32) (u : Unit) => r = (-2)) (fun _ _ => True) (aset (mF b ct))) 0 0 (aset (mF b ct)) := by
  refine Met.ofW (cc := cX11_day) (maxL := 1) (ret := (some .int)) (by decide) rfl ?_
  intro p e s m args below meth c s₁ B hml hv
  obtain ⟨rfl, hP, hK, hD0⟩ := hv
  have hx := B.exec
  have hb := B.bytes
  have hr := B.returns
  have hts := atoms_spec (ws := wsX11_day) B.pre
  have hown : s.vm.findClass RX11 = some m.cls := findClass_of_methodNamed B.named
  have hlocks := B.notSynchronized
  have hD := hD0.aself
  generalize hAe : aset (mF b ct) = A at hD ⊢
  have hS : va_S A s.heap s.heap [] := va_S.rf
  have hl := lv_entry ([.ref (b 0)]) (n := 1) (Nat.le_of_ble_eq_true rfl)
  rw [lg_entry_eq]
  generalize (lg_sl ([.ref (b 0)]) ++ List.replicate (1 - (lg_sl ([.ref (b 0)])).length) Slot.unset).toArray = ls at hl ⊢
  have hl : lv_has ls 1 [(0, .ref (b 0))] := hl
  refine lv_aload_n hx hb dX11_day_0 rfl (lv_at hl 0 rfl) ?_
  refine lv_iconst (v := 0) hx hb dX11_day_1 (by decide) ?_
  refine va_put (D := G) (ci := 11) (v := .int 0) (ty := .int) (C := RX11) (T := TX11) (N := 31) hx hb hts (by decide +kernel) tyX11 tyX11_ok nmX11 hown hK.1 hP hD hS 0 rfl rfl 0 (by decide) (hts (.fieldLink RX11 59 "CardHolderModel" "thrown" "I") (by decide +kernel)) (fun _ h9 => h9) rfl (by decide +kernel) rfl rfl (Nat.le_of_ble_eq_true rfl) dX11_day_2 (fun H locs hP hD hS => ?_)
  have hP : va_P G vwCl (mF b ct) H := hP
  have hD : va_D A (mF b ct) := hD
  refine lv_aload_n hx hb dX11_day_5 rfl (lv_at hl 0 rfl) ?_
  refine ro_calli (va_runV (As := []) (rest := []) ⟨hx, hb, hml, hown, hts⟩ (c_X11_isCity l G ct b) (cwV 0 hts gX11_day_X11_isCity rfl rfl rfl (by decide +kernel) ⟨Nat.le_of_ble_eq_true rfl, Nat.le_of_ble_eq_true rfl⟩) (ro_preV 11 0 hK hP rfl rfl) rfl rfl hl.1 rfl (lv_room (Nat.le_of_ble_eq_true rfl)) dX11_day_6 ⟨Nat.zero_le _, Nat.zero_le _⟩) hS hP (fun r_1 H locs wr_1 hP hS => ?_)
  obtain rfl := wr_1
  refine lv_if_ne (tgt := 15) hx hb dX11_day_9 (by decide) (fun c_2 => ?_) (fun c_2 => ?_)
  · exact absurd c_2 (by decide)
  · refine lv_bipush (v := (-2)) hx hb dX11_day_12 (by decide) ?_
    exact W.iret (v := (-2)) hx hb hr (fun t ht hW => ⟨⟨(-2), (), rfl, rfl, trivial⟩, hS.F ht⟩) hS.2.2 dX11_day_14

set_option maxHeartbeats 4000000 in
set_option maxRecDepth 100000 in
theorem c_X11_undo (l : Launch) (G : va_G) (ct : Nat → ClassId) (b : Nat → Nat)  : Met l yX11_undo wsX11_undo ({ frames := 1, cells := 0, slots := 0, locals := 20 }) (va_Pc [.ref (b 0)] (wrP G ct (mF b ct))) (va_Qi (fun (r : Int32) (u : Unit) => r = (-2)) (fun _ _ => True) (aset (mF b ct))) 0 0 (aset (mF b ct)) := by
  refine Met.ofW (cc := cX11_undo) (maxL := 1) (ret := (some .int)) (by decide) rfl ?_
  intro p e s m args below meth c s₁ B hml hv
  obtain ⟨rfl, hP, hK, hD0⟩ := hv
  have hx := B.exec
  have hb := B.bytes
  have hr := B.returns
  have hts := atoms_spec (ws := wsX11_undo) B.pre
  have hown : s.vm.findClass RX11 = some m.cls := findClass_of_methodNamed B.named
  have hlocks := B.notSynchronized
  have hD := hD0.aself
  generalize hAe : aset (mF b ct) = A at hD ⊢
  have hS : va_S A s.heap s.heap [] := va_S.rf
  have hl := lv_entry ([.ref (b 0)]) (n := 1) (Nat.le_of_ble_eq_true rfl)
  rw [lg_entry_eq]
  generalize (lg_sl ([.ref (b 0)]) ++ List.replicate (1 - (lg_sl ([.ref (b 0)])).length) Slot.unset).toArray = ls at hl ⊢
  have hl : lv_has ls 1 [(0, .ref (b 0))] := hl
  refine lv_aload_n hx hb dX11_undo_0 rfl (lv_at hl 0 rfl) ?_
  refine lv_iconst (v := 0) hx hb dX11_undo_1 (by decide) ?_
  refine va_put (D := G) (ci := 11) (v := .int 0) (ty := .int) (C := RX11) (T := TX11) (N := 31) hx hb hts (by decide +kernel) tyX11 tyX11_ok nmX11 hown hK.1 hP hD hS 0 rfl rfl 0 (by decide) (hts (.fieldLink RX11 59 "CardHolderModel" "thrown" "I") (by decide +kernel)) (fun _ h9 => h9) rfl (by decide +kernel) rfl rfl (Nat.le_of_ble_eq_true rfl) dX11_undo_2 (fun H locs hP hD hS => ?_)
  have hP : va_P G vwCl (mF b ct) H := hP
  have hD : va_D A (mF b ct) := hD
  refine lv_aload_n hx hb dX11_undo_5 rfl (lv_at hl 0 rfl) ?_
  refine ro_calli (va_runV (As := []) (rest := []) ⟨hx, hb, hml, hown, hts⟩ (c_X11_isCity l G ct b) (cwV 0 hts gX11_undo_X11_isCity rfl rfl rfl (by decide +kernel) ⟨Nat.le_of_ble_eq_true rfl, Nat.le_of_ble_eq_true rfl⟩) (ro_preV 11 0 hK hP rfl rfl) rfl rfl hl.1 rfl (lv_room (Nat.le_of_ble_eq_true rfl)) dX11_undo_6 ⟨Nat.zero_le _, Nat.zero_le _⟩) hS hP (fun r_1 H locs wr_1 hP hS => ?_)
  obtain rfl := wr_1
  refine lv_if_ne (tgt := 15) hx hb dX11_undo_9 (by decide) (fun c_2 => ?_) (fun c_2 => ?_)
  · exact absurd c_2 (by decide)
  · refine lv_bipush (v := (-2)) hx hb dX11_undo_12 (by decide) ?_
    exact W.iret (v := (-2)) hx hb hr (fun t ht hW => ⟨⟨(-2), (), rfl, rfl, trivial⟩, hS.F ht⟩) hS.2.2 dX11_undo_14

set_option maxHeartbeats 4000000 in
set_option maxRecDepth 100000 in
theorem c_X11_anew (l : Launch) (G : va_G) (ct : Nat → ClassId) (b : Nat → Nat)  : Met l yX11_anew wsX11_anew ({ frames := 1, cells := 0, slots := 0, locals := 20 }) (va_Pc [.ref (b 0)] (wrP G ct (mF b ct))) (va_Qi (fun (r : Int32) (u : Unit) => r = (-2)) (fun _ _ => True) (aset (mF b ct))) 0 0 (aset (mF b ct)) := by
  refine Met.ofW (cc := cX11_anew) (maxL := 2) (ret := (some .int)) (by decide) rfl ?_
  intro p e s m args below meth c s₁ B hml hv
  obtain ⟨rfl, hP, hK, hD0⟩ := hv
  have hx := B.exec
  have hb := B.bytes
  have hr := B.returns
  have hts := atoms_spec (ws := wsX11_anew) B.pre
  have hown : s.vm.findClass RX11 = some m.cls := findClass_of_methodNamed B.named
  have hlocks := B.notSynchronized
  have hD := hD0.aself
  generalize hAe : aset (mF b ct) = A at hD ⊢
  have hS : va_S A s.heap s.heap [] := va_S.rf
  have hl := lv_entry ([.ref (b 0)]) (n := 2) (Nat.le_of_ble_eq_true rfl)
  rw [lg_entry_eq]
  generalize (lg_sl ([.ref (b 0)]) ++ List.replicate (2 - (lg_sl ([.ref (b 0)])).length) Slot.unset).toArray = ls at hl ⊢
  have hl : lv_has ls 2 [(0, .ref (b 0))] := hl
  refine lv_aload_n hx hb dX11_anew_0 rfl (lv_at hl 0 rfl) ?_
  refine lv_iconst (v := 0) hx hb dX11_anew_1 (by decide) ?_
  refine va_put (D := G) (ci := 11) (v := .int 0) (ty := .int) (C := RX11) (T := TX11) (N := 31) hx hb hts (by decide +kernel) tyX11 tyX11_ok nmX11 hown hK.1 hP hD hS 0 rfl rfl 0 (by decide) (hts (.fieldLink RX11 59 "CardHolderModel" "thrown" "I") (by decide +kernel)) (fun _ h9 => h9) rfl (by decide +kernel) rfl rfl (Nat.le_of_ble_eq_true rfl) dX11_anew_2 (fun H locs hP hD hS => ?_)
  have hP : va_P G vwCl (mF b ct) H := hP
  have hD : va_D A (mF b ct) := hD
  refine lv_aload_n hx hb dX11_anew_5 rfl (lv_at hl 0 rfl) ?_
  refine ro_calli (va_runV (As := []) (rest := []) ⟨hx, hb, hml, hown, hts⟩ (c_X11_isCity l G ct b) (cwV 0 hts gX11_anew_X11_isCity rfl rfl rfl (by decide +kernel) ⟨Nat.le_of_ble_eq_true rfl, Nat.le_of_ble_eq_true rfl⟩) (ro_preV 11 0 hK hP rfl rfl) rfl rfl hl.1 rfl (lv_room (Nat.le_of_ble_eq_true rfl)) dX11_anew_6 ⟨Nat.zero_le _, Nat.zero_le _⟩) hS hP (fun r_1 H locs wr_1 hP hS => ?_)
  obtain rfl := wr_1
  refine lv_if_ne (tgt := 15) hx hb dX11_anew_9 (by decide) (fun c_2 => ?_) (fun c_2 => ?_)
  · exact absurd c_2 (by decide)
  · refine lv_bipush (v := (-2)) hx hb dX11_anew_12 (by decide) ?_
    exact W.iret (v := (-2)) hx hb hr (fun t ht hW => ⟨⟨(-2), (), rfl, rfl, trivial⟩, hS.F ht⟩) hS.2.2 dX11_anew_14

set_option maxHeartbeats 4000000 in
set_option maxRecDepth 100000 in
theorem c_X11_now (l : Launch) (G : va_G) (ct : Nat → ClassId) (b : Nat → Nat) (p0 : Int32)  : Met l yX11_now wsX11_now ({ frames := 5, cells := 0, slots := 0, locals := 111 }) (va_Pc [.ref (b 0), .int p0] (wrP G ct (mF b ct))) (va_Qi (fun (r : Int32) (u : Unit) => r = (-2)) (fun _ _ => True) (aset (mF b ct))) 0 0 (aset (mF b ct)) := by
  refine Met.ofW (cc := cX11_now) (maxL := 2) (ret := (some .int)) (by decide) rfl ?_
  intro p e s m args below meth c s₁ B hml hv
  obtain ⟨rfl, hP, hK, hD0⟩ := hv
  have hx := B.exec
  have hb := B.bytes
  have hr := B.returns
  have hts := atoms_spec (ws := wsX11_now) B.pre
  have hown : s.vm.findClass RX11 = some m.cls := findClass_of_methodNamed B.named
  have hlocks := B.notSynchronized
  have hD := hD0.aself
  generalize hAe : aset (mF b ct) = A at hD ⊢
  have hS : va_S A s.heap s.heap [] := va_S.rf
  have hl := lv_entry ([.ref (b 0), .int p0]) (n := 2) (Nat.le_of_ble_eq_true rfl)
  rw [lg_entry_eq]
  generalize (lg_sl ([.ref (b 0), .int p0]) ++ List.replicate (2 - (lg_sl ([.ref (b 0), .int p0])).length) Slot.unset).toArray = ls at hl ⊢
  have hl : lv_has ls 2 [(0, .ref (b 0)), (1, .int p0)] := hl
  refine lv_aload_n hx hb dX11_now_0 rfl (lv_at hl 0 rfl) ?_
  refine lv_iconst (v := 0) hx hb dX11_now_1 (by decide) ?_
  refine va_put (D := G) (ci := 11) (v := .int 0) (ty := .int) (C := RX11) (T := TX11) (N := 31) hx hb hts (by decide +kernel) tyX11 tyX11_ok nmX11 hown hK.1 hP hD hS 0 rfl rfl 0 (by decide) (hts (.fieldLink RX11 59 "CardHolderModel" "thrown" "I") (by decide +kernel)) (fun _ h9 => h9) rfl (by decide +kernel) rfl rfl (Nat.le_of_ble_eq_true rfl) dX11_now_2 (fun H locs hP hD hS => ?_)
  have hP : va_P G vwCl (mF b ct) H := hP
  have hD : va_D A (mF b ct) := hD
  refine lv_aload_n hx hb dX11_now_5 rfl (lv_at hl 0 rfl) ?_
  refine ro_calli (va_runV (As := []) (rest := []) ⟨hx, hb, hml, hown, hts⟩ (c_X11_isCity l G ct b) (cwV 0 hts gX11_now_X11_isCity rfl rfl rfl (by decide +kernel) ⟨Nat.le_of_ble_eq_true rfl, Nat.le_of_ble_eq_true rfl⟩) (ro_preV 11 0 hK hP rfl rfl) rfl rfl hl.1 rfl (lv_room (Nat.le_of_ble_eq_true rfl)) dX11_now_6 ⟨Nat.zero_le _, Nat.zero_le _⟩) hS hP (fun r_1 H locs wr_1 hP hS => ?_)
  obtain rfl := wr_1
  refine lv_if_eq (tgt := 24) hx hb dX11_now_9 (by decide) (fun c_2 => ?_) (fun c_2 => ?_)
  · refine lv_bipush (v := (-2)) hx hb dX11_now_24 (by decide) ?_
    exact W.iret (v := (-2)) hx hb hr (fun t ht hW => ⟨⟨(-2), (), rfl, rfl, trivial⟩, hS.F ht⟩) hS.2.2 dX11_now_26
  · exact absurd c_2 (by decide)

set_option maxHeartbeats 4000000 in
set_option maxRecDepth 100000 in
theorem c_X11_own (l : Launch) (G : va_G) (ct : Nat → ClassId) (b : Nat → Nat)  : Met l yX11_own wsX11_own ({ frames := 5, cells := 0, slots := 0, locals := 111 }) (va_Pc [.ref (b 0)] (wrP G ct (mF b ct))) (va_Qi (fun (r : Int32) (u : Unit) => r = (-2)) (fun _ _ => True) (aset (mF b ct))) 0 0 (aset (mF b ct)) := by
  refine Met.ofW (cc := cX11_own) (maxL := 1) (ret := (some .int)) (by decide) rfl ?_
  intro p e s m args below meth c s₁ B hml hv
  obtain ⟨rfl, hP, hK, hD0⟩ := hv
  have hx := B.exec
  have hb := B.bytes
  have hr := B.returns
  have hts := atoms_spec (ws := wsX11_own) B.pre
  have hown : s.vm.findClass RX11 = some m.cls := findClass_of_methodNamed B.named
  have hlocks := B.notSynchronized
  have hD := hD0.aself
  generalize hAe : aset (mF b ct) = A at hD ⊢
  have hS : va_S A s.heap s.heap [] := va_S.rf
  have hl := lv_entry ([.ref (b 0)]) (n := 1) (Nat.le_of_ble_eq_true rfl)
  rw [lg_entry_eq]
  generalize (lg_sl ([.ref (b 0)]) ++ List.replicate (1 - (lg_sl ([.ref (b 0)])).length) Slot.unset).toArray = ls at hl ⊢
  have hl : lv_has ls 1 [(0, .ref (b 0))] := hl
  refine lv_aload_n hx hb dX11_own_0 rfl (lv_at hl 0 rfl) ?_
  refine lv_iconst (v := 0) hx hb dX11_own_1 (by decide) ?_
  refine va_put (D := G) (ci := 11) (v := .int 0) (ty := .int) (C := RX11) (T := TX11) (N := 31) hx hb hts (by decide +kernel) tyX11 tyX11_ok nmX11 hown hK.1 hP hD hS 0 rfl rfl 0 (by decide) (hts (.fieldLink RX11 59 "CardHolderModel" "thrown" "I") (by decide +kernel)) (fun _ h9 => h9) rfl (by decide +kernel) rfl rfl (Nat.le_of_ble_eq_true rfl) dX11_own_2 (fun H locs hP hD hS => ?_)
  have hP : va_P G vwCl (mF b ct) H := hP
  have hD : va_D A (mF b ct) := hD
  refine lv_aload_n hx hb dX11_own_5 rfl (lv_at hl 0 rfl) ?_
  refine ro_calli (va_runV (As := []) (rest := []) ⟨hx, hb, hml, hown, hts⟩ (c_X11_isCity l G ct b) (cwV 0 hts gX11_own_X11_isCity rfl rfl rfl (by decide +kernel) ⟨Nat.le_of_ble_eq_true rfl, Nat.le_of_ble_eq_true rfl⟩) (ro_preV 11 0 hK hP rfl rfl) rfl rfl hl.1 rfl (lv_room (Nat.le_of_ble_eq_true rfl)) dX11_own_6 ⟨Nat.zero_le _, Nat.zero_le _⟩) hS hP (fun r_1 H locs wr_1 hP hS => ?_)
  obtain rfl := wr_1
  refine lv_if_ne (tgt := 15) hx hb dX11_own_9 (by decide) (fun c_2 => ?_) (fun c_2 => ?_)
  · exact absurd c_2 (by decide)
  · refine lv_bipush (v := (-2)) hx hb dX11_own_12 (by decide) ?_
    exact W.iret (v := (-2)) hx hb hr (fun t ht hW => ⟨⟨(-2), (), rfl, rfl, trivial⟩, hS.F ht⟩) hS.2.2 dX11_own_14

set_option maxHeartbeats 4000000 in
set_option maxRecDepth 100000 in
theorem c_X11_first (l : Launch) (G : va_G) (ct : Nat → ClassId) (b : Nat → Nat) (p0 : Int32)  : Met l yX11_first wsX11_first ({ frames := 5, cells := 0, slots := 0, locals := 111 }) (va_Pc [.ref (b 0), .int p0] (wrP G ct (mF b ct))) (va_Qi (fun (r : Int32) (u : Unit) => r = (-2)) (fun _ _ => True) (aset (mF b ct))) 0 0 (aset (mF b ct)) := by
  refine Met.ofW (cc := cX11_first) (maxL := 4) (ret := (some .int)) (by decide) rfl ?_
  intro p e s m args below meth c s₁ B hml hv
  obtain ⟨rfl, hP, hK, hD0⟩ := hv
  have hx := B.exec
  have hb := B.bytes
  have hr := B.returns
  have hts := atoms_spec (ws := wsX11_first) B.pre
  have hown : s.vm.findClass RX11 = some m.cls := findClass_of_methodNamed B.named
  have hlocks := B.notSynchronized
  have hD := hD0.aself
  generalize hAe : aset (mF b ct) = A at hD ⊢
  have hS : va_S A s.heap s.heap [] := va_S.rf
  have hl := lv_entry ([.ref (b 0), .int p0]) (n := 4) (Nat.le_of_ble_eq_true rfl)
  rw [lg_entry_eq]
  generalize (lg_sl ([.ref (b 0), .int p0]) ++ List.replicate (4 - (lg_sl ([.ref (b 0), .int p0])).length) Slot.unset).toArray = ls at hl ⊢
  have hl : lv_has ls 4 [(0, .ref (b 0)), (1, .int p0)] := hl
  refine lv_aload_n hx hb dX11_first_0 rfl (lv_at hl 0 rfl) ?_
  refine lv_iconst (v := 0) hx hb dX11_first_1 (by decide) ?_
  refine va_put (D := G) (ci := 11) (v := .int 0) (ty := .int) (C := RX11) (T := TX11) (N := 31) hx hb hts (by decide +kernel) tyX11 tyX11_ok nmX11 hown hK.1 hP hD hS 0 rfl rfl 0 (by decide) (hts (.fieldLink RX11 59 "CardHolderModel" "thrown" "I") (by decide +kernel)) (fun _ h9 => h9) rfl (by decide +kernel) rfl rfl (Nat.le_of_ble_eq_true rfl) dX11_first_2 (fun H locs hP hD hS => ?_)
  have hP : va_P G vwCl (mF b ct) H := hP
  have hD : va_D A (mF b ct) := hD
  refine lv_aload_n hx hb dX11_first_5 rfl (lv_at hl 0 rfl) ?_
  refine ro_calli (va_runV (As := []) (rest := []) ⟨hx, hb, hml, hown, hts⟩ (c_X11_isCity l G ct b) (cwV 0 hts gX11_first_X11_isCity rfl rfl rfl (by decide +kernel) ⟨Nat.le_of_ble_eq_true rfl, Nat.le_of_ble_eq_true rfl⟩) (ro_preV 11 0 hK hP rfl rfl) rfl rfl hl.1 rfl (lv_room (Nat.le_of_ble_eq_true rfl)) dX11_first_6 ⟨Nat.zero_le _, Nat.zero_le _⟩) hS hP (fun r_1 H locs wr_1 hP hS => ?_)
  obtain rfl := wr_1
  refine lv_if_eq (tgt := 22) hx hb dX11_first_9 (by decide) (fun c_2 => ?_) (fun c_2 => ?_)
  · refine lv_bipush (v := (-2)) hx hb dX11_first_22 (by decide) ?_
    exact W.iret (v := (-2)) hx hb hr (fun t ht hW => ⟨⟨(-2), (), rfl, rfl, trivial⟩, hS.F ht⟩) hS.2.2 dX11_first_24
  · exact absurd c_2 (by decide)

set_option maxHeartbeats 4000000 in
set_option maxRecDepth 100000 in
theorem c_X11_work (l : Launch) (G : va_G) (ct : Nat → ClassId) (b : Nat → Nat)  : Met l yX11_work wsX11_work ({ frames := 5, cells := 0, slots := 0, locals := 111 }) (va_Pc [.ref (b 0)] (wrP G ct (mF b ct))) (va_Qi (fun (r : Int32) (u : Unit) => r = (-2)) (fun _ _ => True) (aset (mF b ct))) 0 0 (aset (mF b ct)) := by
  refine Met.ofW (cc := cX11_work) (maxL := 3) (ret := (some .int)) (by decide) rfl ?_
  intro p e s m args below meth c s₁ B hml hv
  obtain ⟨rfl, hP, hK, hD0⟩ := hv
  have hx := B.exec
  have hb := B.bytes
  have hr := B.returns
  have hts := atoms_spec (ws := wsX11_work) B.pre
  have hown : s.vm.findClass RX11 = some m.cls := findClass_of_methodNamed B.named
  have hlocks := B.notSynchronized
  have hD := hD0.aself
  generalize hAe : aset (mF b ct) = A at hD ⊢
  have hS : va_S A s.heap s.heap [] := va_S.rf
  have hl := lv_entry ([.ref (b 0)]) (n := 3) (Nat.le_of_ble_eq_true rfl)
  rw [lg_entry_eq]
  generalize (lg_sl ([.ref (b 0)]) ++ List.replicate (3 - (lg_sl ([.ref (b 0)])).length) Slot.unset).toArray = ls at hl ⊢
  have hl : lv_has ls 3 [(0, .ref (b 0))] := hl
  refine lv_aload_n hx hb dX11_work_0 rfl (lv_at hl 0 rfl) ?_
  refine lv_iconst (v := 0) hx hb dX11_work_1 (by decide) ?_
  refine va_put (D := G) (ci := 11) (v := .int 0) (ty := .int) (C := RX11) (T := TX11) (N := 31) hx hb hts (by decide +kernel) tyX11 tyX11_ok nmX11 hown hK.1 hP hD hS 0 rfl rfl 0 (by decide) (hts (.fieldLink RX11 59 "CardHolderModel" "thrown" "I") (by decide +kernel)) (fun _ h9 => h9) rfl (by decide +kernel) rfl rfl (Nat.le_of_ble_eq_true rfl) dX11_work_2 (fun H locs hP hD hS => ?_)
  have hP : va_P G vwCl (mF b ct) H := hP
  have hD : va_D A (mF b ct) := hD
  refine lv_aload_n hx hb dX11_work_5 rfl (lv_at hl 0 rfl) ?_
  refine ro_calli (va_runV (As := []) (rest := []) ⟨hx, hb, hml, hown, hts⟩ (c_X11_isCity l G ct b) (cwV 0 hts gX11_work_X11_isCity rfl rfl rfl (by decide +kernel) ⟨Nat.le_of_ble_eq_true rfl, Nat.le_of_ble_eq_true rfl⟩) (ro_preV 11 0 hK hP rfl rfl) rfl rfl hl.1 rfl (lv_room (Nat.le_of_ble_eq_true rfl)) dX11_work_6 ⟨Nat.zero_le _, Nat.zero_le _⟩) hS hP (fun r_1 H locs wr_1 hP hS => ?_)
  obtain rfl := wr_1
  refine lv_if_ne (tgt := 15) hx hb dX11_work_9 (by decide) (fun c_2 => ?_) (fun c_2 => ?_)
  · exact absurd c_2 (by decide)
  · refine lv_bipush (v := (-2)) hx hb dX11_work_12 (by decide) ?_
    exact W.iret (v := (-2)) hx hb hr (fun t ht hW => ⟨⟨(-2), (), rfl, rfl, trivial⟩, hS.F ht⟩) hS.2.2 dX11_work_14

set_option maxHeartbeats 4000000 in
set_option maxRecDepth 100000 in
theorem c_X11_works (l : Launch) (G : va_G) (ct : Nat → ClassId) (b : Nat → Nat) (p0 : Int32)  : Met l yX11_works wsX11_works ({ frames := 5, cells := 0, slots := 0, locals := 111 }) (va_Pc [.ref (b 0), .int p0] (wrP G ct (mF b ct))) (va_Qi (fun (r : Int32) (u : Unit) => r = (-2)) (fun _ _ => True) (aset (mF b ct))) 0 0 (aset (mF b ct)) := by
  refine Met.ofW (cc := cX11_works) (maxL := 7) (ret := (some .int)) (by decide) rfl ?_
  intro p e s m args below meth c s₁ B hml hv
  obtain ⟨rfl, hP, hK, hD0⟩ := hv
  have hx := B.exec
  have hb := B.bytes
  have hr := B.returns
  have hts := atoms_spec (ws := wsX11_works) B.pre
  have hown : s.vm.findClass RX11 = some m.cls := findClass_of_methodNamed B.named
  have hlocks := B.notSynchronized
  have hD := hD0.aself
  generalize hAe : aset (mF b ct) = A at hD ⊢
  have hS : va_S A s.heap s.heap [] := va_S.rf
  have hl := lv_entry ([.ref (b 0), .int p0]) (n := 7) (Nat.le_of_ble_eq_true rfl)
  rw [lg_entry_eq]
  generalize (lg_sl ([.ref (b 0), .int p0]) ++ List.replicate (7 - (lg_sl ([.ref (b 0), .int p0])).length) Slot.unset).toArray = ls at hl ⊢
  have hl : lv_has ls 7 [(0, .ref (b 0)), (1, .int p0)] := hl
  refine lv_aload_n hx hb dX11_works_0 rfl (lv_at hl 0 rfl) ?_
  refine lv_iconst (v := 0) hx hb dX11_works_1 (by decide) ?_
  refine va_put (D := G) (ci := 11) (v := .int 0) (ty := .int) (C := RX11) (T := TX11) (N := 31) hx hb hts (by decide +kernel) tyX11 tyX11_ok nmX11 hown hK.1 hP hD hS 0 rfl rfl 0 (by decide) (hts (.fieldLink RX11 59 "CardHolderModel" "thrown" "I") (by decide +kernel)) (fun _ h9 => h9) rfl (by decide +kernel) rfl rfl (Nat.le_of_ble_eq_true rfl) dX11_works_2 (fun H locs hP hD hS => ?_)
  have hP : va_P G vwCl (mF b ct) H := hP
  have hD : va_D A (mF b ct) := hD
  refine lv_aload_n hx hb dX11_works_5 rfl (lv_at hl 0 rfl) ?_
  refine lv_iload_n hx hb dX11_works_6 rfl (lv_at hl 1 rfl) ?_
  refine lv_i2l hx hb dX11_works_7 rfl ?_
  refine ro_calli (va_runV (As := [.long p0.toInt64]) (rest := []) ⟨hx, hb, hml, hown, hts⟩ (c_X11_isPerson l G ct b p0.toInt64) (cwV 1 hts gX11_works_X11_isPerson rfl rfl rfl (by decide +kernel) ⟨Nat.le_of_ble_eq_true rfl, Nat.le_of_ble_eq_true rfl⟩) (ro_preV 11 0 hK hP rfl rfl) rfl rfl hl.1 rfl (lv_room (Nat.le_of_ble_eq_true rfl)) dX11_works_8 ⟨Nat.zero_le _, Nat.zero_le _⟩) hS hP (fun r_1 H locs wr_1 hP hS => ?_)
  obtain rfl := wr_1
  refine lv_if_ne (tgt := 17) hx hb dX11_works_11 (by decide) (fun c_2 => ?_) (fun c_2 => ?_)
  · exact absurd c_2 (by decide)
  · refine lv_bipush (v := (-2)) hx hb dX11_works_14 (by decide) ?_
    exact W.iret (v := (-2)) hx hb hr (fun t ht hW => ⟨⟨(-2), (), rfl, rfl, trivial⟩, hS.F ht⟩) hS.2.2 dX11_works_16

set_option maxHeartbeats 4000000 in
set_option maxRecDepth 100000 in
theorem c_X11_cover (l : Launch) (G : va_G) (ct : Nat → ClassId) (b : Nat → Nat) (p0 : Int32)  : Met l yX11_cover wsX11_cover ({ frames := 6, cells := 0, slots := 0, locals := 134 }) (va_Pc [.ref (b 0), .int p0] (wrP G ct (mF b ct))) (va_Qi (fun (r : Int32) (u : Unit) => r = (-2)) (fun _ _ => True) (aset (mF b ct))) 0 0 (aset (mF b ct)) := by
  refine Met.ofW (cc := cX11_cover) (maxL := 3) (ret := (some .int)) (by decide) rfl ?_
  intro p e s m args below meth c s₁ B hml hv
  obtain ⟨rfl, hP, hK, hD0⟩ := hv
  have hx := B.exec
  have hb := B.bytes
  have hr := B.returns
  have hts := atoms_spec (ws := wsX11_cover) B.pre
  have hown : s.vm.findClass RX11 = some m.cls := findClass_of_methodNamed B.named
  have hlocks := B.notSynchronized
  have hD := hD0.aself
  generalize hAe : aset (mF b ct) = A at hD ⊢
  have hS : va_S A s.heap s.heap [] := va_S.rf
  have hl := lv_entry ([.ref (b 0), .int p0]) (n := 3) (Nat.le_of_ble_eq_true rfl)
  rw [lg_entry_eq]
  generalize (lg_sl ([.ref (b 0), .int p0]) ++ List.replicate (3 - (lg_sl ([.ref (b 0), .int p0])).length) Slot.unset).toArray = ls at hl ⊢
  have hl : lv_has ls 3 [(0, .ref (b 0)), (1, .int p0)] := hl
  refine lv_aload_n hx hb dX11_cover_0 rfl (lv_at hl 0 rfl) ?_
  refine lv_iconst (v := 0) hx hb dX11_cover_1 (by decide) ?_
  refine va_put (D := G) (ci := 11) (v := .int 0) (ty := .int) (C := RX11) (T := TX11) (N := 31) hx hb hts (by decide +kernel) tyX11 tyX11_ok nmX11 hown hK.1 hP hD hS 0 rfl rfl 0 (by decide) (hts (.fieldLink RX11 59 "CardHolderModel" "thrown" "I") (by decide +kernel)) (fun _ h9 => h9) rfl (by decide +kernel) rfl rfl (Nat.le_of_ble_eq_true rfl) dX11_cover_2 (fun H locs hP hD hS => ?_)
  have hP : va_P G vwCl (mF b ct) H := hP
  have hD : va_D A (mF b ct) := hD
  refine lv_aload_n hx hb dX11_cover_5 rfl (lv_at hl 0 rfl) ?_
  refine lv_iload_n hx hb dX11_cover_6 rfl (lv_at hl 1 rfl) ?_
  refine ro_calli (va_runV (As := [.int p0]) (rest := []) ⟨hx, hb, hml, hown, hts⟩ (c_X11_areDeeds l G ct b p0) (cwV 1 hts gX11_cover_X11_areDeeds rfl rfl rfl (by decide +kernel) ⟨Nat.le_of_ble_eq_true rfl, Nat.le_of_ble_eq_true rfl⟩) (ro_preV 11 0 hK hP rfl rfl) rfl rfl hl.1 rfl (lv_room (Nat.le_of_ble_eq_true rfl)) dX11_cover_7 ⟨Nat.zero_le _, Nat.zero_le _⟩) hS hP (fun r_1 H locs wr_1 hP hS => ?_)
  obtain rfl := wr_1
  refine lv_if_ne (tgt := 16) hx hb dX11_cover_10 (by decide) (fun c_2 => ?_) (fun c_2 => ?_)
  · exact absurd c_2 (by decide)
  · refine lv_bipush (v := (-2)) hx hb dX11_cover_13 (by decide) ?_
    exact W.iret (v := (-2)) hx hb hr (fun t ht hW => ⟨⟨(-2), (), rfl, rfl, trivial⟩, hS.F ht⟩) hS.2.2 dX11_cover_15

set_option maxHeartbeats 4000000 in
set_option maxRecDepth 100000 in
theorem c_X11_covers (l : Launch) (G : va_G) (ct : Nat → ClassId) (b : Nat → Nat) (p0 : Int32)  : Met l yX11_covers wsX11_covers ({ frames := 6, cells := 0, slots := 0, locals := 134 }) (va_Pc [.ref (b 0), .int p0] (wrP G ct (mF b ct))) (va_Qi (fun (r : Int32) (u : Unit) => r = (-2)) (fun _ _ => True) (aset (mF b ct))) 0 0 (aset (mF b ct)) := by
  refine Met.ofW (cc := cX11_covers) (maxL := 2) (ret := (some .int)) (by decide) rfl ?_
  intro p e s m args below meth c s₁ B hml hv
  obtain ⟨rfl, hP, hK, hD0⟩ := hv
  have hx := B.exec
  have hb := B.bytes
  have hr := B.returns
  have hts := atoms_spec (ws := wsX11_covers) B.pre
  have hown : s.vm.findClass RX11 = some m.cls := findClass_of_methodNamed B.named
  have hlocks := B.notSynchronized
  have hD := hD0.aself
  generalize hAe : aset (mF b ct) = A at hD ⊢
  have hS : va_S A s.heap s.heap [] := va_S.rf
  have hl := lv_entry ([.ref (b 0), .int p0]) (n := 2) (Nat.le_of_ble_eq_true rfl)
  rw [lg_entry_eq]
  generalize (lg_sl ([.ref (b 0), .int p0]) ++ List.replicate (2 - (lg_sl ([.ref (b 0), .int p0])).length) Slot.unset).toArray = ls at hl ⊢
  have hl : lv_has ls 2 [(0, .ref (b 0)), (1, .int p0)] := hl
  refine lv_aload_n hx hb dX11_covers_0 rfl (lv_at hl 0 rfl) ?_
  refine lv_iconst (v := 0) hx hb dX11_covers_1 (by decide) ?_
  refine va_put (D := G) (ci := 11) (v := .int 0) (ty := .int) (C := RX11) (T := TX11) (N := 31) hx hb hts (by decide +kernel) tyX11 tyX11_ok nmX11 hown hK.1 hP hD hS 0 rfl rfl 0 (by decide) (hts (.fieldLink RX11 59 "CardHolderModel" "thrown" "I") (by decide +kernel)) (fun _ h9 => h9) rfl (by decide +kernel) rfl rfl (Nat.le_of_ble_eq_true rfl) dX11_covers_2 (fun H locs hP hD hS => ?_)
  have hP : va_P G vwCl (mF b ct) H := hP
  have hD : va_D A (mF b ct) := hD
  refine lv_aload_n hx hb dX11_covers_5 rfl (lv_at hl 0 rfl) ?_
  refine lv_iload_n hx hb dX11_covers_6 rfl (lv_at hl 1 rfl) ?_
  refine ro_calli (va_runV (As := [.int p0]) (rest := []) ⟨hx, hb, hml, hown, hts⟩ (c_X11_areDeeds l G ct b p0) (cwV 1 hts gX11_covers_X11_areDeeds rfl rfl rfl (by decide +kernel) ⟨Nat.le_of_ble_eq_true rfl, Nat.le_of_ble_eq_true rfl⟩) (ro_preV 11 0 hK hP rfl rfl) rfl rfl hl.1 rfl (lv_room (Nat.le_of_ble_eq_true rfl)) dX11_covers_7 ⟨Nat.zero_le _, Nat.zero_le _⟩) hS hP (fun r_1 H locs wr_1 hP hS => ?_)
  obtain rfl := wr_1
  refine lv_if_eq (tgt := 21) hx hb dX11_covers_10 (by decide) (fun c_2 => ?_) (fun c_2 => ?_)
  · refine lv_bipush (v := (-2)) hx hb dX11_covers_21 (by decide) ?_
    exact W.iret (v := (-2)) hx hb hr (fun t ht hW => ⟨⟨(-2), (), rfl, rfl, trivial⟩, hS.F ht⟩) hS.2.2 dX11_covers_23
  · exact absurd c_2 (by decide)

set_option maxHeartbeats 4000000 in
set_option maxRecDepth 100000 in
theorem c_X11_buy (l : Launch) (G : va_G) (ct : Nat → ClassId) (b : Nat → Nat) (p0 : Int32)  : Met l yX11_buy wsX11_buy ({ frames := 3, cells := 0, slots := 0, locals := 68 }) (va_Pc [.ref (b 0), .int p0] (wrP G ct (mF b ct))) (va_Qi (fun (r : Int32) (u : Unit) => r = (-2)) (fun _ _ => True) (aset (mF b ct))) 0 0 (aset (mF b ct)) := by
  refine Met.ofW (cc := cX11_buy) (maxL := 3) (ret := (some .int)) (by decide) rfl ?_
  intro p e s m args below meth c s₁ B hml hv
  obtain ⟨rfl, hP, hK, hD0⟩ := hv
  have hx := B.exec
  have hb := B.bytes
  have hr := B.returns
  have hts := atoms_spec (ws := wsX11_buy) B.pre
  have hown : s.vm.findClass RX11 = some m.cls := findClass_of_methodNamed B.named
  have hlocks := B.notSynchronized
  have hD := hD0.aself
  generalize hAe : aset (mF b ct) = A at hD ⊢
  have hS : va_S A s.heap s.heap [] := va_S.rf
  have hl := lv_entry ([.ref (b 0), .int p0]) (n := 3) (Nat.le_of_ble_eq_true rfl)
  rw [lg_entry_eq]
  generalize (lg_sl ([.ref (b 0), .int p0]) ++ List.replicate (3 - (lg_sl ([.ref (b 0), .int p0])).length) Slot.unset).toArray = ls at hl ⊢
  have hl : lv_has ls 3 [(0, .ref (b 0)), (1, .int p0)] := hl
  refine lv_aload_n hx hb dX11_buy_0 rfl (lv_at hl 0 rfl) ?_
  refine lv_iconst (v := 0) hx hb dX11_buy_1 (by decide) ?_
  refine va_put (D := G) (ci := 11) (v := .int 0) (ty := .int) (C := RX11) (T := TX11) (N := 31) hx hb hts (by decide +kernel) tyX11 tyX11_ok nmX11 hown hK.1 hP hD hS 0 rfl rfl 0 (by decide) (hts (.fieldLink RX11 59 "CardHolderModel" "thrown" "I") (by decide +kernel)) (fun _ h9 => h9) rfl (by decide +kernel) rfl rfl (Nat.le_of_ble_eq_true rfl) dX11_buy_2 (fun H locs hP hD hS => ?_)
  have hP : va_P G vwCl (mF b ct) H := hP
  have hD : va_D A (mF b ct) := hD
  refine lv_aload_n hx hb dX11_buy_5 rfl (lv_at hl 0 rfl) ?_
  refine lv_iload_n hx hb dX11_buy_6 rfl (lv_at hl 1 rfl) ?_
  refine ro_calli (va_runV (As := [.int p0]) (rest := []) ⟨hx, hb, hml, hown, hts⟩ (c_X11_areDeeds l G ct b p0) (cwV 1 hts gX11_buy_X11_areDeeds rfl rfl rfl (by decide +kernel) ⟨Nat.le_of_ble_eq_true rfl, Nat.le_of_ble_eq_true rfl⟩) (ro_preV 11 0 hK hP rfl rfl) rfl rfl hl.1 rfl (lv_room (Nat.le_of_ble_eq_true rfl)) dX11_buy_7 ⟨Nat.zero_le _, Nat.zero_le _⟩) hS hP (fun r_1 H locs wr_1 hP hS => ?_)
  obtain rfl := wr_1
  refine lv_if_ne (tgt := 16) hx hb dX11_buy_10 (by decide) (fun c_2 => ?_) (fun c_2 => ?_)
  · exact absurd c_2 (by decide)
  · refine lv_bipush (v := (-2)) hx hb dX11_buy_13 (by decide) ?_
    exact W.iret (v := (-2)) hx hb hr (fun t ht hW => ⟨⟨(-2), (), rfl, rfl, trivial⟩, hS.F ht⟩) hS.2.2 dX11_buy_15

set_option maxHeartbeats 4000000 in
set_option maxRecDepth 100000 in
theorem c_X11_bought (l : Launch) (G : va_G) (ct : Nat → ClassId) (b : Nat → Nat) (p0 : Int32)  : Met l yX11_bought wsX11_bought ({ frames := 3, cells := 0, slots := 0, locals := 68 }) (va_Pc [.ref (b 0), .int p0] (wrP G ct (mF b ct))) (va_Qi (fun (r : Int32) (u : Unit) => r = (-2)) (fun _ _ => True) (aset (mF b ct))) 0 0 (aset (mF b ct)) := by
  refine Met.ofW (cc := cX11_bought) (maxL := 2) (ret := (some .int)) (by decide) rfl ?_
  intro p e s m args below meth c s₁ B hml hv
  obtain ⟨rfl, hP, hK, hD0⟩ := hv
  have hx := B.exec
  have hb := B.bytes
  have hr := B.returns
  have hts := atoms_spec (ws := wsX11_bought) B.pre
  have hown : s.vm.findClass RX11 = some m.cls := findClass_of_methodNamed B.named
  have hlocks := B.notSynchronized
  have hD := hD0.aself
  generalize hAe : aset (mF b ct) = A at hD ⊢
  have hS : va_S A s.heap s.heap [] := va_S.rf
  have hl := lv_entry ([.ref (b 0), .int p0]) (n := 2) (Nat.le_of_ble_eq_true rfl)
  rw [lg_entry_eq]
  generalize (lg_sl ([.ref (b 0), .int p0]) ++ List.replicate (2 - (lg_sl ([.ref (b 0), .int p0])).length) Slot.unset).toArray = ls at hl ⊢
  have hl : lv_has ls 2 [(0, .ref (b 0)), (1, .int p0)] := hl
  refine lv_aload_n hx hb dX11_bought_0 rfl (lv_at hl 0 rfl) ?_
  refine lv_iconst (v := 0) hx hb dX11_bought_1 (by decide) ?_
  refine va_put (D := G) (ci := 11) (v := .int 0) (ty := .int) (C := RX11) (T := TX11) (N := 31) hx hb hts (by decide +kernel) tyX11 tyX11_ok nmX11 hown hK.1 hP hD hS 0 rfl rfl 0 (by decide) (hts (.fieldLink RX11 59 "CardHolderModel" "thrown" "I") (by decide +kernel)) (fun _ h9 => h9) rfl (by decide +kernel) rfl rfl (Nat.le_of_ble_eq_true rfl) dX11_bought_2 (fun H locs hP hD hS => ?_)
  have hP : va_P G vwCl (mF b ct) H := hP
  have hD : va_D A (mF b ct) := hD
  refine lv_aload_n hx hb dX11_bought_5 rfl (lv_at hl 0 rfl) ?_
  refine lv_iload_n hx hb dX11_bought_6 rfl (lv_at hl 1 rfl) ?_
  refine ro_calli (va_runV (As := [.int p0]) (rest := []) ⟨hx, hb, hml, hown, hts⟩ (c_X11_areDeeds l G ct b p0) (cwV 1 hts gX11_bought_X11_areDeeds rfl rfl rfl (by decide +kernel) ⟨Nat.le_of_ble_eq_true rfl, Nat.le_of_ble_eq_true rfl⟩) (ro_preV 11 0 hK hP rfl rfl) rfl rfl hl.1 rfl (lv_room (Nat.le_of_ble_eq_true rfl)) dX11_bought_7 ⟨Nat.zero_le _, Nat.zero_le _⟩) hS hP (fun r_1 H locs wr_1 hP hS => ?_)
  obtain rfl := wr_1
  refine lv_if_eq (tgt := 21) hx hb dX11_bought_10 (by decide) (fun c_2 => ?_) (fun c_2 => ?_)
  · refine lv_bipush (v := (-2)) hx hb dX11_bought_21 (by decide) ?_
    exact W.iret (v := (-2)) hx hb hr (fun t ht hW => ⟨⟨(-2), (), rfl, rfl, trivial⟩, hS.F ht⟩) hS.2.2 dX11_bought_23
  · exact absurd c_2 (by decide)

set_option maxHeartbeats 4000000 in
set_option maxRecDepth 100000 in
theorem c_X11_deeds (l : Launch) (G : va_G) (ct : Nat → ClassId) (b : Nat → Nat) (p0 : Int32)  : Met l yX11_deeds wsX11_deeds ({ frames := 3, cells := 0, slots := 0, locals := 68 }) (va_Pc [.ref (b 0), .int p0] (wrP G ct (mF b ct))) (va_Qi (fun (r : Int32) (u : Unit) => r = (-2)) (fun _ _ => True) (aset (mF b ct))) 0 0 (aset (mF b ct)) := by
  refine Met.ofW (cc := cX11_deeds) (maxL := 2) (ret := (some .int)) (by decide) rfl ?_
  intro p e s m args below meth c s₁ B hml hv
  obtain ⟨rfl, hP, hK, hD0⟩ := hv
  have hx := B.exec
  have hb := B.bytes
  have hr := B.returns
  have hts := atoms_spec (ws := wsX11_deeds) B.pre
  have hown : s.vm.findClass RX11 = some m.cls := findClass_of_methodNamed B.named
  have hlocks := B.notSynchronized
  have hD := hD0.aself
  generalize hAe : aset (mF b ct) = A at hD ⊢
  have hS : va_S A s.heap s.heap [] := va_S.rf
  have hl := lv_entry ([.ref (b 0), .int p0]) (n := 2) (Nat.le_of_ble_eq_true rfl)
  rw [lg_entry_eq]
  generalize (lg_sl ([.ref (b 0), .int p0]) ++ List.replicate (2 - (lg_sl ([.ref (b 0), .int p0])).length) Slot.unset).toArray = ls at hl ⊢
  have hl : lv_has ls 2 [(0, .ref (b 0)), (1, .int p0)] := hl
  refine lv_aload_n hx hb dX11_deeds_0 rfl (lv_at hl 0 rfl) ?_
  refine lv_iconst (v := 0) hx hb dX11_deeds_1 (by decide) ?_
  refine va_put (D := G) (ci := 11) (v := .int 0) (ty := .int) (C := RX11) (T := TX11) (N := 31) hx hb hts (by decide +kernel) tyX11 tyX11_ok nmX11 hown hK.1 hP hD hS 0 rfl rfl 0 (by decide) (hts (.fieldLink RX11 59 "CardHolderModel" "thrown" "I") (by decide +kernel)) (fun _ h9 => h9) rfl (by decide +kernel) rfl rfl (Nat.le_of_ble_eq_true rfl) dX11_deeds_2 (fun H locs hP hD hS => ?_)
  have hP : va_P G vwCl (mF b ct) H := hP
  have hD : va_D A (mF b ct) := hD
  refine lv_aload_n hx hb dX11_deeds_5 rfl (lv_at hl 0 rfl) ?_
  refine ro_calli (va_runV (As := []) (rest := []) ⟨hx, hb, hml, hown, hts⟩ (c_X11_isCity l G ct b) (cwV 0 hts gX11_deeds_X11_isCity rfl rfl rfl (by decide +kernel) ⟨Nat.le_of_ble_eq_true rfl, Nat.le_of_ble_eq_true rfl⟩) (ro_preV 11 0 hK hP rfl rfl) rfl rfl hl.1 rfl (lv_room (Nat.le_of_ble_eq_true rfl)) dX11_deeds_6 ⟨Nat.zero_le _, Nat.zero_le _⟩) hS hP (fun r_1 H locs wr_1 hP hS => ?_)
  obtain rfl := wr_1
  refine lv_if_eq (tgt := 39) hx hb dX11_deeds_9 (by decide) (fun c_2 => ?_) (fun c_2 => ?_)
  · refine lv_bipush (v := (-2)) hx hb dX11_deeds_39 (by decide) ?_
    exact W.iret (v := (-2)) hx hb hr (fun t ht hW => ⟨⟨(-2), (), rfl, rfl, trivial⟩, hS.F ht⟩) hS.2.2 dX11_deeds_41
  · exact absurd c_2 (by decide)

set_option maxHeartbeats 4000000 in
set_option maxRecDepth 100000 in
theorem c_X11_hired (l : Launch) (G : va_G) (ct : Nat → ClassId) (b : Nat → Nat) (p0 : Int32)  : Met l yX11_hired wsX11_hired ({ frames := 3, cells := 0, slots := 0, locals := 68 }) (va_Pc [.ref (b 0), .int p0] (wrP G ct (mF b ct))) (va_Qi (fun (r : Int32) (u : Unit) => r = (-2)) (fun _ _ => True) (aset (mF b ct))) 0 0 (aset (mF b ct)) := by
  refine Met.ofW (cc := cX11_hired) (maxL := 2) (ret := (some .int)) (by decide) rfl ?_
  intro p e s m args below meth c s₁ B hml hv
  obtain ⟨rfl, hP, hK, hD0⟩ := hv
  have hx := B.exec
  have hb := B.bytes
  have hr := B.returns
  have hts := atoms_spec (ws := wsX11_hired) B.pre
  have hown : s.vm.findClass RX11 = some m.cls := findClass_of_methodNamed B.named
  have hlocks := B.notSynchronized
  have hD := hD0.aself
  generalize hAe : aset (mF b ct) = A at hD ⊢
  have hS : va_S A s.heap s.heap [] := va_S.rf
  have hl := lv_entry ([.ref (b 0), .int p0]) (n := 2) (Nat.le_of_ble_eq_true rfl)
  rw [lg_entry_eq]
  generalize (lg_sl ([.ref (b 0), .int p0]) ++ List.replicate (2 - (lg_sl ([.ref (b 0), .int p0])).length) Slot.unset).toArray = ls at hl ⊢
  have hl : lv_has ls 2 [(0, .ref (b 0)), (1, .int p0)] := hl
  refine lv_aload_n hx hb dX11_hired_0 rfl (lv_at hl 0 rfl) ?_
  refine lv_iconst (v := 0) hx hb dX11_hired_1 (by decide) ?_
  refine va_put (D := G) (ci := 11) (v := .int 0) (ty := .int) (C := RX11) (T := TX11) (N := 31) hx hb hts (by decide +kernel) tyX11 tyX11_ok nmX11 hown hK.1 hP hD hS 0 rfl rfl 0 (by decide) (hts (.fieldLink RX11 59 "CardHolderModel" "thrown" "I") (by decide +kernel)) (fun _ h9 => h9) rfl (by decide +kernel) rfl rfl (Nat.le_of_ble_eq_true rfl) dX11_hired_2 (fun H locs hP hD hS => ?_)
  have hP : va_P G vwCl (mF b ct) H := hP
  have hD : va_D A (mF b ct) := hD
  refine lv_aload_n hx hb dX11_hired_5 rfl (lv_at hl 0 rfl) ?_
  refine ro_calli (va_runV (As := []) (rest := []) ⟨hx, hb, hml, hown, hts⟩ (c_X11_isCity l G ct b) (cwV 0 hts gX11_hired_X11_isCity rfl rfl rfl (by decide +kernel) ⟨Nat.le_of_ble_eq_true rfl, Nat.le_of_ble_eq_true rfl⟩) (ro_preV 11 0 hK hP rfl rfl) rfl rfl hl.1 rfl (lv_room (Nat.le_of_ble_eq_true rfl)) dX11_hired_6 ⟨Nat.zero_le _, Nat.zero_le _⟩) hS hP (fun r_1 H locs wr_1 hP hS => ?_)
  obtain rfl := wr_1
  refine lv_if_eq (tgt := 32) hx hb dX11_hired_9 (by decide) (fun c_2 => ?_) (fun c_2 => ?_)
  · refine lv_bipush (v := (-2)) hx hb dX11_hired_32 (by decide) ?_
    exact W.iret (v := (-2)) hx hb hr (fun t ht hW => ⟨⟨(-2), (), rfl, rfl, trivial⟩, hS.F ht⟩) hS.2.2 dX11_hired_34
  · exact absurd c_2 (by decide)

set_option maxHeartbeats 4000000 in
set_option maxRecDepth 100000 in
theorem c_X11_suspects (l : Launch) (G : va_G) (ct : Nat → ClassId) (b : Nat → Nat) (p0 : Int32)  : Met l yX11_suspects wsX11_suspects ({ frames := 3, cells := 0, slots := 0, locals := 68 }) (va_Pc [.ref (b 0), .int p0] (wrP G ct (mF b ct))) (va_Qi (fun (r : Int32) (u : Unit) => r = (-2)) (fun _ _ => True) (aset (mF b ct))) 0 0 (aset (mF b ct)) := by
  refine Met.ofW (cc := cX11_suspects) (maxL := 3) (ret := (some .int)) (by decide) rfl ?_
  intro p e s m args below meth c s₁ B hml hv
  obtain ⟨rfl, hP, hK, hD0⟩ := hv
  have hx := B.exec
  have hb := B.bytes
  have hr := B.returns
  have hts := atoms_spec (ws := wsX11_suspects) B.pre
  have hown : s.vm.findClass RX11 = some m.cls := findClass_of_methodNamed B.named
  have hlocks := B.notSynchronized
  have hD := hD0.aself
  generalize hAe : aset (mF b ct) = A at hD ⊢
  have hS : va_S A s.heap s.heap [] := va_S.rf
  have hl := lv_entry ([.ref (b 0), .int p0]) (n := 3) (Nat.le_of_ble_eq_true rfl)
  rw [lg_entry_eq]
  generalize (lg_sl ([.ref (b 0), .int p0]) ++ List.replicate (3 - (lg_sl ([.ref (b 0), .int p0])).length) Slot.unset).toArray = ls at hl ⊢
  have hl : lv_has ls 3 [(0, .ref (b 0)), (1, .int p0)] := hl
  refine lv_aload_n hx hb dX11_suspects_0 rfl (lv_at hl 0 rfl) ?_
  refine lv_iconst (v := 0) hx hb dX11_suspects_1 (by decide) ?_
  refine va_put (D := G) (ci := 11) (v := .int 0) (ty := .int) (C := RX11) (T := TX11) (N := 31) hx hb hts (by decide +kernel) tyX11 tyX11_ok nmX11 hown hK.1 hP hD hS 0 rfl rfl 0 (by decide) (hts (.fieldLink RX11 59 "CardHolderModel" "thrown" "I") (by decide +kernel)) (fun _ h9 => h9) rfl (by decide +kernel) rfl rfl (Nat.le_of_ble_eq_true rfl) dX11_suspects_2 (fun H locs hP hD hS => ?_)
  have hP : va_P G vwCl (mF b ct) H := hP
  have hD : va_D A (mF b ct) := hD
  refine lv_aload_n hx hb dX11_suspects_5 rfl (lv_at hl 0 rfl) ?_
  refine lv_iload_n hx hb dX11_suspects_6 rfl (lv_at hl 1 rfl) ?_
  refine ro_calli (va_runV (As := [.int p0]) (rest := []) ⟨hx, hb, hml, hown, hts⟩ (c_X11_whyNot l G ct b p0) (cwV 1 hts gX11_suspects_X11_whyNot rfl rfl rfl (by decide +kernel) ⟨Nat.le_of_ble_eq_true rfl, Nat.le_of_ble_eq_true rfl⟩) (ro_preV 11 0 hK hP rfl rfl) rfl rfl hl.1 rfl (lv_room (Nat.le_of_ble_eq_true rfl)) dX11_suspects_7 ⟨Nat.zero_le _, Nat.zero_le _⟩) hS hP (fun r_1 H locs wr_1 hP hS => ?_)
  obtain rfl := wr_1
  refine lv_istore_n (lv' := [(2, .int (-2)), (0, .ref (b 0)), (1, .int p0)]) hx hb dX11_suspects_10 rfl hl (by decide) rfl (fun ls hl => ?_)
  refine lv_iload_n hx hb dX11_suspects_11 rfl (lv_at hl 0 rfl) ?_
  refine lv_if_eq (tgt := 19) hx hb dX11_suspects_12 (by decide) (fun c_2 => ?_) (fun c_2 => ?_)
  · exact absurd c_2 (by decide)
  · refine lv_iload_n hx hb dX11_suspects_15 rfl (lv_at hl 0 rfl) ?_
    refine lv_goto (tgt := 28) hx hb dX11_suspects_16 (by decide) ?_
    exact W.iret (v := (-2)) hx hb hr (fun t ht hW => ⟨⟨(-2), (), rfl, rfl, trivial⟩, hS.F ht⟩) hS.2.2 dX11_suspects_28

set_option maxHeartbeats 4000000 in
set_option maxRecDepth 100000 in
theorem c_X11_watch (l : Launch) (G : va_G) (ct : Nat → ClassId) (b : Nat → Nat) (p0 : Int32)  : Met l yX11_watch wsX11_watch ({ frames := 3, cells := 0, slots := 0, locals := 71 }) (va_Pc [.ref (b 0), .int p0] (wrP G ct (mF b ct))) (va_Qi (fun (r : Int32) (u : Unit) => r = (-2)) (fun _ _ => True) (aset (mF b ct))) 0 0 (aset (mF b ct)) := by
  refine Met.ofW (cc := cX11_watch) (maxL := 3) (ret := (some .int)) (by decide) rfl ?_
  intro p e s m args below meth c s₁ B hml hv
  obtain ⟨rfl, hP, hK, hD0⟩ := hv
  have hx := B.exec
  have hb := B.bytes
  have hr := B.returns
  have hts := atoms_spec (ws := wsX11_watch) B.pre
  have hown : s.vm.findClass RX11 = some m.cls := findClass_of_methodNamed B.named
  have hlocks := B.notSynchronized
  have hD := hD0.aself
  generalize hAe : aset (mF b ct) = A at hD ⊢
  have hS : va_S A s.heap s.heap [] := va_S.rf
  have hl := lv_entry ([.ref (b 0), .int p0]) (n := 3) (Nat.le_of_ble_eq_true rfl)
  rw [lg_entry_eq]
  generalize (lg_sl ([.ref (b 0), .int p0]) ++ List.replicate (3 - (lg_sl ([.ref (b 0), .int p0])).length) Slot.unset).toArray = ls at hl ⊢
  have hl : lv_has ls 3 [(0, .ref (b 0)), (1, .int p0)] := hl
  refine lv_aload_n hx hb dX11_watch_0 rfl (lv_at hl 0 rfl) ?_
  refine lv_iconst (v := 0) hx hb dX11_watch_1 (by decide) ?_
  refine va_put (D := G) (ci := 11) (v := .int 0) (ty := .int) (C := RX11) (T := TX11) (N := 31) hx hb hts (by decide +kernel) tyX11 tyX11_ok nmX11 hown hK.1 hP hD hS 0 rfl rfl 0 (by decide) (hts (.fieldLink RX11 59 "CardHolderModel" "thrown" "I") (by decide +kernel)) (fun _ h9 => h9) rfl (by decide +kernel) rfl rfl (Nat.le_of_ble_eq_true rfl) dX11_watch_2 (fun H locs hP hD hS => ?_)
  have hP : va_P G vwCl (mF b ct) H := hP
  have hD : va_D A (mF b ct) := hD
  refine lv_aload_n hx hb dX11_watch_5 rfl (lv_at hl 0 rfl) ?_
  refine lv_iload_n hx hb dX11_watch_6 rfl (lv_at hl 1 rfl) ?_
  refine ro_calli (va_runV (As := [.int p0]) (rest := []) ⟨hx, hb, hml, hown, hts⟩ (c_X11_whyNot l G ct b p0) (cwV 1 hts gX11_watch_X11_whyNot rfl rfl rfl (by decide +kernel) ⟨Nat.le_of_ble_eq_true rfl, Nat.le_of_ble_eq_true rfl⟩) (ro_preV 11 0 hK hP rfl rfl) rfl rfl hl.1 rfl (lv_room (Nat.le_of_ble_eq_true rfl)) dX11_watch_7 ⟨Nat.zero_le _, Nat.zero_le _⟩) hS hP (fun r_1 H locs wr_1 hP hS => ?_)
  obtain rfl := wr_1
  refine lv_istore_n (lv' := [(2, .int (-2)), (0, .ref (b 0)), (1, .int p0)]) hx hb dX11_watch_10 rfl hl (by decide) rfl (fun ls hl => ?_)
  refine lv_iload_n hx hb dX11_watch_11 rfl (lv_at hl 0 rfl) ?_
  refine lv_if_eq (tgt := 17) hx hb dX11_watch_12 (by decide) (fun c_2 => ?_) (fun c_2 => ?_)
  · exact absurd c_2 (by decide)
  · refine lv_iload_n hx hb dX11_watch_15 rfl (lv_at hl 0 rfl) ?_
    exact W.iret (v := (-2)) hx hb hr (fun t ht hW => ⟨⟨(-2), (), rfl, rfl, trivial⟩, hS.F ht⟩) hS.2.2 dX11_watch_16

set_option maxHeartbeats 4000000 in
set_option maxRecDepth 100000 in
theorem c_X11_leaves (l : Launch) (G : va_G) (ct : Nat → ClassId) (b : Nat → Nat) (p0 : Int32)  : Met l yX11_leaves wsX11_leaves ({ frames := 3, cells := 0, slots := 0, locals := 71 }) (va_Pc [.ref (b 0), .int p0] (wrP G ct (mF b ct))) (va_Qi (fun (r : Int32) (u : Unit) => r = (-2)) (fun _ _ => True) (aset (mF b ct))) 0 0 (aset (mF b ct)) := by
  refine Met.ofW (cc := cX11_leaves) (maxL := 3) (ret := (some .int)) (by decide) rfl ?_
  intro p e s m args below meth c s₁ B hml hv
  obtain ⟨rfl, hP, hK, hD0⟩ := hv
  have hx := B.exec
  have hb := B.bytes
  have hr := B.returns
  have hts := atoms_spec (ws := wsX11_leaves) B.pre
  have hown : s.vm.findClass RX11 = some m.cls := findClass_of_methodNamed B.named
  have hlocks := B.notSynchronized
  have hD := hD0.aself
  generalize hAe : aset (mF b ct) = A at hD ⊢
  have hS : va_S A s.heap s.heap [] := va_S.rf
  have hl := lv_entry ([.ref (b 0), .int p0]) (n := 3) (Nat.le_of_ble_eq_true rfl)
  rw [lg_entry_eq]
  generalize (lg_sl ([.ref (b 0), .int p0]) ++ List.replicate (3 - (lg_sl ([.ref (b 0), .int p0])).length) Slot.unset).toArray = ls at hl ⊢
  have hl : lv_has ls 3 [(0, .ref (b 0)), (1, .int p0)] := hl
  refine lv_aload_n hx hb dX11_leaves_0 rfl (lv_at hl 0 rfl) ?_
  refine lv_iconst (v := 0) hx hb dX11_leaves_1 (by decide) ?_
  refine va_put (D := G) (ci := 11) (v := .int 0) (ty := .int) (C := RX11) (T := TX11) (N := 31) hx hb hts (by decide +kernel) tyX11 tyX11_ok nmX11 hown hK.1 hP hD hS 0 rfl rfl 0 (by decide) (hts (.fieldLink RX11 59 "CardHolderModel" "thrown" "I") (by decide +kernel)) (fun _ h9 => h9) rfl (by decide +kernel) rfl rfl (Nat.le_of_ble_eq_true rfl) dX11_leaves_2 (fun H locs hP hD hS => ?_)
  have hP : va_P G vwCl (mF b ct) H := hP
  have hD : va_D A (mF b ct) := hD
  refine lv_aload_n hx hb dX11_leaves_5 rfl (lv_at hl 0 rfl) ?_
  refine lv_iload_n hx hb dX11_leaves_6 rfl (lv_at hl 1 rfl) ?_
  refine ro_calli (va_runV (As := [.int p0]) (rest := []) ⟨hx, hb, hml, hown, hts⟩ (c_X11_whyNot l G ct b p0) (cwV 1 hts gX11_leaves_X11_whyNot rfl rfl rfl (by decide +kernel) ⟨Nat.le_of_ble_eq_true rfl, Nat.le_of_ble_eq_true rfl⟩) (ro_preV 11 0 hK hP rfl rfl) rfl rfl hl.1 rfl (lv_room (Nat.le_of_ble_eq_true rfl)) dX11_leaves_7 ⟨Nat.zero_le _, Nat.zero_le _⟩) hS hP (fun r_1 H locs wr_1 hP hS => ?_)
  obtain rfl := wr_1
  refine lv_istore_n (lv' := [(2, .int (-2)), (0, .ref (b 0)), (1, .int p0)]) hx hb dX11_leaves_10 rfl hl (by decide) rfl (fun ls hl => ?_)
  refine lv_iload_n hx hb dX11_leaves_11 rfl (lv_at hl 0 rfl) ?_
  refine lv_if_eq (tgt := 17) hx hb dX11_leaves_12 (by decide) (fun c_2 => ?_) (fun c_2 => ?_)
  · exact absurd c_2 (by decide)
  · refine lv_iload_n hx hb dX11_leaves_15 rfl (lv_at hl 0 rfl) ?_
    exact W.iret (v := (-2)) hx hb hr (fun t ht hW => ⟨⟨(-2), (), rfl, rfl, trivial⟩, hS.F ht⟩) hS.2.2 dX11_leaves_16

set_option maxHeartbeats 4000000 in
set_option maxRecDepth 100000 in
theorem c_X11_proof (l : Launch) (G : va_G) (ct : Nat → ClassId) (b : Nat → Nat) (p0 : Int32)  : Met l yX11_proof wsX11_proof ({ frames := 3, cells := 0, slots := 0, locals := 68 }) (va_Pc [.ref (b 0), .int p0] (wrP G ct (mF b ct))) (va_Qi (fun (r : Int32) (u : Unit) => r = (-2)) (fun _ _ => True) (aset (mF b ct))) 0 0 (aset (mF b ct)) := by
  refine Met.ofW (cc := cX11_proof) (maxL := 6) (ret := (some .int)) (by decide) rfl ?_
  intro p e s m args below meth c s₁ B hml hv
  obtain ⟨rfl, hP, hK, hD0⟩ := hv
  have hx := B.exec
  have hb := B.bytes
  have hr := B.returns
  have hts := atoms_spec (ws := wsX11_proof) B.pre
  have hown : s.vm.findClass RX11 = some m.cls := findClass_of_methodNamed B.named
  have hlocks := B.notSynchronized
  have hD := hD0.aself
  generalize hAe : aset (mF b ct) = A at hD ⊢
  have hS : va_S A s.heap s.heap [] := va_S.rf
  have hl := lv_entry ([.ref (b 0), .int p0]) (n := 6) (Nat.le_of_ble_eq_true rfl)
  rw [lg_entry_eq]
  generalize (lg_sl ([.ref (b 0), .int p0]) ++ List.replicate (6 - (lg_sl ([.ref (b 0), .int p0])).length) Slot.unset).toArray = ls at hl ⊢
  have hl : lv_has ls 6 [(0, .ref (b 0)), (1, .int p0)] := hl
  refine lv_aload_n hx hb dX11_proof_0 rfl (lv_at hl 0 rfl) ?_
  refine lv_iconst (v := 0) hx hb dX11_proof_1 (by decide) ?_
  refine va_put (D := G) (ci := 11) (v := .int 0) (ty := .int) (C := RX11) (T := TX11) (N := 31) hx hb hts (by decide +kernel) tyX11 tyX11_ok nmX11 hown hK.1 hP hD hS 0 rfl rfl 0 (by decide) (hts (.fieldLink RX11 59 "CardHolderModel" "thrown" "I") (by decide +kernel)) (fun _ h9 => h9) rfl (by decide +kernel) rfl rfl (Nat.le_of_ble_eq_true rfl) dX11_proof_2 (fun H locs hP hD hS => ?_)
  have hP : va_P G vwCl (mF b ct) H := hP
  have hD : va_D A (mF b ct) := hD
  refine lv_aload_n hx hb dX11_proof_5 rfl (lv_at hl 0 rfl) ?_
  refine lv_iload_n hx hb dX11_proof_6 rfl (lv_at hl 1 rfl) ?_
  refine ro_calli (va_runV (As := [.int p0]) (rest := []) ⟨hx, hb, hml, hown, hts⟩ (c_X11_whyNot l G ct b p0) (cwV 1 hts gX11_proof_X11_whyNot rfl rfl rfl (by decide +kernel) ⟨Nat.le_of_ble_eq_true rfl, Nat.le_of_ble_eq_true rfl⟩) (ro_preV 11 0 hK hP rfl rfl) rfl rfl hl.1 rfl (lv_room (Nat.le_of_ble_eq_true rfl)) dX11_proof_7 ⟨Nat.zero_le _, Nat.zero_le _⟩) hS hP (fun r_1 H locs wr_1 hP hS => ?_)
  obtain rfl := wr_1
  refine lv_istore_n (lv' := [(2, .int (-2)), (0, .ref (b 0)), (1, .int p0)]) hx hb dX11_proof_10 rfl hl (by decide) rfl (fun ls hl => ?_)
  refine lv_iload_n hx hb dX11_proof_11 rfl (lv_at hl 0 rfl) ?_
  refine lv_if_eq (tgt := 17) hx hb dX11_proof_12 (by decide) (fun c_2 => ?_) (fun c_2 => ?_)
  · exact absurd c_2 (by decide)
  · refine lv_iload_n hx hb dX11_proof_15 rfl (lv_at hl 0 rfl) ?_
    exact W.iret (v := (-2)) hx hb hr (fun t ht hW => ⟨⟨(-2), (), rfl, rfl, trivial⟩, hS.F ht⟩) hS.2.2 dX11_proof_16

set_option maxHeartbeats 4000000 in
set_option maxRecDepth 100000 in
theorem c_X11_duel (l : Launch) (G : va_G) (ct : Nat → ClassId) (b : Nat → Nat) (p0 : Int32) (p1 : Int32) (p2 : Int32)  : Met l yX11_duel wsX11_duel ({ frames := 81, cells := 0, slots := 0, locals := 3021 }) (va_Pc [.ref (b 0), .int p0, .int p1, .int p2] (wrP G ct (mF b ct))) (va_Qi (fun (r : Int32) (u : Unit) => r = (-2)) (fun _ _ => True) (aset (mF b ct))) 0 0 (aset (mF b ct)) := by
  refine Met.ofW (cc := cX11_duel) (maxL := 8) (ret := (some .int)) (by decide) rfl ?_
  intro p e s m args below meth c s₁ B hml hv
  obtain ⟨rfl, hP, hK, hD0⟩ := hv
  have hx := B.exec
  have hb := B.bytes
  have hr := B.returns
  have hts := atoms_spec (ws := wsX11_duel) B.pre
  have hown : s.vm.findClass RX11 = some m.cls := findClass_of_methodNamed B.named
  have hlocks := B.notSynchronized
  have hD := hD0.aself
  generalize hAe : aset (mF b ct) = A at hD ⊢
  have hS : va_S A s.heap s.heap [] := va_S.rf
  have hl := lv_entry ([.ref (b 0), .int p0, .int p1, .int p2]) (n := 8) (Nat.le_of_ble_eq_true rfl)
  rw [lg_entry_eq]
  generalize (lg_sl ([.ref (b 0), .int p0, .int p1, .int p2]) ++ List.replicate (8 - (lg_sl ([.ref (b 0), .int p0, .int p1, .int p2])).length) Slot.unset).toArray = ls at hl ⊢
  have hl : lv_has ls 8 [(0, .ref (b 0)), (1, .int p0), (2, .int p1), (3, .int p2)] := hl
  refine lv_aload_n hx hb dX11_duel_0 rfl (lv_at hl 0 rfl) ?_
  refine lv_iconst (v := 0) hx hb dX11_duel_1 (by decide) ?_
  refine va_put (D := G) (ci := 11) (v := .int 0) (ty := .int) (C := RX11) (T := TX11) (N := 31) hx hb hts (by decide +kernel) tyX11 tyX11_ok nmX11 hown hK.1 hP hD hS 0 rfl rfl 0 (by decide) (hts (.fieldLink RX11 59 "CardHolderModel" "thrown" "I") (by decide +kernel)) (fun _ h9 => h9) rfl (by decide +kernel) rfl rfl (Nat.le_of_ble_eq_true rfl) dX11_duel_2 (fun H locs hP hD hS => ?_)
  have hP : va_P G vwCl (mF b ct) H := hP
  have hD : va_D A (mF b ct) := hD
  refine lv_aload_n hx hb dX11_duel_5 rfl (lv_at hl 0 rfl) ?_
  refine lv_iload_n hx hb dX11_duel_6 rfl (lv_at hl 1 rfl) ?_
  refine lv_iload_n hx hb dX11_duel_7 rfl (lv_at hl 2 rfl) ?_
  refine ro_calli (va_runV (As := [.int p0, .int p1]) (rest := []) ⟨hx, hb, hml, hown, hts⟩ (c_X11_isDuel l G ct b p0 p1) (cwV 2 hts gX11_duel_X11_isDuel rfl rfl rfl (by decide +kernel) ⟨Nat.le_of_ble_eq_true rfl, Nat.le_of_ble_eq_true rfl⟩) (ro_preV 11 0 hK hP rfl rfl) rfl rfl hl.1 rfl (lv_room (Nat.le_of_ble_eq_true rfl)) dX11_duel_8 ⟨Nat.zero_le _, Nat.zero_le _⟩) hS hP (fun r_1 H locs wr_1 hP hS => ?_)
  obtain rfl := wr_1
  refine lv_if_eq (tgt := 24) hx hb dX11_duel_11 (by decide) (fun c_2 => ?_) (fun c_2 => ?_)
  · refine lv_bipush (v := (-2)) hx hb dX11_duel_24 (by decide) ?_
    exact W.iret (v := (-2)) hx hb hr (fun t ht hW => ⟨⟨(-2), (), rfl, rfl, trivial⟩, hS.F ht⟩) hS.2.2 dX11_duel_26
  · exact absurd c_2 (by decide)

set_option maxHeartbeats 4000000 in
set_option maxRecDepth 100000 in
theorem c_X11_lays (l : Launch) (G : va_G) (ct : Nat → ClassId) (b : Nat → Nat) (p0 : Int32) (p1 : Int32)  : Met l yX11_lays wsX11_lays ({ frames := 6, cells := 0, slots := 0, locals := 133 }) (va_Pc [.ref (b 0), .int p0, .int p1] (wrP G ct (mF b ct))) (va_Qi (fun (r : Int32) (u : Unit) => r = (-2)) (fun _ _ => True) (aset (mF b ct))) 0 0 (aset (mF b ct)) := by
  refine Met.ofW (cc := cX11_lays) (maxL := 3) (ret := (some .int)) (by decide) rfl ?_
  intro p e s m args below meth c s₁ B hml hv
  obtain ⟨rfl, hP, hK, hD0⟩ := hv
  have hx := B.exec
  have hb := B.bytes
  have hr := B.returns
  have hts := atoms_spec (ws := wsX11_lays) B.pre
  have hown : s.vm.findClass RX11 = some m.cls := findClass_of_methodNamed B.named
  have hlocks := B.notSynchronized
  have hD := hD0.aself
  generalize hAe : aset (mF b ct) = A at hD ⊢
  have hS : va_S A s.heap s.heap [] := va_S.rf
  have hl := lv_entry ([.ref (b 0), .int p0, .int p1]) (n := 3) (Nat.le_of_ble_eq_true rfl)
  rw [lg_entry_eq]
  generalize (lg_sl ([.ref (b 0), .int p0, .int p1]) ++ List.replicate (3 - (lg_sl ([.ref (b 0), .int p0, .int p1])).length) Slot.unset).toArray = ls at hl ⊢
  have hl : lv_has ls 3 [(0, .ref (b 0)), (1, .int p0), (2, .int p1)] := hl
  refine lv_aload_n hx hb dX11_lays_0 rfl (lv_at hl 0 rfl) ?_
  refine lv_iconst (v := 0) hx hb dX11_lays_1 (by decide) ?_
  refine va_put (D := G) (ci := 11) (v := .int 0) (ty := .int) (C := RX11) (T := TX11) (N := 31) hx hb hts (by decide +kernel) tyX11 tyX11_ok nmX11 hown hK.1 hP hD hS 0 rfl rfl 0 (by decide) (hts (.fieldLink RX11 59 "CardHolderModel" "thrown" "I") (by decide +kernel)) (fun _ h9 => h9) rfl (by decide +kernel) rfl rfl (Nat.le_of_ble_eq_true rfl) dX11_lays_2 (fun H locs hP hD hS => ?_)
  have hP : va_P G vwCl (mF b ct) H := hP
  have hD : va_D A (mF b ct) := hD
  refine lv_aload_n hx hb dX11_lays_5 rfl (lv_at hl 0 rfl) ?_
  refine lv_iload_n hx hb dX11_lays_6 rfl (lv_at hl 1 rfl) ?_
  refine lv_iload_n hx hb dX11_lays_7 rfl (lv_at hl 2 rfl) ?_
  refine ro_calli (va_runV (As := [.int p0, .int p1]) (rest := []) ⟨hx, hb, hml, hown, hts⟩ (c_X11_isDuel l G ct b p0 p1) (cwV 2 hts gX11_lays_X11_isDuel rfl rfl rfl (by decide +kernel) ⟨Nat.le_of_ble_eq_true rfl, Nat.le_of_ble_eq_true rfl⟩) (ro_preV 11 0 hK hP rfl rfl) rfl rfl hl.1 rfl (lv_room (Nat.le_of_ble_eq_true rfl)) dX11_lays_8 ⟨Nat.zero_le _, Nat.zero_le _⟩) hS hP (fun r_1 H locs wr_1 hP hS => ?_)
  obtain rfl := wr_1
  refine lv_if_eq (tgt := 23) hx hb dX11_lays_11 (by decide) (fun c_2 => ?_) (fun c_2 => ?_)
  · refine lv_bipush (v := (-2)) hx hb dX11_lays_23 (by decide) ?_
    exact W.iret (v := (-2)) hx hb hr (fun t ht hW => ⟨⟨(-2), (), rfl, rfl, trivial⟩, hS.F ht⟩) hS.2.2 dX11_lays_25
  · exact absurd c_2 (by decide)

set_option maxHeartbeats 4000000 in
set_option maxRecDepth 100000 in
theorem c_X11_reply (l : Launch) (G : va_G) (ct : Nat → ClassId) (b : Nat → Nat) (p0 : Int32) (p1 : Int32)  : Met l yX11_reply wsX11_reply ({ frames := 6, cells := 0, slots := 0, locals := 133 }) (va_Pc [.ref (b 0), .int p0, .int p1] (wrP G ct (mF b ct))) (va_Qi (fun (r : Int32) (u : Unit) => r = (-2)) (fun _ _ => True) (aset (mF b ct))) 0 0 (aset (mF b ct)) := by
  refine Met.ofW (cc := cX11_reply) (maxL := 3) (ret := (some .int)) (by decide) rfl ?_
  intro p e s m args below meth c s₁ B hml hv
  obtain ⟨rfl, hP, hK, hD0⟩ := hv
  have hx := B.exec
  have hb := B.bytes
  have hr := B.returns
  have hts := atoms_spec (ws := wsX11_reply) B.pre
  have hown : s.vm.findClass RX11 = some m.cls := findClass_of_methodNamed B.named
  have hlocks := B.notSynchronized
  have hD := hD0.aself
  generalize hAe : aset (mF b ct) = A at hD ⊢
  have hS : va_S A s.heap s.heap [] := va_S.rf
  have hl := lv_entry ([.ref (b 0), .int p0, .int p1]) (n := 3) (Nat.le_of_ble_eq_true rfl)
  rw [lg_entry_eq]
  generalize (lg_sl ([.ref (b 0), .int p0, .int p1]) ++ List.replicate (3 - (lg_sl ([.ref (b 0), .int p0, .int p1])).length) Slot.unset).toArray = ls at hl ⊢
  have hl : lv_has ls 3 [(0, .ref (b 0)), (1, .int p0), (2, .int p1)] := hl
  refine lv_aload_n hx hb dX11_reply_0 rfl (lv_at hl 0 rfl) ?_
  refine lv_iconst (v := 0) hx hb dX11_reply_1 (by decide) ?_
  refine va_put (D := G) (ci := 11) (v := .int 0) (ty := .int) (C := RX11) (T := TX11) (N := 31) hx hb hts (by decide +kernel) tyX11 tyX11_ok nmX11 hown hK.1 hP hD hS 0 rfl rfl 0 (by decide) (hts (.fieldLink RX11 59 "CardHolderModel" "thrown" "I") (by decide +kernel)) (fun _ h9 => h9) rfl (by decide +kernel) rfl rfl (Nat.le_of_ble_eq_true rfl) dX11_reply_2 (fun H locs hP hD hS => ?_)
  have hP : va_P G vwCl (mF b ct) H := hP
  have hD : va_D A (mF b ct) := hD
  refine lv_aload_n hx hb dX11_reply_5 rfl (lv_at hl 0 rfl) ?_
  refine lv_iload_n hx hb dX11_reply_6 rfl (lv_at hl 1 rfl) ?_
  refine lv_iload_n hx hb dX11_reply_7 rfl (lv_at hl 2 rfl) ?_
  refine ro_calli (va_runV (As := [.int p0, .int p1]) (rest := []) ⟨hx, hb, hml, hown, hts⟩ (c_X11_isDuel l G ct b p0 p1) (cwV 2 hts gX11_reply_X11_isDuel rfl rfl rfl (by decide +kernel) ⟨Nat.le_of_ble_eq_true rfl, Nat.le_of_ble_eq_true rfl⟩) (ro_preV 11 0 hK hP rfl rfl) rfl rfl hl.1 rfl (lv_room (Nat.le_of_ble_eq_true rfl)) dX11_reply_8 ⟨Nat.zero_le _, Nat.zero_le _⟩) hS hP (fun r_1 H locs wr_1 hP hS => ?_)
  obtain rfl := wr_1
  refine lv_if_eq (tgt := 28) hx hb dX11_reply_11 (by decide) (fun c_2 => ?_) (fun c_2 => ?_)
  · refine lv_bipush (v := (-2)) hx hb dX11_reply_28 (by decide) ?_
    exact W.iret (v := (-2)) hx hb hr (fun t ht hW => ⟨⟨(-2), (), rfl, rfl, trivial⟩, hS.F ht⟩) hS.2.2 dX11_reply_30
  · exact absurd c_2 (by decide)

set_option maxHeartbeats 4000000 in
set_option maxRecDepth 100000 in
theorem c_X11_firm (l : Launch) (G : va_G) (ct : Nat → ClassId) (b : Nat → Nat) (p0 : Int32)  : Met l yX11_firm wsX11_firm ({ frames := 5, cells := 0, slots := 0, locals := 111 }) (va_Pc [.ref (b 0), .int p0] (wrP G ct (mF b ct))) (va_Qi (fun (r : Int32) (u : Unit) => r = (-2)) (fun _ _ => True) (aset (mF b ct))) 0 0 (aset (mF b ct)) := by
  refine Met.ofW (cc := cX11_firm) (maxL := 2) (ret := (some .int)) (by decide) rfl ?_
  intro p e s m args below meth c s₁ B hml hv
  obtain ⟨rfl, hP, hK, hD0⟩ := hv
  have hx := B.exec
  have hb := B.bytes
  have hr := B.returns
  have hts := atoms_spec (ws := wsX11_firm) B.pre
  have hown : s.vm.findClass RX11 = some m.cls := findClass_of_methodNamed B.named
  have hlocks := B.notSynchronized
  have hD := hD0.aself
  generalize hAe : aset (mF b ct) = A at hD ⊢
  have hS : va_S A s.heap s.heap [] := va_S.rf
  have hl := lv_entry ([.ref (b 0), .int p0]) (n := 2) (Nat.le_of_ble_eq_true rfl)
  rw [lg_entry_eq]
  generalize (lg_sl ([.ref (b 0), .int p0]) ++ List.replicate (2 - (lg_sl ([.ref (b 0), .int p0])).length) Slot.unset).toArray = ls at hl ⊢
  have hl : lv_has ls 2 [(0, .ref (b 0)), (1, .int p0)] := hl
  refine lv_aload_n hx hb dX11_firm_0 rfl (lv_at hl 0 rfl) ?_
  refine lv_iconst (v := 0) hx hb dX11_firm_1 (by decide) ?_
  refine va_put (D := G) (ci := 11) (v := .int 0) (ty := .int) (C := RX11) (T := TX11) (N := 31) hx hb hts (by decide +kernel) tyX11 tyX11_ok nmX11 hown hK.1 hP hD hS 0 rfl rfl 0 (by decide) (hts (.fieldLink RX11 59 "CardHolderModel" "thrown" "I") (by decide +kernel)) (fun _ h9 => h9) rfl (by decide +kernel) rfl rfl (Nat.le_of_ble_eq_true rfl) dX11_firm_2 (fun H locs hP hD hS => ?_)
  have hP : va_P G vwCl (mF b ct) H := hP
  have hD : va_D A (mF b ct) := hD
  refine lv_aload_n hx hb dX11_firm_5 rfl (lv_at hl 0 rfl) ?_
  refine lv_iload_n hx hb dX11_firm_6 rfl (lv_at hl 1 rfl) ?_
  refine ro_calli (va_runV (As := [.int p0]) (rest := []) ⟨hx, hb, hml, hown, hts⟩ (c_X11_isSet l G ct b p0) (cwV 1 hts gX11_firm_X11_isSet rfl rfl rfl (by decide +kernel) ⟨Nat.le_of_ble_eq_true rfl, Nat.le_of_ble_eq_true rfl⟩) (ro_preV 11 0 hK hP rfl rfl) rfl rfl hl.1 rfl (lv_room (Nat.le_of_ble_eq_true rfl)) dX11_firm_7 ⟨Nat.zero_le _, Nat.zero_le _⟩) hS hP (fun r_1 H locs wr_1 hP hS => ?_)
  obtain rfl := wr_1
  refine lv_if_ne (tgt := 16) hx hb dX11_firm_10 (by decide) (fun c_2 => ?_) (fun c_2 => ?_)
  · exact absurd c_2 (by decide)
  · refine lv_bipush (v := (-2)) hx hb dX11_firm_13 (by decide) ?_
    exact W.iret (v := (-2)) hx hb hr (fun t ht hW => ⟨⟨(-2), (), rfl, rfl, trivial⟩, hS.F ht⟩) hS.2.2 dX11_firm_15

set_option maxHeartbeats 4000000 in
set_option maxRecDepth 100000 in
theorem c_X11_firms (l : Launch) (G : va_G) (ct : Nat → ClassId) (b : Nat → Nat)  : Met l yX11_firms wsX11_firms ({ frames := 5, cells := 0, slots := 0, locals := 111 }) (va_Pc [.ref (b 0)] (wrP G ct (mF b ct))) (va_Qi (fun (r : Int32) (u : Unit) => r = (-2)) (fun _ _ => True) (aset (mF b ct))) 0 0 (aset (mF b ct)) := by
  refine Met.ofW (cc := cX11_firms) (maxL := 3) (ret := (some .int)) (by decide) rfl ?_
  intro p e s m args below meth c s₁ B hml hv
  obtain ⟨rfl, hP, hK, hD0⟩ := hv
  have hx := B.exec
  have hb := B.bytes
  have hr := B.returns
  have hts := atoms_spec (ws := wsX11_firms) B.pre
  have hown : s.vm.findClass RX11 = some m.cls := findClass_of_methodNamed B.named
  have hlocks := B.notSynchronized
  have hD := hD0.aself
  generalize hAe : aset (mF b ct) = A at hD ⊢
  have hS : va_S A s.heap s.heap [] := va_S.rf
  have hl := lv_entry ([.ref (b 0)]) (n := 3) (Nat.le_of_ble_eq_true rfl)
  rw [lg_entry_eq]
  generalize (lg_sl ([.ref (b 0)]) ++ List.replicate (3 - (lg_sl ([.ref (b 0)])).length) Slot.unset).toArray = ls at hl ⊢
  have hl : lv_has ls 3 [(0, .ref (b 0))] := hl
  refine lv_aload_n hx hb dX11_firms_0 rfl (lv_at hl 0 rfl) ?_
  refine lv_iconst (v := 0) hx hb dX11_firms_1 (by decide) ?_
  refine va_put (D := G) (ci := 11) (v := .int 0) (ty := .int) (C := RX11) (T := TX11) (N := 31) hx hb hts (by decide +kernel) tyX11 tyX11_ok nmX11 hown hK.1 hP hD hS 0 rfl rfl 0 (by decide) (hts (.fieldLink RX11 59 "CardHolderModel" "thrown" "I") (by decide +kernel)) (fun _ h9 => h9) rfl (by decide +kernel) rfl rfl (Nat.le_of_ble_eq_true rfl) dX11_firms_2 (fun H locs hP hD hS => ?_)
  have hP : va_P G vwCl (mF b ct) H := hP
  have hD : va_D A (mF b ct) := hD
  refine lv_aload_n hx hb dX11_firms_5 rfl (lv_at hl 0 rfl) ?_
  refine ro_calli (va_runV (As := []) (rest := []) ⟨hx, hb, hml, hown, hts⟩ (c_X11_isCity l G ct b) (cwV 0 hts gX11_firms_X11_isCity rfl rfl rfl (by decide +kernel) ⟨Nat.le_of_ble_eq_true rfl, Nat.le_of_ble_eq_true rfl⟩) (ro_preV 11 0 hK hP rfl rfl) rfl rfl hl.1 rfl (lv_room (Nat.le_of_ble_eq_true rfl)) dX11_firms_6 ⟨Nat.zero_le _, Nat.zero_le _⟩) hS hP (fun r_1 H locs wr_1 hP hS => ?_)
  obtain rfl := wr_1
  refine lv_if_ne (tgt := 15) hx hb dX11_firms_9 (by decide) (fun c_2 => ?_) (fun c_2 => ?_)
  · exact absurd c_2 (by decide)
  · refine lv_bipush (v := (-2)) hx hb dX11_firms_12 (by decide) ?_
    exact W.iret (v := (-2)) hx hb hr (fun t ht hW => ⟨⟨(-2), (), rfl, rfl, trivial⟩, hS.F ht⟩) hS.2.2 dX11_firms_14

set_option maxHeartbeats 4000000 in
set_option maxRecDepth 100000 in
theorem c_X11_firmest (l : Launch) (G : va_G) (ct : Nat → ClassId) (b : Nat → Nat)  : Met l yX11_firmest wsX11_firmest ({ frames := 5, cells := 0, slots := 0, locals := 111 }) (va_Pc [.ref (b 0)] (wrP G ct (mF b ct))) (va_Qi (fun (r : Int32) (u : Unit) => r = (-2)) (fun _ _ => True) (aset (mF b ct))) 0 0 (aset (mF b ct)) := by
  refine Met.ofW (cc := cX11_firmest) (maxL := 3) (ret := (some .int)) (by decide) rfl ?_
  intro p e s m args below meth c s₁ B hml hv
  obtain ⟨rfl, hP, hK, hD0⟩ := hv
  have hx := B.exec
  have hb := B.bytes
  have hr := B.returns
  have hts := atoms_spec (ws := wsX11_firmest) B.pre
  have hown : s.vm.findClass RX11 = some m.cls := findClass_of_methodNamed B.named
  have hlocks := B.notSynchronized
  have hD := hD0.aself
  generalize hAe : aset (mF b ct) = A at hD ⊢
  have hS : va_S A s.heap s.heap [] := va_S.rf
  have hl := lv_entry ([.ref (b 0)]) (n := 3) (Nat.le_of_ble_eq_true rfl)
  rw [lg_entry_eq]
  generalize (lg_sl ([.ref (b 0)]) ++ List.replicate (3 - (lg_sl ([.ref (b 0)])).length) Slot.unset).toArray = ls at hl ⊢
  have hl : lv_has ls 3 [(0, .ref (b 0))] := hl
  refine lv_aload_n hx hb dX11_firmest_0 rfl (lv_at hl 0 rfl) ?_
  refine lv_iconst (v := 0) hx hb dX11_firmest_1 (by decide) ?_
  refine va_put (D := G) (ci := 11) (v := .int 0) (ty := .int) (C := RX11) (T := TX11) (N := 31) hx hb hts (by decide +kernel) tyX11 tyX11_ok nmX11 hown hK.1 hP hD hS 0 rfl rfl 0 (by decide) (hts (.fieldLink RX11 59 "CardHolderModel" "thrown" "I") (by decide +kernel)) (fun _ h9 => h9) rfl (by decide +kernel) rfl rfl (Nat.le_of_ble_eq_true rfl) dX11_firmest_2 (fun H locs hP hD hS => ?_)
  have hP : va_P G vwCl (mF b ct) H := hP
  have hD : va_D A (mF b ct) := hD
  refine lv_aload_n hx hb dX11_firmest_5 rfl (lv_at hl 0 rfl) ?_
  refine ro_calli (va_runV (As := []) (rest := []) ⟨hx, hb, hml, hown, hts⟩ (c_X11_isCity l G ct b) (cwV 0 hts gX11_firmest_X11_isCity rfl rfl rfl (by decide +kernel) ⟨Nat.le_of_ble_eq_true rfl, Nat.le_of_ble_eq_true rfl⟩) (ro_preV 11 0 hK hP rfl rfl) rfl rfl hl.1 rfl (lv_room (Nat.le_of_ble_eq_true rfl)) dX11_firmest_6 ⟨Nat.zero_le _, Nat.zero_le _⟩) hS hP (fun r_1 H locs wr_1 hP hS => ?_)
  obtain rfl := wr_1
  refine lv_if_ne (tgt := 15) hx hb dX11_firmest_9 (by decide) (fun c_2 => ?_) (fun c_2 => ?_)
  · exact absurd c_2 (by decide)
  · refine lv_bipush (v := (-2)) hx hb dX11_firmest_12 (by decide) ?_
    exact W.iret (v := (-2)) hx hb hr (fun t ht hW => ⟨⟨(-2), (), rfl, rfl, trivial⟩, hS.F ht⟩) hS.2.2 dX11_firmest_14

set_option maxHeartbeats 4000000 in
set_option maxRecDepth 100000 in
theorem c_X11_leave (l : Launch) (G : va_G) (ct : Nat → ClassId) (b : Nat → Nat) (p0 : Int32)  : Met l yX11_leave wsX11_leave ({ frames := 5, cells := 0, slots := 0, locals := 111 }) (va_Pc [.ref (b 0), .int p0] (wrP G ct (mF b ct))) (va_Qi (fun (r : Int32) (u : Unit) => r = (-2)) (fun _ _ => True) (aset (mF b ct))) 0 0 (aset (mF b ct)) := by
  refine Met.ofW (cc := cX11_leave) (maxL := 2) (ret := (some .int)) (by decide) rfl ?_
  intro p e s m args below meth c s₁ B hml hv
  obtain ⟨rfl, hP, hK, hD0⟩ := hv
  have hx := B.exec
  have hb := B.bytes
  have hr := B.returns
  have hts := atoms_spec (ws := wsX11_leave) B.pre
  have hown : s.vm.findClass RX11 = some m.cls := findClass_of_methodNamed B.named
  have hlocks := B.notSynchronized
  have hD := hD0.aself
  generalize hAe : aset (mF b ct) = A at hD ⊢
  have hS : va_S A s.heap s.heap [] := va_S.rf
  have hl := lv_entry ([.ref (b 0), .int p0]) (n := 2) (Nat.le_of_ble_eq_true rfl)
  rw [lg_entry_eq]
  generalize (lg_sl ([.ref (b 0), .int p0]) ++ List.replicate (2 - (lg_sl ([.ref (b 0), .int p0])).length) Slot.unset).toArray = ls at hl ⊢
  have hl : lv_has ls 2 [(0, .ref (b 0)), (1, .int p0)] := hl
  refine lv_aload_n hx hb dX11_leave_0 rfl (lv_at hl 0 rfl) ?_
  refine lv_iconst (v := 0) hx hb dX11_leave_1 (by decide) ?_
  refine va_put (D := G) (ci := 11) (v := .int 0) (ty := .int) (C := RX11) (T := TX11) (N := 31) hx hb hts (by decide +kernel) tyX11 tyX11_ok nmX11 hown hK.1 hP hD hS 0 rfl rfl 0 (by decide) (hts (.fieldLink RX11 59 "CardHolderModel" "thrown" "I") (by decide +kernel)) (fun _ h9 => h9) rfl (by decide +kernel) rfl rfl (Nat.le_of_ble_eq_true rfl) dX11_leave_2 (fun H locs hP hD hS => ?_)
  have hP : va_P G vwCl (mF b ct) H := hP
  have hD : va_D A (mF b ct) := hD
  refine lv_aload_n hx hb dX11_leave_5 rfl (lv_at hl 0 rfl) ?_
  refine lv_iload_n hx hb dX11_leave_6 rfl (lv_at hl 1 rfl) ?_
  refine ro_calli (va_runV (As := [.int p0]) (rest := []) ⟨hx, hb, hml, hown, hts⟩ (c_X11_isSet l G ct b p0) (cwV 1 hts gX11_leave_X11_isSet rfl rfl rfl (by decide +kernel) ⟨Nat.le_of_ble_eq_true rfl, Nat.le_of_ble_eq_true rfl⟩) (ro_preV 11 0 hK hP rfl rfl) rfl rfl hl.1 rfl (lv_room (Nat.le_of_ble_eq_true rfl)) dX11_leave_7 ⟨Nat.zero_le _, Nat.zero_le _⟩) hS hP (fun r_1 H locs wr_1 hP hS => ?_)
  obtain rfl := wr_1
  refine lv_if_ne (tgt := 16) hx hb dX11_leave_10 (by decide) (fun c_2 => ?_) (fun c_2 => ?_)
  · exact absurd c_2 (by decide)
  · refine lv_bipush (v := (-2)) hx hb dX11_leave_13 (by decide) ?_
    exact W.iret (v := (-2)) hx hb hr (fun t ht hW => ⟨⟨(-2), (), rfl, rfl, trivial⟩, hS.F ht⟩) hS.2.2 dX11_leave_15

set_option maxHeartbeats 4000000 in
set_option maxRecDepth 100000 in
theorem c_X11_ransom (l : Launch) (G : va_G) (ct : Nat → ClassId) (b : Nat → Nat) (p0 : Int32) (p1 : Int32)  : Met l yX11_ransom wsX11_ransom ({ frames := 6, cells := 0, slots := 0, locals := 136 }) (va_Pc [.ref (b 0), .int p0, .int p1] (wrP G ct (mF b ct))) (va_Qi (fun (r : Int32) (u : Unit) => r = (-2)) (fun _ _ => True) (aset (mF b ct))) 0 0 (aset (mF b ct)) := by
  refine Met.ofW (cc := cX11_ransom) (maxL := 4) (ret := (some .int)) (by decide) rfl ?_
  intro p e s m args below meth c s₁ B hml hv
  obtain ⟨rfl, hP, hK, hD0⟩ := hv
  have hx := B.exec
  have hb := B.bytes
  have hr := B.returns
  have hts := atoms_spec (ws := wsX11_ransom) B.pre
  have hown : s.vm.findClass RX11 = some m.cls := findClass_of_methodNamed B.named
  have hlocks := B.notSynchronized
  have hD := hD0.aself
  generalize hAe : aset (mF b ct) = A at hD ⊢
  have hS : va_S A s.heap s.heap [] := va_S.rf
  have hl := lv_entry ([.ref (b 0), .int p0, .int p1]) (n := 4) (Nat.le_of_ble_eq_true rfl)
  rw [lg_entry_eq]
  generalize (lg_sl ([.ref (b 0), .int p0, .int p1]) ++ List.replicate (4 - (lg_sl ([.ref (b 0), .int p0, .int p1])).length) Slot.unset).toArray = ls at hl ⊢
  have hl : lv_has ls 4 [(0, .ref (b 0)), (1, .int p0), (2, .int p1)] := hl
  refine lv_aload_n hx hb dX11_ransom_0 rfl (lv_at hl 0 rfl) ?_
  refine lv_iconst (v := 0) hx hb dX11_ransom_1 (by decide) ?_
  refine va_put (D := G) (ci := 11) (v := .int 0) (ty := .int) (C := RX11) (T := TX11) (N := 31) hx hb hts (by decide +kernel) tyX11 tyX11_ok nmX11 hown hK.1 hP hD hS 0 rfl rfl 0 (by decide) (hts (.fieldLink RX11 59 "CardHolderModel" "thrown" "I") (by decide +kernel)) (fun _ h9 => h9) rfl (by decide +kernel) rfl rfl (Nat.le_of_ble_eq_true rfl) dX11_ransom_2 (fun H locs hP hD hS => ?_)
  have hP : va_P G vwCl (mF b ct) H := hP
  have hD : va_D A (mF b ct) := hD
  refine lv_aload_n hx hb dX11_ransom_5 rfl (lv_at hl 0 rfl) ?_
  refine lv_iload_n hx hb dX11_ransom_6 rfl (lv_at hl 1 rfl) ?_
  refine lv_iload_n hx hb dX11_ransom_7 rfl (lv_at hl 2 rfl) ?_
  refine ro_calli (va_runV (As := [.int p0, .int p1]) (rest := []) ⟨hx, hb, hml, hown, hts⟩ (c_X11_arePeople l G ct b p0 p1) (cwV 2 hts gX11_ransom_X11_arePeople rfl rfl rfl (by decide +kernel) ⟨Nat.le_of_ble_eq_true rfl, Nat.le_of_ble_eq_true rfl⟩) (ro_preV 11 0 hK hP rfl rfl) rfl rfl hl.1 rfl (lv_room (Nat.le_of_ble_eq_true rfl)) dX11_ransom_8 ⟨Nat.zero_le _, Nat.zero_le _⟩) hS hP (fun r_1 H locs wr_1 hP hS => ?_)
  obtain rfl := wr_1
  refine lv_if_ne (tgt := 17) hx hb dX11_ransom_11 (by decide) (fun c_2 => ?_) (fun c_2 => ?_)
  · exact absurd c_2 (by decide)
  · refine lv_bipush (v := (-2)) hx hb dX11_ransom_14 (by decide) ?_
    exact W.iret (v := (-2)) hx hb hr (fun t ht hW => ⟨⟨(-2), (), rfl, rfl, trivial⟩, hS.F ht⟩) hS.2.2 dX11_ransom_16

set_option maxHeartbeats 4000000 in
set_option maxRecDepth 100000 in
theorem c_X11_ransomed (l : Launch) (G : va_G) (ct : Nat → ClassId) (b : Nat → Nat) (p0 : Int32) (p1 : Int32)  : Met l yX11_ransomed wsX11_ransomed ({ frames := 6, cells := 0, slots := 0, locals := 136 }) (va_Pc [.ref (b 0), .int p0, .int p1] (wrP G ct (mF b ct))) (va_Qi (fun (r : Int32) (u : Unit) => r = (-2)) (fun _ _ => True) (aset (mF b ct))) 0 0 (aset (mF b ct)) := by
  refine Met.ofW (cc := cX11_ransomed) (maxL := 3) (ret := (some .int)) (by decide) rfl ?_
  intro p e s m args below meth c s₁ B hml hv
  obtain ⟨rfl, hP, hK, hD0⟩ := hv
  have hx := B.exec
  have hb := B.bytes
  have hr := B.returns
  have hts := atoms_spec (ws := wsX11_ransomed) B.pre
  have hown : s.vm.findClass RX11 = some m.cls := findClass_of_methodNamed B.named
  have hlocks := B.notSynchronized
  have hD := hD0.aself
  generalize hAe : aset (mF b ct) = A at hD ⊢
  have hS : va_S A s.heap s.heap [] := va_S.rf
  have hl := lv_entry ([.ref (b 0), .int p0, .int p1]) (n := 3) (Nat.le_of_ble_eq_true rfl)
  rw [lg_entry_eq]
  generalize (lg_sl ([.ref (b 0), .int p0, .int p1]) ++ List.replicate (3 - (lg_sl ([.ref (b 0), .int p0, .int p1])).length) Slot.unset).toArray = ls at hl ⊢
  have hl : lv_has ls 3 [(0, .ref (b 0)), (1, .int p0), (2, .int p1)] := hl
  refine lv_aload_n hx hb dX11_ransomed_0 rfl (lv_at hl 0 rfl) ?_
  refine lv_iconst (v := 0) hx hb dX11_ransomed_1 (by decide) ?_
  refine va_put (D := G) (ci := 11) (v := .int 0) (ty := .int) (C := RX11) (T := TX11) (N := 31) hx hb hts (by decide +kernel) tyX11 tyX11_ok nmX11 hown hK.1 hP hD hS 0 rfl rfl 0 (by decide) (hts (.fieldLink RX11 59 "CardHolderModel" "thrown" "I") (by decide +kernel)) (fun _ h9 => h9) rfl (by decide +kernel) rfl rfl (Nat.le_of_ble_eq_true rfl) dX11_ransomed_2 (fun H locs hP hD hS => ?_)
  have hP : va_P G vwCl (mF b ct) H := hP
  have hD : va_D A (mF b ct) := hD
  refine lv_aload_n hx hb dX11_ransomed_5 rfl (lv_at hl 0 rfl) ?_
  refine lv_iload_n hx hb dX11_ransomed_6 rfl (lv_at hl 1 rfl) ?_
  refine lv_iload_n hx hb dX11_ransomed_7 rfl (lv_at hl 2 rfl) ?_
  refine ro_calli (va_runV (As := [.int p0, .int p1]) (rest := []) ⟨hx, hb, hml, hown, hts⟩ (c_X11_arePeople l G ct b p0 p1) (cwV 2 hts gX11_ransomed_X11_arePeople rfl rfl rfl (by decide +kernel) ⟨Nat.le_of_ble_eq_true rfl, Nat.le_of_ble_eq_true rfl⟩) (ro_preV 11 0 hK hP rfl rfl) rfl rfl hl.1 rfl (lv_room (Nat.le_of_ble_eq_true rfl)) dX11_ransomed_8 ⟨Nat.zero_le _, Nat.zero_le _⟩) hS hP (fun r_1 H locs wr_1 hP hS => ?_)
  obtain rfl := wr_1
  refine lv_if_eq (tgt := 23) hx hb dX11_ransomed_11 (by decide) (fun c_2 => ?_) (fun c_2 => ?_)
  · refine lv_bipush (v := (-2)) hx hb dX11_ransomed_23 (by decide) ?_
    exact W.iret (v := (-2)) hx hb hr (fun t ht hW => ⟨⟨(-2), (), rfl, rfl, trivial⟩, hS.F ht⟩) hS.2.2 dX11_ransomed_25
  · exact absurd c_2 (by decide)

set_option maxHeartbeats 4000000 in
set_option maxRecDepth 100000 in
theorem c_X11_power (l : Launch) (G : va_G) (ct : Nat → ClassId) (b : Nat → Nat) (p0 : Int32)  : Met l yX11_power wsX11_power ({ frames := 5, cells := 0, slots := 0, locals := 111 }) (va_Pc [.ref (b 0), .int p0] (wrP G ct (mF b ct))) (va_Qi (fun (r : Int32) (u : Unit) => r = (-2)) (fun _ _ => True) (aset (mF b ct))) 0 0 (aset (mF b ct)) := by
  refine Met.ofW (cc := cX11_power) (maxL := 2) (ret := (some .int)) (by decide) rfl ?_
  intro p e s m args below meth c s₁ B hml hv
  obtain ⟨rfl, hP, hK, hD0⟩ := hv
  have hx := B.exec
  have hb := B.bytes
  have hr := B.returns
  have hts := atoms_spec (ws := wsX11_power) B.pre
  have hown : s.vm.findClass RX11 = some m.cls := findClass_of_methodNamed B.named
  have hlocks := B.notSynchronized
  have hD := hD0.aself
  generalize hAe : aset (mF b ct) = A at hD ⊢
  have hS : va_S A s.heap s.heap [] := va_S.rf
  have hl := lv_entry ([.ref (b 0), .int p0]) (n := 2) (Nat.le_of_ble_eq_true rfl)
  rw [lg_entry_eq]
  generalize (lg_sl ([.ref (b 0), .int p0]) ++ List.replicate (2 - (lg_sl ([.ref (b 0), .int p0])).length) Slot.unset).toArray = ls at hl ⊢
  have hl : lv_has ls 2 [(0, .ref (b 0)), (1, .int p0)] := hl
  refine lv_aload_n hx hb dX11_power_0 rfl (lv_at hl 0 rfl) ?_
  refine lv_iconst (v := 0) hx hb dX11_power_1 (by decide) ?_
  refine va_put (D := G) (ci := 11) (v := .int 0) (ty := .int) (C := RX11) (T := TX11) (N := 31) hx hb hts (by decide +kernel) tyX11 tyX11_ok nmX11 hown hK.1 hP hD hS 0 rfl rfl 0 (by decide) (hts (.fieldLink RX11 59 "CardHolderModel" "thrown" "I") (by decide +kernel)) (fun _ h9 => h9) rfl (by decide +kernel) rfl rfl (Nat.le_of_ble_eq_true rfl) dX11_power_2 (fun H locs hP hD hS => ?_)
  have hP : va_P G vwCl (mF b ct) H := hP
  have hD : va_D A (mF b ct) := hD
  refine lv_aload_n hx hb dX11_power_5 rfl (lv_at hl 0 rfl) ?_
  refine lv_iload_n hx hb dX11_power_6 rfl (lv_at hl 1 rfl) ?_
  refine lv_i2l hx hb dX11_power_7 rfl ?_
  refine ro_calli (va_runV (As := [.long p0.toInt64]) (rest := []) ⟨hx, hb, hml, hown, hts⟩ (c_X11_isPerson l G ct b p0.toInt64) (cwV 1 hts gX11_power_X11_isPerson rfl rfl rfl (by decide +kernel) ⟨Nat.le_of_ble_eq_true rfl, Nat.le_of_ble_eq_true rfl⟩) (ro_preV 11 0 hK hP rfl rfl) rfl rfl hl.1 rfl (lv_room (Nat.le_of_ble_eq_true rfl)) dX11_power_8 ⟨Nat.zero_le _, Nat.zero_le _⟩) hS hP (fun r_1 H locs wr_1 hP hS => ?_)
  obtain rfl := wr_1
  refine lv_if_ne (tgt := 17) hx hb dX11_power_11 (by decide) (fun c_2 => ?_) (fun c_2 => ?_)
  · exact absurd c_2 (by decide)
  · refine lv_bipush (v := (-2)) hx hb dX11_power_14 (by decide) ?_
    exact W.iret (v := (-2)) hx hb hr (fun t ht hW => ⟨⟨(-2), (), rfl, rfl, trivial⟩, hS.F ht⟩) hS.2.2 dX11_power_16

set_option maxHeartbeats 4000000 in
set_option maxRecDepth 100000 in
theorem c_X11_mighty (l : Launch) (G : va_G) (ct : Nat → ClassId) (b : Nat → Nat)  : Met l yX11_mighty wsX11_mighty ({ frames := 5, cells := 0, slots := 0, locals := 111 }) (va_Pc [.ref (b 0)] (wrP G ct (mF b ct))) (va_Qi (fun (r : Int32) (u : Unit) => r = (-2)) (fun _ _ => True) (aset (mF b ct))) 0 0 (aset (mF b ct)) := by
  refine Met.ofW (cc := cX11_mighty) (maxL := 3) (ret := (some .int)) (by decide) rfl ?_
  intro p e s m args below meth c s₁ B hml hv
  obtain ⟨rfl, hP, hK, hD0⟩ := hv
  have hx := B.exec
  have hb := B.bytes
  have hr := B.returns
  have hts := atoms_spec (ws := wsX11_mighty) B.pre
  have hown : s.vm.findClass RX11 = some m.cls := findClass_of_methodNamed B.named
  have hlocks := B.notSynchronized
  have hD := hD0.aself
  generalize hAe : aset (mF b ct) = A at hD ⊢
  have hS : va_S A s.heap s.heap [] := va_S.rf
  have hl := lv_entry ([.ref (b 0)]) (n := 3) (Nat.le_of_ble_eq_true rfl)
  rw [lg_entry_eq]
  generalize (lg_sl ([.ref (b 0)]) ++ List.replicate (3 - (lg_sl ([.ref (b 0)])).length) Slot.unset).toArray = ls at hl ⊢
  have hl : lv_has ls 3 [(0, .ref (b 0))] := hl
  refine lv_aload_n hx hb dX11_mighty_0 rfl (lv_at hl 0 rfl) ?_
  refine lv_iconst (v := 0) hx hb dX11_mighty_1 (by decide) ?_
  refine va_put (D := G) (ci := 11) (v := .int 0) (ty := .int) (C := RX11) (T := TX11) (N := 31) hx hb hts (by decide +kernel) tyX11 tyX11_ok nmX11 hown hK.1 hP hD hS 0 rfl rfl 0 (by decide) (hts (.fieldLink RX11 59 "CardHolderModel" "thrown" "I") (by decide +kernel)) (fun _ h9 => h9) rfl (by decide +kernel) rfl rfl (Nat.le_of_ble_eq_true rfl) dX11_mighty_2 (fun H locs hP hD hS => ?_)
  have hP : va_P G vwCl (mF b ct) H := hP
  have hD : va_D A (mF b ct) := hD
  refine lv_aload_n hx hb dX11_mighty_5 rfl (lv_at hl 0 rfl) ?_
  refine ro_calli (va_runV (As := []) (rest := []) ⟨hx, hb, hml, hown, hts⟩ (c_X11_isCity l G ct b) (cwV 0 hts gX11_mighty_X11_isCity rfl rfl rfl (by decide +kernel) ⟨Nat.le_of_ble_eq_true rfl, Nat.le_of_ble_eq_true rfl⟩) (ro_preV 11 0 hK hP rfl rfl) rfl rfl hl.1 rfl (lv_room (Nat.le_of_ble_eq_true rfl)) dX11_mighty_6 ⟨Nat.zero_le _, Nat.zero_le _⟩) hS hP (fun r_1 H locs wr_1 hP hS => ?_)
  obtain rfl := wr_1
  refine lv_if_ne (tgt := 15) hx hb dX11_mighty_9 (by decide) (fun c_2 => ?_) (fun c_2 => ?_)
  · exact absurd c_2 (by decide)
  · refine lv_bipush (v := (-2)) hx hb dX11_mighty_12 (by decide) ?_
    exact W.iret (v := (-2)) hx hb hr (fun t ht hW => ⟨⟨(-2), (), rfl, rfl, trivial⟩, hS.F ht⟩) hS.2.2 dX11_mighty_14

set_option maxHeartbeats 4000000 in
set_option maxRecDepth 100000 in
theorem c_X11_covet (l : Launch) (G : va_G) (ct : Nat → ClassId) (b : Nat → Nat) (p0 : Int32)  : Met l yX11_covet wsX11_covet ({ frames := 5, cells := 0, slots := 0, locals := 111 }) (va_Pc [.ref (b 0), .int p0] (wrP G ct (mF b ct))) (va_Qi (fun (r : Int32) (u : Unit) => r = (-2)) (fun _ _ => True) (aset (mF b ct))) 0 0 (aset (mF b ct)) := by
  refine Met.ofW (cc := cX11_covet) (maxL := 7) (ret := (some .int)) (by decide) rfl ?_
  intro p e s m args below meth c s₁ B hml hv
  obtain ⟨rfl, hP, hK, hD0⟩ := hv
  have hx := B.exec
  have hb := B.bytes
  have hr := B.returns
  have hts := atoms_spec (ws := wsX11_covet) B.pre
  have hown : s.vm.findClass RX11 = some m.cls := findClass_of_methodNamed B.named
  have hlocks := B.notSynchronized
  have hD := hD0.aself
  generalize hAe : aset (mF b ct) = A at hD ⊢
  have hS : va_S A s.heap s.heap [] := va_S.rf
  have hl := lv_entry ([.ref (b 0), .int p0]) (n := 7) (Nat.le_of_ble_eq_true rfl)
  rw [lg_entry_eq]
  generalize (lg_sl ([.ref (b 0), .int p0]) ++ List.replicate (7 - (lg_sl ([.ref (b 0), .int p0])).length) Slot.unset).toArray = ls at hl ⊢
  have hl : lv_has ls 7 [(0, .ref (b 0)), (1, .int p0)] := hl
  refine lv_aload_n hx hb dX11_covet_0 rfl (lv_at hl 0 rfl) ?_
  refine lv_iconst (v := 0) hx hb dX11_covet_1 (by decide) ?_
  refine va_put (D := G) (ci := 11) (v := .int 0) (ty := .int) (C := RX11) (T := TX11) (N := 31) hx hb hts (by decide +kernel) tyX11 tyX11_ok nmX11 hown hK.1 hP hD hS 0 rfl rfl 0 (by decide) (hts (.fieldLink RX11 59 "CardHolderModel" "thrown" "I") (by decide +kernel)) (fun _ h9 => h9) rfl (by decide +kernel) rfl rfl (Nat.le_of_ble_eq_true rfl) dX11_covet_2 (fun H locs hP hD hS => ?_)
  have hP : va_P G vwCl (mF b ct) H := hP
  have hD : va_D A (mF b ct) := hD
  refine lv_aload_n hx hb dX11_covet_5 rfl (lv_at hl 0 rfl) ?_
  refine lv_iload_n hx hb dX11_covet_6 rfl (lv_at hl 1 rfl) ?_
  refine lv_i2l hx hb dX11_covet_7 rfl ?_
  refine ro_calli (va_runV (As := [.long p0.toInt64]) (rest := []) ⟨hx, hb, hml, hown, hts⟩ (c_X11_isPerson l G ct b p0.toInt64) (cwV 1 hts gX11_covet_X11_isPerson rfl rfl rfl (by decide +kernel) ⟨Nat.le_of_ble_eq_true rfl, Nat.le_of_ble_eq_true rfl⟩) (ro_preV 11 0 hK hP rfl rfl) rfl rfl hl.1 rfl (lv_room (Nat.le_of_ble_eq_true rfl)) dX11_covet_8 ⟨Nat.zero_le _, Nat.zero_le _⟩) hS hP (fun r_1 H locs wr_1 hP hS => ?_)
  obtain rfl := wr_1
  refine lv_if_ne (tgt := 17) hx hb dX11_covet_11 (by decide) (fun c_2 => ?_) (fun c_2 => ?_)
  · exact absurd c_2 (by decide)
  · refine lv_bipush (v := (-2)) hx hb dX11_covet_14 (by decide) ?_
    exact W.iret (v := (-2)) hx hb hr (fun t ht hW => ⟨⟨(-2), (), rfl, rfl, trivial⟩, hS.F ht⟩) hS.2.2 dX11_covet_16

set_option maxHeartbeats 4000000 in
set_option maxRecDepth 100000 in
theorem c_X11_judge (l : Launch) (G : va_G) (ct : Nat → ClassId) (b : Nat → Nat) (p0 : Int32)  : Met l yX11_judge wsX11_judge ({ frames := 4, cells := 0, slots := 0, locals := 87 }) (va_Pc [.ref (b 0), .int p0] (wrP G ct (mF b ct))) (va_Qi (fun (r : Int32) (u : Unit) => r = (-2)) (fun _ _ => True) (aset (mF b ct))) 0 0 (aset (mF b ct)) := by
  refine Met.ofW (cc := cX11_judge) (maxL := 3) (ret := (some .int)) (by decide) rfl ?_
  intro p e s m args below meth c s₁ B hml hv
  obtain ⟨rfl, hP, hK, hD0⟩ := hv
  have hx := B.exec
  have hb := B.bytes
  have hr := B.returns
  have hts := atoms_spec (ws := wsX11_judge) B.pre
  have hown : s.vm.findClass RX11 = some m.cls := findClass_of_methodNamed B.named
  have hlocks := B.notSynchronized
  have hD := hD0.aself
  generalize hAe : aset (mF b ct) = A at hD ⊢
  have hS : va_S A s.heap s.heap [] := va_S.rf
  have hl := lv_entry ([.ref (b 0), .int p0]) (n := 3) (Nat.le_of_ble_eq_true rfl)
  rw [lg_entry_eq]
  generalize (lg_sl ([.ref (b 0), .int p0]) ++ List.replicate (3 - (lg_sl ([.ref (b 0), .int p0])).length) Slot.unset).toArray = ls at hl ⊢
  have hl : lv_has ls 3 [(0, .ref (b 0)), (1, .int p0)] := hl
  refine lv_aload_n hx hb dX11_judge_0 rfl (lv_at hl 0 rfl) ?_
  refine lv_iconst (v := 0) hx hb dX11_judge_1 (by decide) ?_
  refine va_put (D := G) (ci := 11) (v := .int 0) (ty := .int) (C := RX11) (T := TX11) (N := 31) hx hb hts (by decide +kernel) tyX11 tyX11_ok nmX11 hown hK.1 hP hD hS 0 rfl rfl 0 (by decide) (hts (.fieldLink RX11 59 "CardHolderModel" "thrown" "I") (by decide +kernel)) (fun _ h9 => h9) rfl (by decide +kernel) rfl rfl (Nat.le_of_ble_eq_true rfl) dX11_judge_2 (fun H locs hP hD hS => ?_)
  have hP : va_P G vwCl (mF b ct) H := hP
  have hD : va_D A (mF b ct) := hD
  refine lv_aload_n hx hb dX11_judge_5 rfl (lv_at hl 0 rfl) ?_
  refine lv_iload_n hx hb dX11_judge_6 rfl (lv_at hl 1 rfl) ?_
  refine ro_calli (va_runV (As := [.int p0]) (rest := []) ⟨hx, hb, hml, hown, hts⟩ (c_X11_whyNotJudge l G ct b p0) (cwV 1 hts gX11_judge_X11_whyNotJudge rfl rfl rfl (by decide +kernel) ⟨Nat.le_of_ble_eq_true rfl, Nat.le_of_ble_eq_true rfl⟩) (ro_preV 11 0 hK hP rfl rfl) rfl rfl hl.1 rfl (lv_room (Nat.le_of_ble_eq_true rfl)) dX11_judge_7 ⟨Nat.zero_le _, Nat.zero_le _⟩) hS hP (fun r_1 H locs wr_1 hP hS => ?_)
  obtain rfl := wr_1
  refine lv_istore_n (lv' := [(2, .int (-2)), (0, .ref (b 0)), (1, .int p0)]) hx hb dX11_judge_10 rfl hl (by decide) rfl (fun ls hl => ?_)
  refine lv_iload_n hx hb dX11_judge_11 rfl (lv_at hl 0 rfl) ?_
  refine lv_if_eq (tgt := 19) hx hb dX11_judge_12 (by decide) (fun c_2 => ?_) (fun c_2 => ?_)
  · exact absurd c_2 (by decide)
  · refine lv_iload_n hx hb dX11_judge_15 rfl (lv_at hl 0 rfl) ?_
    refine lv_goto (tgt := 24) hx hb dX11_judge_16 (by decide) ?_
    exact W.iret (v := (-2)) hx hb hr (fun t ht hW => ⟨⟨(-2), (), rfl, rfl, trivial⟩, hS.F ht⟩) hS.2.2 dX11_judge_24

set_option maxHeartbeats 4000000 in
set_option maxRecDepth 100000 in
theorem c_X11_freed (l : Launch) (G : va_G) (ct : Nat → ClassId) (b : Nat → Nat) (p0 : Int32)  : Met l yX11_freed wsX11_freed ({ frames := 4, cells := 0, slots := 0, locals := 87 }) (va_Pc [.ref (b 0), .int p0] (wrP G ct (mF b ct))) (va_Qi (fun (r : Int32) (u : Unit) => r = (-2)) (fun _ _ => True) (aset (mF b ct))) 0 0 (aset (mF b ct)) := by
  refine Met.ofW (cc := cX11_freed) (maxL := 3) (ret := (some .int)) (by decide) rfl ?_
  intro p e s m args below meth c s₁ B hml hv
  obtain ⟨rfl, hP, hK, hD0⟩ := hv
  have hx := B.exec
  have hb := B.bytes
  have hr := B.returns
  have hts := atoms_spec (ws := wsX11_freed) B.pre
  have hown : s.vm.findClass RX11 = some m.cls := findClass_of_methodNamed B.named
  have hlocks := B.notSynchronized
  have hD := hD0.aself
  generalize hAe : aset (mF b ct) = A at hD ⊢
  have hS : va_S A s.heap s.heap [] := va_S.rf
  have hl := lv_entry ([.ref (b 0), .int p0]) (n := 3) (Nat.le_of_ble_eq_true rfl)
  rw [lg_entry_eq]
  generalize (lg_sl ([.ref (b 0), .int p0]) ++ List.replicate (3 - (lg_sl ([.ref (b 0), .int p0])).length) Slot.unset).toArray = ls at hl ⊢
  have hl : lv_has ls 3 [(0, .ref (b 0)), (1, .int p0)] := hl
  refine lv_aload_n hx hb dX11_freed_0 rfl (lv_at hl 0 rfl) ?_
  refine lv_iconst (v := 0) hx hb dX11_freed_1 (by decide) ?_
  refine va_put (D := G) (ci := 11) (v := .int 0) (ty := .int) (C := RX11) (T := TX11) (N := 31) hx hb hts (by decide +kernel) tyX11 tyX11_ok nmX11 hown hK.1 hP hD hS 0 rfl rfl 0 (by decide) (hts (.fieldLink RX11 59 "CardHolderModel" "thrown" "I") (by decide +kernel)) (fun _ h9 => h9) rfl (by decide +kernel) rfl rfl (Nat.le_of_ble_eq_true rfl) dX11_freed_2 (fun H locs hP hD hS => ?_)
  have hP : va_P G vwCl (mF b ct) H := hP
  have hD : va_D A (mF b ct) := hD
  refine lv_aload_n hx hb dX11_freed_5 rfl (lv_at hl 0 rfl) ?_
  refine lv_iload_n hx hb dX11_freed_6 rfl (lv_at hl 1 rfl) ?_
  refine ro_calli (va_runV (As := [.int p0]) (rest := []) ⟨hx, hb, hml, hown, hts⟩ (c_X11_whyNotJudge l G ct b p0) (cwV 1 hts gX11_freed_X11_whyNotJudge rfl rfl rfl (by decide +kernel) ⟨Nat.le_of_ble_eq_true rfl, Nat.le_of_ble_eq_true rfl⟩) (ro_preV 11 0 hK hP rfl rfl) rfl rfl hl.1 rfl (lv_room (Nat.le_of_ble_eq_true rfl)) dX11_freed_7 ⟨Nat.zero_le _, Nat.zero_le _⟩) hS hP (fun r_1 H locs wr_1 hP hS => ?_)
  obtain rfl := wr_1
  refine lv_istore_n (lv' := [(2, .int (-2)), (0, .ref (b 0)), (1, .int p0)]) hx hb dX11_freed_10 rfl hl (by decide) rfl (fun ls hl => ?_)
  refine lv_iload_n hx hb dX11_freed_11 rfl (lv_at hl 0 rfl) ?_
  refine lv_if_eq (tgt := 17) hx hb dX11_freed_12 (by decide) (fun c_2 => ?_) (fun c_2 => ?_)
  · exact absurd c_2 (by decide)
  · refine lv_iload_n hx hb dX11_freed_15 rfl (lv_at hl 0 rfl) ?_
    exact W.iret (v := (-2)) hx hb hr (fun t ht hW => ⟨⟨(-2), (), rfl, rfl, trivial⟩, hS.F ht⟩) hS.2.2 dX11_freed_16

set_option maxHeartbeats 4000000 in
set_option maxRecDepth 100000 in
theorem c_X11_drawn (l : Launch) (G : va_G) (ct : Nat → ClassId) (b : Nat → Nat) (p0 : Int32) (p1 : Int32)  : Met l yX11_drawn wsX11_drawn ({ frames := 2, cells := 0, slots := 0, locals := 47 }) (va_Pc [.ref (b 0), .int p0, .int p1] (wrP G ct (mF b ct))) (va_Qi (fun (r : Int32) (u : Unit) => r = (-2)) (fun _ _ => True) (aset (mF b ct))) 0 0 (aset (mF b ct)) := by
  refine Met.ofW (cc := cX11_drawn) (maxL := 3) (ret := (some .int)) (by decide) rfl ?_
  intro p e s m args below meth c s₁ B hml hv
  obtain ⟨rfl, hP, hK, hD0⟩ := hv
  have hx := B.exec
  have hb := B.bytes
  have hr := B.returns
  have hts := atoms_spec (ws := wsX11_drawn) B.pre
  have hown : s.vm.findClass RX11 = some m.cls := findClass_of_methodNamed B.named
  have hlocks := B.notSynchronized
  have hD := hD0.aself
  generalize hAe : aset (mF b ct) = A at hD ⊢
  have hS : va_S A s.heap s.heap [] := va_S.rf
  have hl := lv_entry ([.ref (b 0), .int p0, .int p1]) (n := 3) (Nat.le_of_ble_eq_true rfl)
  rw [lg_entry_eq]
  generalize (lg_sl ([.ref (b 0), .int p0, .int p1]) ++ List.replicate (3 - (lg_sl ([.ref (b 0), .int p0, .int p1])).length) Slot.unset).toArray = ls at hl ⊢
  have hl : lv_has ls 3 [(0, .ref (b 0)), (1, .int p0), (2, .int p1)] := hl
  refine lv_aload_n hx hb dX11_drawn_0 rfl (lv_at hl 0 rfl) ?_
  refine lv_iconst (v := 0) hx hb dX11_drawn_1 (by decide) ?_
  refine va_put (D := G) (ci := 11) (v := .int 0) (ty := .int) (C := RX11) (T := TX11) (N := 31) hx hb hts (by decide +kernel) tyX11 tyX11_ok nmX11 hown hK.1 hP hD hS 0 rfl rfl 0 (by decide) (hts (.fieldLink RX11 59 "CardHolderModel" "thrown" "I") (by decide +kernel)) (fun _ h9 => h9) rfl (by decide +kernel) rfl rfl (Nat.le_of_ble_eq_true rfl) dX11_drawn_2 (fun H locs hP hD hS => ?_)
  have hP : va_P G vwCl (mF b ct) H := hP
  have hD : va_D A (mF b ct) := hD
  refine lv_iload_n hx hb dX11_drawn_5 rfl (lv_at hl 1 rfl) ?_
  refine ro_calli (va_runS (As := [.int p0]) (rest := []) ⟨hx, hb, hml, hown, hts⟩ (c_X11_isSeed l G ct p0) (va_cwS 1 hts gX11_drawn_X11_isSeed rfl rfl rfl (by decide +kernel) ⟨Nat.le_of_ble_eq_true rfl, Nat.le_of_ble_eq_true rfl⟩) (ro_pre hK (hP.sub [] rfl)) rfl rfl hl.1 rfl (lv_room (Nat.le_of_ble_eq_true rfl)) dX11_drawn_6 ⟨Nat.zero_le _, Nat.zero_le _⟩) hS hP (fun r_1 H locs wr_1 hP hS => ?_)
  refine lv_if_eq (tgt := 21) hx hb dX11_drawn_9 (by decide) (fun c_2 => ?_) (fun c_2 => ?_)
  · refine lv_bipush (v := (-2)) hx hb dX11_drawn_21 (by decide) ?_
    exact W.iret (v := (-2)) hx hb hr (fun t ht hW => ⟨⟨(-2), (), rfl, rfl, trivial⟩, hS.F ht⟩) hS.2.2 dX11_drawn_23
  · refine lv_aload_n hx hb dX11_drawn_12 rfl (lv_at hl 0 rfl) ?_
    refine lv_iload_n hx hb dX11_drawn_13 rfl (lv_at hl 2 rfl) ?_
    refine lv_i2l hx hb dX11_drawn_14 rfl ?_
    refine ro_calli (va_runV (As := [.long p1.toInt64]) (rest := []) ⟨hx, hb, hml, hown, hts⟩ (c_X11_isPerson l G ct b p1.toInt64) (cwV 1 hts gX11_drawn_X11_isPerson rfl rfl rfl (by decide +kernel) ⟨Nat.le_of_ble_eq_true rfl, Nat.le_of_ble_eq_true rfl⟩) (ro_preV 11 0 hK hP rfl rfl) rfl rfl hl.1 rfl (lv_room (Nat.le_of_ble_eq_true rfl)) dX11_drawn_15 ⟨Nat.zero_le _, Nat.zero_le _⟩) hS hP (fun r_3 H locs wr_3 hP hS => ?_)
    obtain rfl := wr_3
    refine lv_if_ne (tgt := 24) hx hb dX11_drawn_18 (by decide) (fun c_4 => ?_) (fun c_4 => ?_)
    · exact absurd c_4 (by decide)
    · refine lv_bipush (v := (-2)) hx hb dX11_drawn_21 (by decide) ?_
      exact W.iret (v := (-2)) hx hb hr (fun t ht hW => ⟨⟨(-2), (), rfl, rfl, trivial⟩, hS.F ht⟩) hS.2.2 dX11_drawn_23

set_option maxHeartbeats 4000000 in
set_option maxRecDepth 100000 in
theorem c_X11_luck (l : Launch) (G : va_G) (ct : Nat → ClassId) (b : Nat → Nat) (p0 : Int32) (p1 : Int32) (p2 : Int32)  : Met l yX11_luck wsX11_luck ({ frames := 2, cells := 0, slots := 0, locals := 47 }) (va_Pc [.ref (b 0), .int p0, .int p1, .int p2] (wrP G ct (mF b ct))) (va_Qi (fun (r : Int32) (u : Unit) => r = (-2)) (fun _ _ => True) (aset (mF b ct))) 0 0 (aset (mF b ct)) := by
  refine Met.ofW (cc := cX11_luck) (maxL := 6) (ret := (some .int)) (by decide) rfl ?_
  intro p e s m args below meth c s₁ B hml hv
  obtain ⟨rfl, hP, hK, hD0⟩ := hv
  have hx := B.exec
  have hb := B.bytes
  have hr := B.returns
  have hts := atoms_spec (ws := wsX11_luck) B.pre
  have hown : s.vm.findClass RX11 = some m.cls := findClass_of_methodNamed B.named
  have hlocks := B.notSynchronized
  have hD := hD0.aself
  generalize hAe : aset (mF b ct) = A at hD ⊢
  have hS : va_S A s.heap s.heap [] := va_S.rf
  have hl := lv_entry ([.ref (b 0), .int p0, .int p1, .int p2]) (n := 6) (Nat.le_of_ble_eq_true rfl)
  rw [lg_entry_eq]
  generalize (lg_sl ([.ref (b 0), .int p0, .int p1, .int p2]) ++ List.replicate (6 - (lg_sl ([.ref (b 0), .int p0, .int p1, .int p2])).length) Slot.unset).toArray = ls at hl ⊢
  have hl : lv_has ls 6 [(0, .ref (b 0)), (1, .int p0), (2, .int p1), (3, .int p2)] := hl
  refine lv_aload_n hx hb dX11_luck_0 rfl (lv_at hl 0 rfl) ?_
  refine lv_iconst (v := 0) hx hb dX11_luck_1 (by decide) ?_
  refine va_put (D := G) (ci := 11) (v := .int 0) (ty := .int) (C := RX11) (T := TX11) (N := 31) hx hb hts (by decide +kernel) tyX11 tyX11_ok nmX11 hown hK.1 hP hD hS 0 rfl rfl 0 (by decide) (hts (.fieldLink RX11 59 "CardHolderModel" "thrown" "I") (by decide +kernel)) (fun _ h9 => h9) rfl (by decide +kernel) rfl rfl (Nat.le_of_ble_eq_true rfl) dX11_luck_2 (fun H locs hP hD hS => ?_)
  have hP : va_P G vwCl (mF b ct) H := hP
  have hD : va_D A (mF b ct) := hD
  refine lv_iload_n hx hb dX11_luck_5 rfl (lv_at hl 1 rfl) ?_
  refine ro_calli (va_runS (As := [.int p0]) (rest := []) ⟨hx, hb, hml, hown, hts⟩ (c_X11_isSeed l G ct p0) (va_cwS 1 hts gX11_luck_X11_isSeed rfl rfl rfl (by decide +kernel) ⟨Nat.le_of_ble_eq_true rfl, Nat.le_of_ble_eq_true rfl⟩) (ro_pre hK (hP.sub [] rfl)) rfl rfl hl.1 rfl (lv_room (Nat.le_of_ble_eq_true rfl)) dX11_luck_6 ⟨Nat.zero_le _, Nat.zero_le _⟩) hS hP (fun r_1 H locs wr_1 hP hS => ?_)
  refine lv_if_eq (tgt := 33) hx hb dX11_luck_9 (by decide) (fun c_2 => ?_) (fun c_2 => ?_)
  · refine lv_bipush (v := (-2)) hx hb dX11_luck_33 (by decide) ?_
    exact W.iret (v := (-2)) hx hb hr (fun t ht hW => ⟨⟨(-2), (), rfl, rfl, trivial⟩, hS.F ht⟩) hS.2.2 dX11_luck_35
  · refine lv_iload_n hx hb dX11_luck_12 rfl (lv_at hl 2 rfl) ?_
    refine lv_i2l hx hb dX11_luck_13 rfl ?_
    refine lv_lconst (v := 1) hx hb dX11_luck_14 (by decide) ?_
    refine lv_ldc2 (own := RX11) (v := 20) hx hb hown (hts (.constantLong RX11 404 (20)) (by decide +kernel)) dX11_luck_15 ?_
    refine ro_calli (va_runS (As := [.long p1.toInt64, .long 1, .long 20]) (rest := []) ⟨hx, hb, hml, hown, hts⟩ (c_X11_in l G ct p1.toInt64 1 20) (va_cwS 3 hts gX11_luck_X11_in rfl rfl rfl (by decide +kernel) ⟨Nat.le_of_ble_eq_true rfl, Nat.le_of_ble_eq_true rfl⟩) (ro_pre hK (hP.sub [] rfl)) rfl rfl hl.1 rfl (lv_room (Nat.le_of_ble_eq_true rfl)) dX11_luck_18 ⟨Nat.zero_le _, Nat.zero_le _⟩) hS hP (fun r_3 H locs wr_3 hP hS => ?_)
    refine lv_if_eq (tgt := 33) hx hb dX11_luck_21 (by decide) (fun c_4 => ?_) (fun c_4 => ?_)
    · refine lv_bipush (v := (-2)) hx hb dX11_luck_33 (by decide) ?_
      exact W.iret (v := (-2)) hx hb hr (fun t ht hW => ⟨⟨(-2), (), rfl, rfl, trivial⟩, hS.F ht⟩) hS.2.2 dX11_luck_35
    · refine lv_aload_n hx hb dX11_luck_24 rfl (lv_at hl 0 rfl) ?_
      refine lv_iload_n hx hb dX11_luck_25 rfl (lv_at hl 3 rfl) ?_
      refine lv_i2l hx hb dX11_luck_26 rfl ?_
      refine ro_calli (va_runV (As := [.long p2.toInt64]) (rest := []) ⟨hx, hb, hml, hown, hts⟩ (c_X11_isPerson l G ct b p2.toInt64) (cwV 1 hts gX11_luck_X11_isPerson rfl rfl rfl (by decide +kernel) ⟨Nat.le_of_ble_eq_true rfl, Nat.le_of_ble_eq_true rfl⟩) (ro_preV 11 0 hK hP rfl rfl) rfl rfl hl.1 rfl (lv_room (Nat.le_of_ble_eq_true rfl)) dX11_luck_27 ⟨Nat.zero_le _, Nat.zero_le _⟩) hS hP (fun r_5 H locs wr_5 hP hS => ?_)
      obtain rfl := wr_5
      refine lv_if_ne (tgt := 36) hx hb dX11_luck_30 (by decide) (fun c_6 => ?_) (fun c_6 => ?_)
      · exact absurd c_6 (by decide)
      · refine lv_bipush (v := (-2)) hx hb dX11_luck_33 (by decide) ?_
        exact W.iret (v := (-2)) hx hb hr (fun t ht hW => ⟨⟨(-2), (), rfl, rfl, trivial⟩, hS.F ht⟩) hS.2.2 dX11_luck_35

set_option maxHeartbeats 4000000 in
set_option maxRecDepth 100000 in
theorem c_X11_winds (l : Launch) (G : va_G) (ct : Nat → ClassId) (b : Nat → Nat) (p0 : Int32) (p1 : Int32)  : Met l yX11_winds wsX11_winds ({ frames := 2, cells := 0, slots := 0, locals := 49 }) (va_Pc [.ref (b 0), .int p0, .int p1] (wrP G ct (mF b ct))) (va_Qi (fun (r : Int32) (u : Unit) => r = (-2)) (fun _ _ => True) (aset (mF b ct))) 0 0 (aset (mF b ct)) := by
  refine Met.ofW (cc := cX11_winds) (maxL := 5) (ret := (some .int)) (by decide) rfl ?_
  intro p e s m args below meth c s₁ B hml hv
  obtain ⟨rfl, hP, hK, hD0⟩ := hv
  have hx := B.exec
  have hb := B.bytes
  have hr := B.returns
  have hts := atoms_spec (ws := wsX11_winds) B.pre
  have hown : s.vm.findClass RX11 = some m.cls := findClass_of_methodNamed B.named
  have hlocks := B.notSynchronized
  have hD := hD0.aself
  generalize hAe : aset (mF b ct) = A at hD ⊢
  have hS : va_S A s.heap s.heap [] := va_S.rf
  have hl := lv_entry ([.ref (b 0), .int p0, .int p1]) (n := 5) (Nat.le_of_ble_eq_true rfl)
  rw [lg_entry_eq]
  generalize (lg_sl ([.ref (b 0), .int p0, .int p1]) ++ List.replicate (5 - (lg_sl ([.ref (b 0), .int p0, .int p1])).length) Slot.unset).toArray = ls at hl ⊢
  have hl : lv_has ls 5 [(0, .ref (b 0)), (1, .int p0), (2, .int p1)] := hl
  refine lv_aload_n hx hb dX11_winds_0 rfl (lv_at hl 0 rfl) ?_
  refine lv_iconst (v := 0) hx hb dX11_winds_1 (by decide) ?_
  refine va_put (D := G) (ci := 11) (v := .int 0) (ty := .int) (C := RX11) (T := TX11) (N := 31) hx hb hts (by decide +kernel) tyX11 tyX11_ok nmX11 hown hK.1 hP hD hS 0 rfl rfl 0 (by decide) (hts (.fieldLink RX11 59 "CardHolderModel" "thrown" "I") (by decide +kernel)) (fun _ h9 => h9) rfl (by decide +kernel) rfl rfl (Nat.le_of_ble_eq_true rfl) dX11_winds_2 (fun H locs hP hD hS => ?_)
  have hP : va_P G vwCl (mF b ct) H := hP
  have hD : va_D A (mF b ct) := hD
  refine lv_iload_n hx hb dX11_winds_5 rfl (lv_at hl 1 rfl) ?_
  refine ro_calli (va_runS (As := [.int p0]) (rest := []) ⟨hx, hb, hml, hown, hts⟩ (c_X11_isSeed l G ct p0) (va_cwS 1 hts gX11_winds_X11_isSeed rfl rfl rfl (by decide +kernel) ⟨Nat.le_of_ble_eq_true rfl, Nat.le_of_ble_eq_true rfl⟩) (ro_pre hK (hP.sub [] rfl)) rfl rfl hl.1 rfl (lv_room (Nat.le_of_ble_eq_true rfl)) dX11_winds_6 ⟨Nat.zero_le _, Nat.zero_le _⟩) hS hP (fun r_1 H locs wr_1 hP hS => ?_)
  refine lv_if_eq (tgt := 31) hx hb dX11_winds_9 (by decide) (fun c_2 => ?_) (fun c_2 => ?_)
  · refine lv_bipush (v := (-2)) hx hb dX11_winds_31 (by decide) ?_
    exact W.iret (v := (-2)) hx hb hr (fun t ht hW => ⟨⟨(-2), (), rfl, rfl, trivial⟩, hS.F ht⟩) hS.2.2 dX11_winds_33
  · refine lv_iload_n hx hb dX11_winds_12 rfl (lv_at hl 2 rfl) ?_
    refine lv_i2l hx hb dX11_winds_13 rfl ?_
    refine lv_lconst (v := 1) hx hb dX11_winds_14 (by decide) ?_
    refine lv_ldc2 (own := RX11) (v := 20) hx hb hown (hts (.constantLong RX11 404 (20)) (by decide +kernel)) dX11_winds_15 ?_
    refine ro_calli (va_runS (As := [.long p1.toInt64, .long 1, .long 20]) (rest := []) ⟨hx, hb, hml, hown, hts⟩ (c_X11_in l G ct p1.toInt64 1 20) (va_cwS 3 hts gX11_winds_X11_in rfl rfl rfl (by decide +kernel) ⟨Nat.le_of_ble_eq_true rfl, Nat.le_of_ble_eq_true rfl⟩) (ro_pre hK (hP.sub [] rfl)) rfl rfl hl.1 rfl (lv_room (Nat.le_of_ble_eq_true rfl)) dX11_winds_18 ⟨Nat.zero_le _, Nat.zero_le _⟩) hS hP (fun r_3 H locs wr_3 hP hS => ?_)
    refine lv_if_eq (tgt := 31) hx hb dX11_winds_21 (by decide) (fun c_4 => ?_) (fun c_4 => ?_)
    · refine lv_bipush (v := (-2)) hx hb dX11_winds_31 (by decide) ?_
      exact W.iret (v := (-2)) hx hb hr (fun t ht hW => ⟨⟨(-2), (), rfl, rfl, trivial⟩, hS.F ht⟩) hS.2.2 dX11_winds_33
    · refine lv_aload_n hx hb dX11_winds_24 rfl (lv_at hl 0 rfl) ?_
      refine ro_calli (va_runV (As := []) (rest := []) ⟨hx, hb, hml, hown, hts⟩ (c_X11_isCity l G ct b) (cwV 0 hts gX11_winds_X11_isCity rfl rfl rfl (by decide +kernel) ⟨Nat.le_of_ble_eq_true rfl, Nat.le_of_ble_eq_true rfl⟩) (ro_preV 11 0 hK hP rfl rfl) rfl rfl hl.1 rfl (lv_room (Nat.le_of_ble_eq_true rfl)) dX11_winds_25 ⟨Nat.zero_le _, Nat.zero_le _⟩) hS hP (fun r_5 H locs wr_5 hP hS => ?_)
      obtain rfl := wr_5
      refine lv_if_ne (tgt := 34) hx hb dX11_winds_28 (by decide) (fun c_6 => ?_) (fun c_6 => ?_)
      · exact absurd c_6 (by decide)
      · refine lv_bipush (v := (-2)) hx hb dX11_winds_31 (by decide) ?_
        exact W.iret (v := (-2)) hx hb hr (fun t ht hW => ⟨⟨(-2), (), rfl, rfl, trivial⟩, hS.F ht⟩) hS.2.2 dX11_winds_33

set_option maxHeartbeats 4000000 in
set_option maxRecDepth 100000 in
theorem c_X11_rate (l : Launch) (G : va_G) (ct : Nat → ClassId) (b : Nat → Nat) (p0 : Int32) (p1 : Int32)  : Met l yX11_rate wsX11_rate ({ frames := 2, cells := 0, slots := 0, locals := 47 }) (va_Pc [.ref (b 0), .int p0, .int p1] (wrP G ct (mF b ct))) (va_Qi (fun (r : Int32) (u : Unit) => r = (-2)) (fun _ _ => True) (aset (mF b ct))) 0 0 (aset (mF b ct)) := by
  refine Met.ofW (cc := cX11_rate) (maxL := 4) (ret := (some .int)) (by decide) rfl ?_
  intro p e s m args below meth c s₁ B hml hv
  obtain ⟨rfl, hP, hK, hD0⟩ := hv
  have hx := B.exec
  have hb := B.bytes
  have hr := B.returns
  have hts := atoms_spec (ws := wsX11_rate) B.pre
  have hown : s.vm.findClass RX11 = some m.cls := findClass_of_methodNamed B.named
  have hlocks := B.notSynchronized
  have hD := hD0.aself
  generalize hAe : aset (mF b ct) = A at hD ⊢
  have hS : va_S A s.heap s.heap [] := va_S.rf
  have hl := lv_entry ([.ref (b 0), .int p0, .int p1]) (n := 4) (Nat.le_of_ble_eq_true rfl)
  rw [lg_entry_eq]
  generalize (lg_sl ([.ref (b 0), .int p0, .int p1]) ++ List.replicate (4 - (lg_sl ([.ref (b 0), .int p0, .int p1])).length) Slot.unset).toArray = ls at hl ⊢
  have hl : lv_has ls 4 [(0, .ref (b 0)), (1, .int p0), (2, .int p1)] := hl
  refine lv_aload_n hx hb dX11_rate_0 rfl (lv_at hl 0 rfl) ?_
  refine lv_iconst (v := 0) hx hb dX11_rate_1 (by decide) ?_
  refine va_put (D := G) (ci := 11) (v := .int 0) (ty := .int) (C := RX11) (T := TX11) (N := 31) hx hb hts (by decide +kernel) tyX11 tyX11_ok nmX11 hown hK.1 hP hD hS 0 rfl rfl 0 (by decide) (hts (.fieldLink RX11 59 "CardHolderModel" "thrown" "I") (by decide +kernel)) (fun _ h9 => h9) rfl (by decide +kernel) rfl rfl (Nat.le_of_ble_eq_true rfl) dX11_rate_2 (fun H locs hP hD hS => ?_)
  have hP : va_P G vwCl (mF b ct) H := hP
  have hD : va_D A (mF b ct) := hD
  refine lv_aload_n hx hb dX11_rate_5 rfl (lv_at hl 0 rfl) ?_
  refine lv_iload_n hx hb dX11_rate_6 rfl (lv_at hl 1 rfl) ?_
  refine lv_i2l hx hb dX11_rate_7 rfl ?_
  refine ro_calli (va_runV (As := [.long p0.toInt64]) (rest := []) ⟨hx, hb, hml, hown, hts⟩ (c_X11_isPerson l G ct b p0.toInt64) (cwV 1 hts gX11_rate_X11_isPerson rfl rfl rfl (by decide +kernel) ⟨Nat.le_of_ble_eq_true rfl, Nat.le_of_ble_eq_true rfl⟩) (ro_preV 11 0 hK hP rfl rfl) rfl rfl hl.1 rfl (lv_room (Nat.le_of_ble_eq_true rfl)) dX11_rate_8 ⟨Nat.zero_le _, Nat.zero_le _⟩) hS hP (fun r_1 H locs wr_1 hP hS => ?_)
  obtain rfl := wr_1
  refine lv_if_eq (tgt := 26) hx hb dX11_rate_11 (by decide) (fun c_2 => ?_) (fun c_2 => ?_)
  · refine lv_bipush (v := (-2)) hx hb dX11_rate_26 (by decide) ?_
    exact W.iret (v := (-2)) hx hb hr (fun t ht hW => ⟨⟨(-2), (), rfl, rfl, trivial⟩, hS.F ht⟩) hS.2.2 dX11_rate_28
  · exact absurd c_2 (by decide)

set_option maxHeartbeats 4000000 in
set_option maxRecDepth 100000 in
theorem c_X11_forge (l : Launch) (G : va_G) (ct : Nat → ClassId) (b : Nat → Nat) (p0 : Int32) (p1 : Int32)  : Met l yX11_forge wsX11_forge ({ frames := 2, cells := 0, slots := 0, locals := 47 }) (va_Pc [.ref (b 0), .int p0, .int p1] (wrP G ct (mF b ct))) (va_Qi (fun (r : Int32) (u : Unit) => r = (-2)) (fun _ _ => True) (aset (mF b ct))) 0 0 (aset (mF b ct)) := by
  refine Met.ofW (cc := cX11_forge) (maxL := 4) (ret := (some .int)) (by decide) rfl ?_
  intro p e s m args below meth c s₁ B hml hv
  obtain ⟨rfl, hP, hK, hD0⟩ := hv
  have hx := B.exec
  have hb := B.bytes
  have hr := B.returns
  have hts := atoms_spec (ws := wsX11_forge) B.pre
  have hown : s.vm.findClass RX11 = some m.cls := findClass_of_methodNamed B.named
  have hlocks := B.notSynchronized
  have hD := hD0.aself
  generalize hAe : aset (mF b ct) = A at hD ⊢
  have hS : va_S A s.heap s.heap [] := va_S.rf
  have hl := lv_entry ([.ref (b 0), .int p0, .int p1]) (n := 4) (Nat.le_of_ble_eq_true rfl)
  rw [lg_entry_eq]
  generalize (lg_sl ([.ref (b 0), .int p0, .int p1]) ++ List.replicate (4 - (lg_sl ([.ref (b 0), .int p0, .int p1])).length) Slot.unset).toArray = ls at hl ⊢
  have hl : lv_has ls 4 [(0, .ref (b 0)), (1, .int p0), (2, .int p1)] := hl
  refine lv_aload_n hx hb dX11_forge_0 rfl (lv_at hl 0 rfl) ?_
  refine lv_iconst (v := 0) hx hb dX11_forge_1 (by decide) ?_
  refine va_put (D := G) (ci := 11) (v := .int 0) (ty := .int) (C := RX11) (T := TX11) (N := 31) hx hb hts (by decide +kernel) tyX11 tyX11_ok nmX11 hown hK.1 hP hD hS 0 rfl rfl 0 (by decide) (hts (.fieldLink RX11 59 "CardHolderModel" "thrown" "I") (by decide +kernel)) (fun _ h9 => h9) rfl (by decide +kernel) rfl rfl (Nat.le_of_ble_eq_true rfl) dX11_forge_2 (fun H locs hP hD hS => ?_)
  have hP : va_P G vwCl (mF b ct) H := hP
  have hD : va_D A (mF b ct) := hD
  refine lv_aload_n hx hb dX11_forge_5 rfl (lv_at hl 0 rfl) ?_
  refine lv_iload_n hx hb dX11_forge_6 rfl (lv_at hl 1 rfl) ?_
  refine lv_i2l hx hb dX11_forge_7 rfl ?_
  refine ro_calli (va_runV (As := [.long p0.toInt64]) (rest := []) ⟨hx, hb, hml, hown, hts⟩ (c_X11_isPerson l G ct b p0.toInt64) (cwV 1 hts gX11_forge_X11_isPerson rfl rfl rfl (by decide +kernel) ⟨Nat.le_of_ble_eq_true rfl, Nat.le_of_ble_eq_true rfl⟩) (ro_preV 11 0 hK hP rfl rfl) rfl rfl hl.1 rfl (lv_room (Nat.le_of_ble_eq_true rfl)) dX11_forge_8 ⟨Nat.zero_le _, Nat.zero_le _⟩) hS hP (fun r_1 H locs wr_1 hP hS => ?_)
  obtain rfl := wr_1
  refine lv_if_eq (tgt := 24) hx hb dX11_forge_11 (by decide) (fun c_2 => ?_) (fun c_2 => ?_)
  · refine lv_bipush (v := (-2)) hx hb dX11_forge_24 (by decide) ?_
    exact W.iret (v := (-2)) hx hb hr (fun t ht hW => ⟨⟨(-2), (), rfl, rfl, trivial⟩, hS.F ht⟩) hS.2.2 dX11_forge_26
  · exact absurd c_2 (by decide)

set_option maxHeartbeats 4000000 in
set_option maxRecDepth 100000 in
theorem c_X11_lay (l : Launch) (G : va_G) (ct : Nat → ClassId) (b : Nat → Nat) (p0 : Int32) (p1 : Int32)  : Met l yX11_lay wsX11_lay ({ frames := 6, cells := 0, slots := 0, locals := 133 }) (va_Pc [.ref (b 0), .int p0, .int p1] (wrP G ct (mF b ct))) (va_Qi (fun (r : Int32) (u : Unit) => r = (-1000)) (fun _ _ => True) (aset (mF b ct))) 0 0 (aset (mF b ct)) := by
  refine Met.ofW (cc := cX11_lay) (maxL := 4) (ret := (some .int)) (by decide) rfl ?_
  intro p e s m args below meth c s₁ B hml hv
  obtain ⟨rfl, hP, hK, hD0⟩ := hv
  have hx := B.exec
  have hb := B.bytes
  have hr := B.returns
  have hts := atoms_spec (ws := wsX11_lay) B.pre
  have hown : s.vm.findClass RX11 = some m.cls := findClass_of_methodNamed B.named
  have hlocks := B.notSynchronized
  have hD := hD0.aself
  generalize hAe : aset (mF b ct) = A at hD ⊢
  have hS : va_S A s.heap s.heap [] := va_S.rf
  have hl := lv_entry ([.ref (b 0), .int p0, .int p1]) (n := 4) (Nat.le_of_ble_eq_true rfl)
  rw [lg_entry_eq]
  generalize (lg_sl ([.ref (b 0), .int p0, .int p1]) ++ List.replicate (4 - (lg_sl ([.ref (b 0), .int p0, .int p1])).length) Slot.unset).toArray = ls at hl ⊢
  have hl : lv_has ls 4 [(0, .ref (b 0)), (1, .int p0), (2, .int p1)] := hl
  refine lv_aload_n hx hb dX11_lay_0 rfl (lv_at hl 0 rfl) ?_
  refine lv_iconst (v := 0) hx hb dX11_lay_1 (by decide) ?_
  refine va_put (D := G) (ci := 11) (v := .int 0) (ty := .int) (C := RX11) (T := TX11) (N := 31) hx hb hts (by decide +kernel) tyX11 tyX11_ok nmX11 hown hK.1 hP hD hS 0 rfl rfl 0 (by decide) (hts (.fieldLink RX11 59 "CardHolderModel" "thrown" "I") (by decide +kernel)) (fun _ h9 => h9) rfl (by decide +kernel) rfl rfl (Nat.le_of_ble_eq_true rfl) dX11_lay_2 (fun H locs hP hD hS => ?_)
  have hP : va_P G vwCl (mF b ct) H := hP
  have hD : va_D A (mF b ct) := hD
  refine lv_aload_n hx hb dX11_lay_5 rfl (lv_at hl 0 rfl) ?_
  refine lv_iload_n hx hb dX11_lay_6 rfl (lv_at hl 1 rfl) ?_
  refine lv_iload_n hx hb dX11_lay_7 rfl (lv_at hl 2 rfl) ?_
  refine ro_calli (va_runV (As := [.int p0, .int p1]) (rest := []) ⟨hx, hb, hml, hown, hts⟩ (c_X11_isDuel l G ct b p0 p1) (cwV 2 hts gX11_lay_X11_isDuel rfl rfl rfl (by decide +kernel) ⟨Nat.le_of_ble_eq_true rfl, Nat.le_of_ble_eq_true rfl⟩) (ro_preV 11 0 hK hP rfl rfl) rfl rfl hl.1 rfl (lv_room (Nat.le_of_ble_eq_true rfl)) dX11_lay_8 ⟨Nat.zero_le _, Nat.zero_le _⟩) hS hP (fun r_1 H locs wr_1 hP hS => ?_)
  obtain rfl := wr_1
  refine lv_if_ne (tgt := 18) hx hb dX11_lay_11 (by decide) (fun c_2 => ?_) (fun c_2 => ?_)
  · exact absurd c_2 (by decide)
  · refine lv_sipush (v := (-1000)) hx hb dX11_lay_14 (by decide) ?_
    exact W.iret (v := (-1000)) hx hb hr (fun t ht hW => ⟨⟨(-1000), (), rfl, rfl, trivial⟩, hS.F ht⟩) hS.2.2 dX11_lay_17

set_option maxHeartbeats 4000000 in
set_option maxRecDepth 100000 in
theorem c_X11_wins (l : Launch) (G : va_G) (ct : Nat → ClassId) (b : Nat → Nat) (p0 : Int32) (p1 : Int32)  : Met l yX11_wins wsX11_wins ({ frames := 5, cells := 0, slots := 0, locals := 111 }) (va_Pc [.ref (b 0), .int p0, .int p1] (wrP G ct (mF b ct))) (va_Qi (fun (r : Int32) (u : Unit) => r = (-10000)) (fun _ _ => True) (aset (mF b ct))) 0 0 (aset (mF b ct)) := by
  refine Met.ofW (cc := cX11_wins) (maxL := 3) (ret := (some .int)) (by decide) rfl ?_
  intro p e s m args below meth c s₁ B hml hv
  obtain ⟨rfl, hP, hK, hD0⟩ := hv
  have hx := B.exec
  have hb := B.bytes
  have hr := B.returns
  have hts := atoms_spec (ws := wsX11_wins) B.pre
  have hown : s.vm.findClass RX11 = some m.cls := findClass_of_methodNamed B.named
  have hlocks := B.notSynchronized
  have hD := hD0.aself
  generalize hAe : aset (mF b ct) = A at hD ⊢
  have hS : va_S A s.heap s.heap [] := va_S.rf
  have hl := lv_entry ([.ref (b 0), .int p0, .int p1]) (n := 3) (Nat.le_of_ble_eq_true rfl)
  rw [lg_entry_eq]
  generalize (lg_sl ([.ref (b 0), .int p0, .int p1]) ++ List.replicate (3 - (lg_sl ([.ref (b 0), .int p0, .int p1])).length) Slot.unset).toArray = ls at hl ⊢
  have hl : lv_has ls 3 [(0, .ref (b 0)), (1, .int p0), (2, .int p1)] := hl
  refine lv_aload_n hx hb dX11_wins_0 rfl (lv_at hl 0 rfl) ?_
  refine lv_iconst (v := 0) hx hb dX11_wins_1 (by decide) ?_
  refine va_put (D := G) (ci := 11) (v := .int 0) (ty := .int) (C := RX11) (T := TX11) (N := 31) hx hb hts (by decide +kernel) tyX11 tyX11_ok nmX11 hown hK.1 hP hD hS 0 rfl rfl 0 (by decide) (hts (.fieldLink RX11 59 "CardHolderModel" "thrown" "I") (by decide +kernel)) (fun _ h9 => h9) rfl (by decide +kernel) rfl rfl (Nat.le_of_ble_eq_true rfl) dX11_wins_2 (fun H locs hP hD hS => ?_)
  have hP : va_P G vwCl (mF b ct) H := hP
  have hD : va_D A (mF b ct) := hD
  refine lv_aload_n hx hb dX11_wins_5 rfl (lv_at hl 0 rfl) ?_
  refine lv_iload_n hx hb dX11_wins_6 rfl (lv_at hl 1 rfl) ?_
  refine ro_calli (va_runV (As := [.int p0]) (rest := []) ⟨hx, hb, hml, hown, hts⟩ (c_X11_isSet l G ct b p0) (cwV 1 hts gX11_wins_X11_isSet rfl rfl rfl (by decide +kernel) ⟨Nat.le_of_ble_eq_true rfl, Nat.le_of_ble_eq_true rfl⟩) (ro_preV 11 0 hK hP rfl rfl) rfl rfl hl.1 rfl (lv_room (Nat.le_of_ble_eq_true rfl)) dX11_wins_7 ⟨Nat.zero_le _, Nat.zero_le _⟩) hS hP (fun r_1 H locs wr_1 hP hS => ?_)
  obtain rfl := wr_1
  refine lv_if_eq (tgt := 30) hx hb dX11_wins_10 (by decide) (fun c_2 => ?_) (fun c_2 => ?_)
  · refine lv_sipush (v := (-10000)) hx hb dX11_wins_30 (by decide) ?_
    exact W.iret (v := (-10000)) hx hb hr (fun t ht hW => ⟨⟨(-10000), (), rfl, rfl, trivial⟩, hS.F ht⟩) hS.2.2 dX11_wins_33
  · exact absurd c_2 (by decide)
