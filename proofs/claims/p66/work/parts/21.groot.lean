theorem dX10_feed_0 : decode cX10_feed 0 = .ok (.aload_n 0, 1) := by decide +kernel
theorem dX10_feed_1 : decode cX10_feed 1 = .ok (.getfield 10, 3) := by decide +kernel
theorem dX10_feed_4 : decode cX10_feed 4 = .ok (.bipush 20, 2) := by decide +kernel
set_option maxRecDepth 20000 in
theorem ggX10_feed_X8_hasRoomFor : GoodIn wsX10_feed wsX8_hasRoomFor := goodIn_r _ [7, 8, 26, 27] (by rfl) (by decide +kernel)
set_option maxRecDepth 20000 in
theorem gX10_feed_X8_hasRoomFor : GoodIn wsX10_feed (wsV RX10 88 RX8 yX8_hasRoomFor wsX8_hasRoomFor) := goodIn_app (goodIn_r _ [3, 4, 5, 6] (by rfl) (by decide +kernel)) ggX10_feed_X8_hasRoomFor
theorem dX10_feed_6 : decode cX10_feed 6 = .ok (.invokevirtual 88, 3) := by decide +kernel
theorem dX10_feed_9 : decode cX10_feed 9 = .ok (.ifCond .ne 5, 3) := by decide +kernel
theorem dX10_feed_14 : decode cX10_feed 14 = .ok (.aload_n 0, 1) := by decide +kernel
theorem dX10_feed_15 : decode cX10_feed 15 = .ok (.getfield 10, 3) := by decide +kernel
theorem dX10_feed_18 : decode cX10_feed 18 = .ok (.iload_n 1, 1) := by decide +kernel
set_option maxRecDepth 20000 in
theorem ggX10_feed_X8_add : GoodIn wsX10_feed wsX8_add := goodIn_r _ [12, 13, 8, 14, 4, 5, 6, 7, 26, 27] (by rfl) (by decide +kernel)
set_option maxRecDepth 20000 in
theorem gX10_feed_X8_add : GoodIn wsX10_feed (wsV RX10 92 RX8 yX8_add wsX8_add) := goodIn_app (goodIn_r _ [9, 10, 11, 6] (by rfl) (by decide +kernel)) ggX10_feed_X8_add
theorem dX10_feed_19 : decode cX10_feed 19 = .ok (.invokevirtual 92, 3) := by decide +kernel
theorem dX10_feed_22 : decode cX10_feed 22 = .ok (.aload_n 0, 1) := by decide +kernel
theorem dX10_feed_23 : decode cX10_feed 23 = .ok (.getfield 10, 3) := by decide +kernel
theorem dX10_feed_26 : decode cX10_feed 26 = .ok (.iload_n 2, 1) := by decide +kernel
theorem dX10_feed_27 : decode cX10_feed 27 = .ok (.invokevirtual 92, 3) := by decide +kernel
theorem dX10_feed_30 : decode cX10_feed 30 = .ok (.aload_n 0, 1) := by decide +kernel
theorem dX10_feed_31 : decode cX10_feed 31 = .ok (.getfield 10, 3) := by decide +kernel
theorem dX10_feed_34 : decode cX10_feed 34 = .ok (.iload_n 3, 1) := by decide +kernel
theorem dX10_feed_35 : decode cX10_feed 35 = .ok (.invokevirtual 92, 3) := by decide +kernel
theorem dX10_feed_38 : decode cX10_feed 38 = .ok (.aload_n 0, 1) := by decide +kernel
theorem dX10_feed_39 : decode cX10_feed 39 = .ok (.getfield 10, 3) := by decide +kernel
theorem dX10_feed_42 : decode cX10_feed 42 = .ok (.iload 4, 2) := by decide +kernel
theorem dX10_feed_44 : decode cX10_feed 44 = .ok (.invokevirtual 92, 3) := by decide +kernel
theorem dX10_feed_47 : decode cX10_feed 47 = .ok (.aload_n 0, 1) := by decide +kernel
theorem dX10_feed_48 : decode cX10_feed 48 = .ok (.getfield 10, 3) := by decide +kernel
theorem dX10_feed_51 : decode cX10_feed 51 = .ok (.iload 5, 2) := by decide +kernel
theorem dX10_feed_53 : decode cX10_feed 53 = .ok (.invokevirtual 92, 3) := by decide +kernel
theorem dX10_feed_56 : decode cX10_feed 56 = .ok (.aload_n 0, 1) := by decide +kernel
theorem dX10_feed_57 : decode cX10_feed 57 = .ok (.getfield 10, 3) := by decide +kernel
theorem dX10_feed_60 : decode cX10_feed 60 = .ok (.getfield 96, 3) := by decide +kernel
theorem dX10_feed_63 : decode cX10_feed 63 = .ok (.ireturn, 1) := by decide +kernel
theorem dX10_feed_12 : decode cX10_feed 12 = .ok (.iconst (-1), 1) := by decide +kernel
theorem dX10_feed_13 : decode cX10_feed 13 = .ok (.ireturn, 1) := by decide +kernel
theorem dX10_end_0 : decode cX10_end 0 = .ok (.aload_n 0, 1) := by decide +kernel
theorem dX10_end_1 : decode cX10_end 1 = .ok (.getfield 10, 3) := by decide +kernel
theorem dX10_end_4 : decode cX10_end 4 = .ok (.iload_n 1, 1) := by decide +kernel
set_option maxRecDepth 20000 in
theorem ggX10_end_X8_cutTo : GoodIn wsX10_end wsX8_cutTo := goodIn_r _ [6, 7, 19, 20] (by rfl) (by decide +kernel)
set_option maxRecDepth 20000 in
theorem gX10_end_X8_cutTo : GoodIn wsX10_end (wsV RX10 100 RX8 yX8_cutTo wsX8_cutTo) := goodIn_app (goodIn_r _ [2, 3, 4, 5] (by rfl) (by decide +kernel)) ggX10_end_X8_cutTo
theorem dX10_end_5 : decode cX10_end 5 = .ok (.invokevirtual 100, 3) := by decide +kernel
theorem dX10_end_8 : decode cX10_end 8 = .ok (.ifCond .eq 7, 3) := by decide +kernel
theorem dX10_end_15 : decode cX10_end 15 = .ok (.iconst (-1), 1) := by decide +kernel
theorem dX10_end_16 : decode cX10_end 16 = .ok (.ireturn, 1) := by decide +kernel
theorem dX10_end_11 : decode cX10_end 11 = .ok (.iload_n 1, 1) := by decide +kernel
theorem dX10_end_12 : decode cX10_end 12 = .ok (.goto 4, 3) := by decide +kernel
theorem dX10_fault_0 : decode cX10_fault 0 = .ok (.iload_n 1, 1) := by decide +kernel
theorem dX10_fault_1 : decode cX10_fault 1 = .ok (.lookupswitch 43 #[(0, 27), (1, 35)], 27) := by decide +kernel
theorem dX10_fault_28 : decode cX10_fault 28 = .ok (.aload_n 0, 1) := by decide +kernel
theorem dX10_fault_29 : decode cX10_fault 29 = .ok (.getfield 21, 3) := by decide +kernel
theorem dX10_fault_32 : decode cX10_fault 32 = .ok (.getfield 118, 3) := by decide +kernel
theorem dX10_fault_35 : decode cX10_fault 35 = .ok (.ireturn, 1) := by decide +kernel
theorem dX10_fault_36 : decode cX10_fault 36 = .ok (.aload_n 0, 1) := by decide +kernel
theorem dX10_fault_37 : decode cX10_fault 37 = .ok (.getfield 21, 3) := by decide +kernel
theorem dX10_fault_40 : decode cX10_fault 40 = .ok (.getfield 121, 3) := by decide +kernel
theorem dX10_fault_43 : decode cX10_fault 43 = .ok (.ireturn, 1) := by decide +kernel
theorem dX10_fault_44 : decode cX10_fault 44 = .ok (.iconst (-1), 1) := by decide +kernel
theorem dX10_fault_45 : decode cX10_fault 45 = .ok (.ireturn, 1) := by decide +kernel
theorem dX10_person_0 : decode cX10_person 0 = .ok (.aload_n 0, 1) := by decide +kernel
theorem dX10_person_1 : decode cX10_person 1 = .ok (.iload_n 1, 1) := by decide +kernel
set_option maxRecDepth 20000 in
theorem ggX10_person_X10_isPerson : GoodIn wsX10_person wsX10_isPerson := goodIn_r _ [9, 1, 3, 10, 11, 12, 13, 14, 15, 16, 72, 73, 74, 75, 76, 77, 78, 79, 80, 81, 82, 83, 84, 85, 86, 87, 88, 89, 90, 91, 92, 93, 94, 95, 96] (by rfl) (by decide +kernel)
set_option maxRecDepth 20000 in
theorem gX10_person_X10_isPerson : GoodIn wsX10_person (wsV RX10 124 RX10 yX10_isPerson wsX10_isPerson) := goodIn_app (goodIn_r _ [5, 6, 7, 8] (by rfl) (by decide +kernel)) ggX10_person_X10_isPerson
theorem dX10_person_2 : decode cX10_person 2 = .ok (.invokevirtual 124, 3) := by decide +kernel
theorem dX10_person_5 : decode cX10_person 5 = .ok (.ifCond .ne 6, 3) := by decide +kernel
theorem dX10_person_11 : decode cX10_person 11 = .ok (.iload_n 2, 1) := by decide +kernel
theorem dX10_person_12 : decode cX10_person 12 = .ok (.tableswitch 141 0 7 #[48, 60, 72, 81, 90, 102, 117, 129], 48) := by decide +kernel
theorem dX10_person_60 : decode cX10_person 60 = .ok (.aload_n 0, 1) := by decide +kernel
theorem dX10_person_61 : decode cX10_person 61 = .ok (.getfield 28, 3) := by decide +kernel
theorem dX10_person_64 : decode cX10_person 64 = .ok (.getfield 49, 3) := by decide +kernel
theorem dX10_person_67 : decode cX10_person 67 = .ok (.iload_n 1, 1) := by decide +kernel
set_option maxRecDepth 20000 in
theorem ggX10_person_X9_worthOf : GoodIn wsX10_person wsX9_worthOf := goodIn_r _ [21, 22, 23, 24, 12, 13, 14, 15, 16, 97, 98, 99, 100, 101, 102, 103, 95, 96] (by rfl) (by decide +kernel)
set_option maxRecDepth 20000 in
theorem gX10_person_X9_worthOf : GoodIn wsX10_person (wsV RX10 127 RX9 yX9_worthOf wsX9_worthOf) := goodIn_app (goodIn_r _ [17, 18, 19, 20] (by rfl) (by decide +kernel)) ggX10_person_X9_worthOf
theorem dX10_person_68 : decode cX10_person 68 = .ok (.invokevirtual 127, 3) := by decide +kernel
theorem dX10_person_71 : decode cX10_person 71 = .ok (.ireturn, 1) := by decide +kernel
theorem dX10_person_72 : decode cX10_person 72 = .ok (.aload_n 0, 1) := by decide +kernel
theorem dX10_person_73 : decode cX10_person 73 = .ok (.getfield 28, 3) := by decide +kernel
theorem dX10_person_76 : decode cX10_person 76 = .ok (.getfield 49, 3) := by decide +kernel
theorem dX10_person_79 : decode cX10_person 79 = .ok (.iload_n 1, 1) := by decide +kernel
set_option maxRecDepth 20000 in
theorem ggX10_person_X9_deedsOf : GoodIn wsX10_person wsX9_deedsOf := goodIn_r _ [28, 22, 29, 24, 12, 13, 14, 15, 16, 97, 98, 99, 100, 101, 102, 103, 95, 96] (by rfl) (by decide +kernel)
set_option maxRecDepth 20000 in
theorem gX10_person_X9_deedsOf : GoodIn wsX10_person (wsV RX10 131 RX9 yX9_deedsOf wsX9_deedsOf) := goodIn_app (goodIn_r _ [25, 26, 27, 20] (by rfl) (by decide +kernel)) ggX10_person_X9_deedsOf
theorem dX10_person_80 : decode cX10_person 80 = .ok (.invokevirtual 131, 3) := by decide +kernel
theorem dX10_person_83 : decode cX10_person 83 = .ok (.ireturn, 1) := by decide +kernel
theorem dX10_person_84 : decode cX10_person 84 = .ok (.aload_n 0, 1) := by decide +kernel
set_option maxRecDepth 20000 in
theorem ggX10_person_X10_bonds : GoodIn wsX10_person wsX10_bonds := goodIn_r _ [33, 1, 3, 10, 72, 73, 74, 75, 76, 77, 78, 79, 80, 81, 82, 83, 84, 85, 86, 87, 88, 89, 90, 91, 92, 93, 94] (by rfl) (by decide +kernel)
set_option maxRecDepth 20000 in
theorem gX10_person_X10_bonds : GoodIn wsX10_person (wsV RX10 134 RX10 yX10_bonds wsX10_bonds) := goodIn_app (goodIn_r _ [30, 31, 32, 8] (by rfl) (by decide +kernel)) ggX10_person_X10_bonds
theorem dX10_person_85 : decode cX10_person 85 = .ok (.invokevirtual 134, 3) := by decide +kernel
theorem dX10_person_88 : decode cX10_person 88 = .ok (.iload_n 1, 1) := by decide +kernel
set_option maxRecDepth 20000 in
theorem ggX10_person_X0_holderOf : GoodIn wsX10_person wsX0_holderOf := goodIn_r _ [37, 38, 39, 12, 13, 14, 15, 16, 95, 96] (by rfl) (by decide +kernel)
set_option maxRecDepth 20000 in
theorem gX10_person_X0_holderOf : GoodIn wsX10_person (wsV RX10 138 RX0 yX0_holderOf wsX0_holderOf) := goodIn_app (goodIn_r _ [34, 35, 36, 14] (by rfl) (by decide +kernel)) ggX10_person_X0_holderOf
theorem dX10_person_89 : decode cX10_person 89 = .ok (.invokevirtual 138, 3) := by decide +kernel
theorem dX10_person_92 : decode cX10_person 92 = .ok (.ireturn, 1) := by decide +kernel
theorem dX10_person_93 : decode cX10_person 93 = .ok (.aload_n 0, 1) := by decide +kernel
theorem dX10_person_94 : decode cX10_person 94 = .ok (.invokevirtual 134, 3) := by decide +kernel
theorem dX10_person_97 : decode cX10_person 97 = .ok (.iload_n 1, 1) := by decide +kernel
set_option maxRecDepth 20000 in
theorem ggX10_person_X0_handOf : GoodIn wsX10_person wsX0_handOf := goodIn_r _ [43, 16, 44, 35, 36, 14, 37, 38, 39, 12, 13, 15, 95, 96] (by rfl) (by decide +kernel)
set_option maxRecDepth 20000 in
theorem gX10_person_X0_handOf : GoodIn wsX10_person (wsV RX10 141 RX0 yX0_handOf wsX0_handOf) := goodIn_app (goodIn_r _ [40, 41, 42, 14] (by rfl) (by decide +kernel)) ggX10_person_X0_handOf
theorem dX10_person_98 : decode cX10_person 98 = .ok (.invokevirtual 141, 3) := by decide +kernel
theorem dX10_person_101 : decode cX10_person 101 = .ok (.ireturn, 1) := by decide +kernel
theorem dX10_person_102 : decode cX10_person 102 = .ok (.aload_n 0, 1) := by decide +kernel
theorem dX10_person_103 : decode cX10_person 103 = .ok (.getfield 28, 3) := by decide +kernel
theorem dX10_person_106 : decode cX10_person 106 = .ok (.getfield 49, 3) := by decide +kernel
theorem dX10_person_109 : decode cX10_person 109 = .ok (.iload_n 1, 1) := by decide +kernel
set_option maxRecDepth 20000 in
theorem ggX10_person_X9_wishesOf : GoodIn wsX10_person wsX9_wishesOf := goodIn_r _ [48, 22, 49, 24, 12, 13, 14, 15, 16, 97, 98, 99, 100, 101, 102, 103, 95, 96] (by rfl) (by decide +kernel)
set_option maxRecDepth 20000 in
theorem gX10_person_X9_wishesOf : GoodIn wsX10_person (wsV RX10 144 RX9 yX9_wishesOf wsX9_wishesOf) := goodIn_app (goodIn_r _ [45, 46, 47, 20] (by rfl) (by decide +kernel)) ggX10_person_X9_wishesOf
theorem dX10_person_110 : decode cX10_person 110 = .ok (.invokevirtual 144, 3) := by decide +kernel
theorem dX10_person_113 : decode cX10_person 113 = .ok (.ireturn, 1) := by decide +kernel
theorem dX10_person_114 : decode cX10_person 114 = .ok (.aload_n 0, 1) := by decide +kernel
theorem dX10_person_115 : decode cX10_person 115 = .ok (.getfield 28, 3) := by decide +kernel
theorem dX10_person_118 : decode cX10_person 118 = .ok (.getfield 147, 3) := by decide +kernel
theorem dX10_person_121 : decode cX10_person 121 = .ok (.getfield 150, 3) := by decide +kernel
theorem dX10_person_124 : decode cX10_person 124 = .ok (.iload_n 1, 1) := by decide +kernel
set_option maxRecDepth 20000 in
theorem ggX10_person_X10_bitOf : GoodIn wsX10_person wsX10_bitOf := goodIn_r _ [52] (by rfl) (by decide +kernel)
set_option maxRecDepth 20000 in
theorem gX10_person_X10_bitOf : GoodIn wsX10_person (va_wsS RX10 153 yX10_bitOf wsX10_bitOf) := goodIn_app (goodIn_r _ [50, 51, 8] (by rfl) (by decide +kernel)) ggX10_person_X10_bitOf
theorem dX10_person_125 : decode cX10_person 125 = .ok (.invokestatic 153, 3) := by decide +kernel
theorem dX10_person_128 : decode cX10_person 128 = .ok (.ireturn, 1) := by decide +kernel
theorem dX10_person_129 : decode cX10_person 129 = .ok (.aload_n 0, 1) := by decide +kernel
theorem dX10_person_130 : decode cX10_person 130 = .ok (.getfield 28, 3) := by decide +kernel
theorem dX10_person_133 : decode cX10_person 133 = .ok (.getfield 49, 3) := by decide +kernel
theorem dX10_person_136 : decode cX10_person 136 = .ok (.iload_n 1, 1) := by decide +kernel
set_option maxRecDepth 20000 in
theorem ggX10_person_X9_forgedOf : GoodIn wsX10_person wsX9_forgedOf := goodIn_r _ [56, 22, 57, 24, 12, 13, 14, 15, 16, 97, 98, 99, 100, 101, 102, 103, 95, 96] (by rfl) (by decide +kernel)
set_option maxRecDepth 20000 in
theorem gX10_person_X9_forgedOf : GoodIn wsX10_person (wsV RX10 157 RX9 yX9_forgedOf wsX9_forgedOf) := goodIn_app (goodIn_r _ [53, 54, 55, 20] (by rfl) (by decide +kernel)) ggX10_person_X9_forgedOf
theorem dX10_person_137 : decode cX10_person 137 = .ok (.invokevirtual 157, 3) := by decide +kernel
theorem dX10_person_140 : decode cX10_person 140 = .ok (.ireturn, 1) := by decide +kernel
theorem dX10_person_141 : decode cX10_person 141 = .ok (.aload_n 0, 1) := by decide +kernel
theorem dX10_person_142 : decode cX10_person 142 = .ok (.getfield 28, 3) := by decide +kernel
theorem dX10_person_145 : decode cX10_person 145 = .ok (.getfield 147, 3) := by decide +kernel
theorem dX10_person_148 : decode cX10_person 148 = .ok (.iload_n 1, 1) := by decide +kernel
set_option maxRecDepth 20000 in
theorem ggX10_person_X2_leftOf : GoodIn wsX10_person wsX2_leftOf := goodIn_r _ [62, 63, 64, 65, 66, 35, 36, 14, 37, 38, 39, 12, 13, 15, 16, 67, 68, 69, 20, 70, 22, 57, 71, 24, 87, 88, 89, 90, 91, 92, 93, 94, 95, 96, 97, 98, 99, 100, 101, 102, 103] (by rfl) (by decide +kernel)
set_option maxRecDepth 20000 in
theorem gX10_person_X2_leftOf : GoodIn wsX10_person (wsV RX10 160 RX2 yX2_leftOf wsX2_leftOf) := goodIn_app (goodIn_r _ [58, 59, 60, 61] (by rfl) (by decide +kernel)) ggX10_person_X2_leftOf
theorem dX10_person_149 : decode cX10_person 149 = .ok (.invokevirtual 160, 3) := by decide +kernel
theorem dX10_person_152 : decode cX10_person 152 = .ok (.ireturn, 1) := by decide +kernel
theorem dX10_person_153 : decode cX10_person 153 = .ok (.bipush (-2), 2) := by decide +kernel
theorem dX10_person_155 : decode cX10_person 155 = .ok (.ireturn, 1) := by decide +kernel
theorem dX10_person_8 : decode cX10_person 8 = .ok (.bipush (-2), 2) := by decide +kernel
theorem dX10_person_10 : decode cX10_person 10 = .ok (.ireturn, 1) := by decide +kernel
theorem dX10_free_0 : decode cX10_free 0 = .ok (.aload_n 0, 1) := by decide +kernel
set_option maxRecDepth 20000 in
theorem ggX10_free_X10_hasCity : GoodIn wsX10_free wsX10_hasCity := goodIn_r _ [5, 6, 7, 8, 34, 35, 36, 37, 38, 39, 40, 41, 42, 43, 44, 45, 46, 47, 48, 49, 50, 51, 52, 53, 54, 55] (by rfl) (by decide +kernel)
set_option maxRecDepth 20000 in
theorem gX10_free_X10_hasCity : GoodIn wsX10_free (wsV RX10 163 RX10 yX10_hasCity wsX10_hasCity) := goodIn_app (goodIn_r _ [1, 2, 3, 4] (by rfl) (by decide +kernel)) ggX10_free_X10_hasCity
theorem dX10_free_1 : decode cX10_free 1 = .ok (.invokevirtual 163, 3) := by decide +kernel
theorem dX10_free_4 : decode cX10_free 4 = .ok (.ifCond .eq 13, 3) := by decide +kernel
theorem dX10_free_17 : decode cX10_free 17 = .ok (.bipush (-2), 2) := by decide +kernel
theorem dX10_free_19 : decode cX10_free 19 = .ok (.ireturn, 1) := by decide +kernel
theorem dX10_free_7 : decode cX10_free 7 = .ok (.aload_n 0, 1) := by decide +kernel
set_option maxRecDepth 20000 in
theorem ggX10_free_X10_bonds : GoodIn wsX10_free wsX10_bonds := goodIn_r _ [12, 6, 13, 14, 34, 35, 36, 37, 38, 39, 40, 41, 42, 43, 44, 45, 46, 47, 48, 56, 57, 58, 59, 60, 61, 62, 63] (by rfl) (by decide +kernel)
set_option maxRecDepth 20000 in
theorem gX10_free_X10_bonds : GoodIn wsX10_free (wsV RX10 134 RX10 yX10_bonds wsX10_bonds) := goodIn_app (goodIn_r _ [9, 10, 11, 4] (by rfl) (by decide +kernel)) ggX10_free_X10_bonds
theorem dX10_free_8 : decode cX10_free 8 = .ok (.invokevirtual 134, 3) := by decide +kernel
set_option maxRecDepth 20000 in
theorem ggX10_free_X0_freeOnes : GoodIn wsX10_free wsX0_freeOnes := goodIn_r _ [19, 20, 21, 22, 18, 23, 24, 25, 26, 27, 28, 29, 30, 31, 32, 33, 64, 65] (by rfl) (by decide +kernel)
set_option maxRecDepth 20000 in
theorem gX10_free_X0_freeOnes : GoodIn wsX10_free (wsV RX10 166 RX0 yX0_freeOnes wsX0_freeOnes) := goodIn_app (goodIn_r _ [15, 16, 17, 18] (by rfl) (by decide +kernel)) ggX10_free_X0_freeOnes
theorem dX10_free_11 : decode cX10_free 11 = .ok (.invokevirtual 166, 3) := by decide +kernel
theorem dX10_free_14 : decode cX10_free 14 = .ok (.goto 5, 3) := by decide +kernel
theorem dX10_under_0 : decode cX10_under 0 = .ok (.aload_n 0, 1) := by decide +kernel
theorem dX10_under_1 : decode cX10_under 1 = .ok (.iload_n 1, 1) := by decide +kernel
set_option maxRecDepth 20000 in
theorem ggX10_under_X10_isPerson : GoodIn wsX10_under wsX10_isPerson := goodIn_r _ [5, 6, 7, 8, 9, 10, 11, 12, 13, 14, 33, 34, 35, 36, 37, 38, 39, 40, 41, 42, 43, 44, 45, 46, 47, 48, 49, 50, 51, 52, 53, 54, 55, 56, 57] (by rfl) (by decide +kernel)
set_option maxRecDepth 20000 in
theorem gX10_under_X10_isPerson : GoodIn wsX10_under (wsV RX10 124 RX10 yX10_isPerson wsX10_isPerson) := goodIn_app (goodIn_r _ [1, 2, 3, 4] (by rfl) (by decide +kernel)) ggX10_under_X10_isPerson
theorem dX10_under_2 : decode cX10_under 2 = .ok (.invokevirtual 124, 3) := by decide +kernel
theorem dX10_under_5 : decode cX10_under 5 = .ok (.ifCond .eq 14, 3) := by decide +kernel
theorem dX10_under_19 : decode cX10_under 19 = .ok (.bipush (-2), 2) := by decide +kernel
theorem dX10_under_21 : decode cX10_under 21 = .ok (.ireturn, 1) := by decide +kernel
theorem dX10_under_8 : decode cX10_under 8 = .ok (.aload_n 0, 1) := by decide +kernel
set_option maxRecDepth 20000 in
theorem ggX10_under_X10_bonds : GoodIn wsX10_under wsX10_bonds := goodIn_r _ [18, 6, 7, 8, 33, 34, 35, 36, 37, 38, 39, 40, 41, 42, 43, 44, 45, 46, 47, 48, 49, 50, 51, 52, 53, 54, 55] (by rfl) (by decide +kernel)
set_option maxRecDepth 20000 in
theorem gX10_under_X10_bonds : GoodIn wsX10_under (wsV RX10 134 RX10 yX10_bonds wsX10_bonds) := goodIn_app (goodIn_r _ [15, 16, 17, 4] (by rfl) (by decide +kernel)) ggX10_under_X10_bonds
theorem dX10_under_9 : decode cX10_under 9 = .ok (.invokevirtual 134, 3) := by decide +kernel
theorem dX10_under_12 : decode cX10_under 12 = .ok (.iload_n 1, 1) := by decide +kernel
set_option maxRecDepth 20000 in
theorem ggX10_under_X0_below : GoodIn wsX10_under wsX0_below := goodIn_r _ [22, 14, 23, 24, 25, 12, 26, 27, 28, 29, 30, 31, 32, 10, 11, 13, 56, 57] (by rfl) (by decide +kernel)
set_option maxRecDepth 20000 in
theorem gX10_under_X0_below : GoodIn wsX10_under (wsV RX10 170 RX0 yX0_below wsX0_below) := goodIn_app (goodIn_r _ [19, 20, 21, 12] (by rfl) (by decide +kernel)) ggX10_under_X0_below
theorem dX10_under_13 : decode cX10_under 13 = .ok (.invokevirtual 170, 3) := by decide +kernel
theorem dX10_under_16 : decode cX10_under 16 = .ok (.goto 5, 3) := by decide +kernel
theorem dX10_time_0 : decode cX10_time 0 = .ok (.aload_n 0, 1) := by decide +kernel
theorem dX10_time_1 : decode cX10_time 1 = .ok (.iload_n 1, 1) := by decide +kernel
set_option maxRecDepth 20000 in
theorem ggX10_time_X10_isPerson : GoodIn wsX10_time wsX10_isPerson := goodIn_r _ [6, 1, 7, 8, 9, 10, 11, 12, 13, 14, 42, 43, 44, 45, 46, 47, 48, 49, 50, 51, 52, 53, 54, 55, 56, 57, 58, 59, 60, 61, 62, 63, 64, 65, 66] (by rfl) (by decide +kernel)
set_option maxRecDepth 20000 in
theorem gX10_time_X10_isPerson : GoodIn wsX10_time (wsV RX10 124 RX10 yX10_isPerson wsX10_isPerson) := goodIn_app (goodIn_r _ [2, 3, 4, 5] (by rfl) (by decide +kernel)) ggX10_time_X10_isPerson
theorem dX10_time_2 : decode cX10_time 2 = .ok (.invokevirtual 124, 3) := by decide +kernel
theorem dX10_time_5 : decode cX10_time 5 = .ok (.ifCond .eq 11, 3) := by decide +kernel
theorem dX10_time_16 : decode cX10_time 16 = .ok (.bipush (-2), 2) := by decide +kernel
theorem dX10_time_18 : decode cX10_time 18 = .ok (.ireturn, 1) := by decide +kernel
theorem dX10_time_8 : decode cX10_time 8 = .ok (.aload_n 0, 1) := by decide +kernel
theorem dX10_time_9 : decode cX10_time 9 = .ok (.iload_n 2, 1) := by decide +kernel
theorem dX10_time_10 : decode cX10_time 10 = .ok (.invokevirtual 124, 3) := by decide +kernel
theorem dX10_time_13 : decode cX10_time 13 = .ok (.ifCond .ne 6, 3) := by decide +kernel
theorem dX10_time_19 : decode cX10_time 19 = .ok (.aload_n 0, 1) := by decide +kernel
theorem dX10_time_20 : decode cX10_time 20 = .ok (.getfield 28, 3) := by decide +kernel
theorem dX10_time_23 : decode cX10_time 23 = .ok (.iload_n 1, 1) := by decide +kernel
theorem dX10_time_24 : decode cX10_time 24 = .ok (.iload_n 2, 1) := by decide +kernel
set_option maxRecDepth 20000 in
theorem ggX10_time_X4_timeTo : GoodIn wsX10_time wsX4_timeTo := goodIn_r _ [19, 20, 21, 22, 23, 24, 25, 12, 26, 27, 28, 29, 30, 31, 32, 10, 11, 13, 14, 33, 34, 35, 36, 37, 38, 39, 40, 41, 53, 54, 55, 56, 57, 58, 59, 60, 61, 62, 63, 64, 65, 66, 67, 68, 69, 70, 71, 72, 73] (by rfl) (by decide +kernel)
set_option maxRecDepth 20000 in
theorem gX10_time_X4_timeTo : GoodIn wsX10_time (wsV RX10 173 RX4 yX4_timeTo wsX4_timeTo) := goodIn_app (goodIn_r _ [15, 16, 17, 18] (by rfl) (by decide +kernel)) ggX10_time_X4_timeTo
theorem dX10_time_25 : decode cX10_time 25 = .ok (.invokevirtual 173, 3) := by decide +kernel
theorem dX10_time_28 : decode cX10_time 28 = .ok (.ireturn, 1) := by decide +kernel
theorem dX10_top_0 : decode cX10_top 0 = .ok (.aload_n 0, 1) := by decide +kernel
theorem dX10_top_1 : decode cX10_top 1 = .ok (.iload_n 1, 1) := by decide +kernel
set_option maxRecDepth 20000 in
theorem ggX10_top_X10_isPerson : GoodIn wsX10_top wsX10_isPerson := goodIn_r _ [5, 6, 7, 8, 9, 10, 11, 12, 13, 14, 29, 30, 31, 32, 33, 34, 35, 36, 37, 38, 39, 40, 41, 42, 43, 44, 45, 46, 47, 48, 49, 50, 51, 52, 53] (by rfl) (by decide +kernel)
set_option maxRecDepth 20000 in
theorem gX10_top_X10_isPerson : GoodIn wsX10_top (wsV RX10 124 RX10 yX10_isPerson wsX10_isPerson) := goodIn_app (goodIn_r _ [1, 2, 3, 4] (by rfl) (by decide +kernel)) ggX10_top_X10_isPerson
theorem dX10_top_2 : decode cX10_top 2 = .ok (.invokevirtual 124, 3) := by decide +kernel
theorem dX10_top_5 : decode cX10_top 5 = .ok (.ifCond .eq 14, 3) := by decide +kernel
theorem dX10_top_19 : decode cX10_top 19 = .ok (.bipush (-2), 2) := by decide +kernel
theorem dX10_top_21 : decode cX10_top 21 = .ok (.ireturn, 1) := by decide +kernel
theorem dX10_top_8 : decode cX10_top 8 = .ok (.aload_n 0, 1) := by decide +kernel
set_option maxRecDepth 20000 in
theorem ggX10_top_X10_bonds : GoodIn wsX10_top wsX10_bonds := goodIn_r _ [18, 6, 7, 8, 29, 30, 31, 32, 33, 34, 35, 36, 37, 38, 39, 40, 41, 42, 43, 44, 45, 46, 47, 48, 49, 50, 51] (by rfl) (by decide +kernel)
set_option maxRecDepth 20000 in
theorem gX10_top_X10_bonds : GoodIn wsX10_top (wsV RX10 134 RX10 yX10_bonds wsX10_bonds) := goodIn_app (goodIn_r _ [15, 16, 17, 4] (by rfl) (by decide +kernel)) ggX10_top_X10_bonds
theorem dX10_top_9 : decode cX10_top 9 = .ok (.invokevirtual 134, 3) := by decide +kernel
theorem dX10_top_12 : decode cX10_top 12 = .ok (.iload_n 1, 1) := by decide +kernel
set_option maxRecDepth 20000 in
theorem ggX10_top_X0_topOf : GoodIn wsX10_top wsX0_topOf := goodIn_r _ [22, 23, 24, 25, 12, 26, 27, 28, 10, 11, 13, 14, 52, 53] (by rfl) (by decide +kernel)
set_option maxRecDepth 20000 in
theorem gX10_top_X0_topOf : GoodIn wsX10_top (wsV RX10 176 RX0 yX0_topOf wsX0_topOf) := goodIn_app (goodIn_r _ [19, 20, 21, 12] (by rfl) (by decide +kernel)) ggX10_top_X0_topOf
theorem dX10_top_13 : decode cX10_top 13 = .ok (.invokevirtual 176, 3) := by decide +kernel
theorem dX10_top_16 : decode cX10_top 16 = .ok (.goto 5, 3) := by decide +kernel
theorem dX10_ring_0 : decode cX10_ring 0 = .ok (.aload_n 0, 1) := by decide +kernel
theorem dX10_ring_1 : decode cX10_ring 1 = .ok (.iload_n 1, 1) := by decide +kernel
set_option maxRecDepth 20000 in
theorem ggX10_ring_X10_isPerson : GoodIn wsX10_ring wsX10_isPerson := goodIn_r _ [5, 6, 7, 8, 9, 10, 11, 12, 13, 14, 37, 38, 39, 40, 41, 42, 43, 44, 45, 46, 47, 48, 49, 50, 51, 52, 53, 54, 55, 56, 57, 58, 59, 60, 61] (by rfl) (by decide +kernel)
set_option maxRecDepth 20000 in
theorem gX10_ring_X10_isPerson : GoodIn wsX10_ring (wsV RX10 124 RX10 yX10_isPerson wsX10_isPerson) := goodIn_app (goodIn_r _ [1, 2, 3, 4] (by rfl) (by decide +kernel)) ggX10_ring_X10_isPerson
theorem dX10_ring_2 : decode cX10_ring 2 = .ok (.invokevirtual 124, 3) := by decide +kernel
theorem dX10_ring_5 : decode cX10_ring 5 = .ok (.ifCond .eq 14, 3) := by decide +kernel
theorem dX10_ring_19 : decode cX10_ring 19 = .ok (.bipush (-2), 2) := by decide +kernel
theorem dX10_ring_21 : decode cX10_ring 21 = .ok (.ireturn, 1) := by decide +kernel
theorem dX10_ring_8 : decode cX10_ring 8 = .ok (.aload_n 0, 1) := by decide +kernel
set_option maxRecDepth 20000 in
theorem ggX10_ring_X10_bonds : GoodIn wsX10_ring wsX10_bonds := goodIn_r _ [18, 6, 7, 8, 37, 38, 39, 40, 41, 42, 43, 44, 45, 46, 47, 48, 49, 50, 51, 52, 53, 54, 55, 56, 57, 58, 59] (by rfl) (by decide +kernel)
set_option maxRecDepth 20000 in
theorem gX10_ring_X10_bonds : GoodIn wsX10_ring (wsV RX10 134 RX10 yX10_bonds wsX10_bonds) := goodIn_app (goodIn_r _ [15, 16, 17, 4] (by rfl) (by decide +kernel)) ggX10_ring_X10_bonds
theorem dX10_ring_9 : decode cX10_ring 9 = .ok (.invokevirtual 134, 3) := by decide +kernel
theorem dX10_ring_12 : decode cX10_ring 12 = .ok (.iload_n 1, 1) := by decide +kernel
set_option maxRecDepth 20000 in
theorem ggX10_ring_X0_ringOf : GoodIn wsX10_ring wsX0_ringOf := goodIn_r _ [22, 23, 24, 25, 26, 27, 28, 29, 12, 30, 31, 32, 33, 34, 35, 36, 10, 11, 13, 14, 60, 61] (by rfl) (by decide +kernel)
set_option maxRecDepth 20000 in
theorem gX10_ring_X0_ringOf : GoodIn wsX10_ring (wsV RX10 179 RX0 yX0_ringOf wsX0_ringOf) := goodIn_app (goodIn_r _ [19, 20, 21, 12] (by rfl) (by decide +kernel)) ggX10_ring_X0_ringOf
theorem dX10_ring_13 : decode cX10_ring 13 = .ok (.invokevirtual 179, 3) := by decide +kernel
theorem dX10_ring_16 : decode cX10_ring 16 = .ok (.goto 5, 3) := by decide +kernel
theorem dX10_rings_0 : decode cX10_rings 0 = .ok (.aload_n 0, 1) := by decide +kernel
set_option maxRecDepth 20000 in
theorem ggX10_rings_X10_hasCity : GoodIn wsX10_rings wsX10_hasCity := goodIn_r _ [5, 6, 7, 8, 46, 47, 48, 49, 50, 51, 52, 53, 54, 55, 56, 57, 58, 59, 60, 61, 62, 63, 64, 65, 66, 67] (by rfl) (by decide +kernel)
set_option maxRecDepth 20000 in
theorem gX10_rings_X10_hasCity : GoodIn wsX10_rings (wsV RX10 163 RX10 yX10_hasCity wsX10_hasCity) := goodIn_app (goodIn_r _ [1, 2, 3, 4] (by rfl) (by decide +kernel)) ggX10_rings_X10_hasCity
theorem dX10_rings_1 : decode cX10_rings 1 = .ok (.invokevirtual 163, 3) := by decide +kernel
theorem dX10_rings_4 : decode cX10_rings 4 = .ok (.ifCond .eq 13, 3) := by decide +kernel
theorem dX10_rings_17 : decode cX10_rings 17 = .ok (.bipush (-2), 2) := by decide +kernel
theorem dX10_rings_19 : decode cX10_rings 19 = .ok (.ireturn, 1) := by decide +kernel
theorem dX10_rings_7 : decode cX10_rings 7 = .ok (.aload_n 0, 1) := by decide +kernel
set_option maxRecDepth 20000 in
theorem ggX10_rings_X10_bonds : GoodIn wsX10_rings wsX10_bonds := goodIn_r _ [12, 6, 13, 14, 46, 47, 48, 49, 50, 51, 52, 53, 54, 55, 56, 57, 58, 59, 60, 68, 69, 70, 71, 72, 73, 74, 75] (by rfl) (by decide +kernel)
set_option maxRecDepth 20000 in
theorem gX10_rings_X10_bonds : GoodIn wsX10_rings (wsV RX10 134 RX10 yX10_bonds wsX10_bonds) := goodIn_app (goodIn_r _ [9, 10, 11, 4] (by rfl) (by decide +kernel)) ggX10_rings_X10_bonds
theorem dX10_rings_8 : decode cX10_rings 8 = .ok (.invokevirtual 134, 3) := by decide +kernel
set_option maxRecDepth 20000 in
theorem ggX10_rings_X0_ringCount : GoodIn wsX10_rings wsX0_ringCount := goodIn_r _ [19, 20, 21, 22, 23, 18, 24, 25, 26, 27, 28, 29, 30, 31, 32, 33, 34, 35, 36, 37, 38, 39, 40, 41, 42, 43, 44, 45, 76, 77] (by rfl) (by decide +kernel)
set_option maxRecDepth 20000 in
theorem gX10_rings_X0_ringCount : GoodIn wsX10_rings (wsV RX10 182 RX0 yX0_ringCount wsX0_ringCount) := goodIn_app (goodIn_r _ [15, 16, 17, 18] (by rfl) (by decide +kernel)) ggX10_rings_X0_ringCount
theorem dX10_rings_11 : decode cX10_rings 11 = .ok (.invokevirtual 182, 3) := by decide +kernel
theorem dX10_rings_14 : decode cX10_rings 14 = .ok (.goto 5, 3) := by decide +kernel
theorem dX10_doer_0 : decode cX10_doer 0 = .ok (.aload_n 0, 1) := by decide +kernel
theorem dX10_doer_1 : decode cX10_doer 1 = .ok (.iload_n 1, 1) := by decide +kernel
set_option maxRecDepth 20000 in
theorem ggX10_doer_X10_isPerson : GoodIn wsX10_doer wsX10_isPerson := goodIn_r _ [6, 1, 7, 8, 9, 10, 11, 12, 13, 14, 57, 58, 59, 60, 61, 62, 63, 64, 65, 66, 67, 68, 69, 70, 71, 72, 73, 74, 75, 76, 77, 78, 79, 80, 81] (by rfl) (by decide +kernel)
set_option maxRecDepth 20000 in
theorem gX10_doer_X10_isPerson : GoodIn wsX10_doer (wsV RX10 124 RX10 yX10_isPerson wsX10_isPerson) := goodIn_app (goodIn_r _ [2, 3, 4, 5] (by rfl) (by decide +kernel)) ggX10_doer_X10_isPerson
theorem dX10_doer_2 : decode cX10_doer 2 = .ok (.invokevirtual 124, 3) := by decide +kernel
theorem dX10_doer_5 : decode cX10_doer 5 = .ok (.ifCond .eq 10, 3) := by decide +kernel
theorem dX10_doer_15 : decode cX10_doer 15 = .ok (.bipush (-2), 2) := by decide +kernel
theorem dX10_doer_17 : decode cX10_doer 17 = .ok (.ireturn, 1) := by decide +kernel
theorem dX10_doer_8 : decode cX10_doer 8 = .ok (.iload_n 2, 1) := by decide +kernel
set_option maxRecDepth 20000 in
theorem ggX10_doer_X10_isDeed : GoodIn wsX10_doer wsX10_isDeed := goodIn_r _ [17] (by rfl) (by decide +kernel)
set_option maxRecDepth 20000 in
theorem gX10_doer_X10_isDeed : GoodIn wsX10_doer (va_wsS RX10 188 yX10_isDeed wsX10_isDeed) := goodIn_app (goodIn_r _ [15, 16, 5] (by rfl) (by decide +kernel)) ggX10_doer_X10_isDeed
theorem dX10_doer_9 : decode cX10_doer 9 = .ok (.invokestatic 188, 3) := by decide +kernel
theorem dX10_doer_12 : decode cX10_doer 12 = .ok (.ifCond .ne 6, 3) := by decide +kernel
theorem dX10_doer_18 : decode cX10_doer 18 = .ok (.aload_n 0, 1) := by decide +kernel
theorem dX10_doer_19 : decode cX10_doer 19 = .ok (.getfield 28, 3) := by decide +kernel
theorem dX10_doer_22 : decode cX10_doer 22 = .ok (.iload_n 1, 1) := by decide +kernel
theorem dX10_doer_23 : decode cX10_doer 23 = .ok (.iload_n 2, 1) := by decide +kernel
set_option maxRecDepth 20000 in
theorem ggX10_doer_X4_quickestDoer : GoodIn wsX10_doer wsX4_quickestDoer := goodIn_r _ [22, 23, 24, 25, 26, 27, 28, 29, 21, 30, 31, 32, 33, 12, 34, 35, 36, 37, 38, 39, 40, 10, 11, 13, 14, 41, 42, 43, 44, 45, 46, 47, 48, 49, 50, 51, 52, 53, 54, 55, 5, 56, 68, 69, 70, 71, 72, 73, 74, 75, 76, 77, 78, 79, 80, 81, 82, 83, 84, 85, 86, 87, 88] (by rfl) (by decide +kernel)
set_option maxRecDepth 20000 in
theorem gX10_doer_X4_quickestDoer : GoodIn wsX10_doer (wsV RX10 191 RX4 yX4_quickestDoer wsX4_quickestDoer) := goodIn_app (goodIn_r _ [18, 19, 20, 21] (by rfl) (by decide +kernel)) ggX10_doer_X4_quickestDoer
theorem dX10_doer_24 : decode cX10_doer 24 = .ok (.invokevirtual 191, 3) := by decide +kernel
theorem dX10_doer_27 : decode cX10_doer 27 = .ok (.ireturn, 1) := by decide +kernel
theorem dX10_chain_0 : decode cX10_chain 0 = .ok (.aload_n 0, 1) := by decide +kernel
theorem dX10_chain_1 : decode cX10_chain 1 = .ok (.iload_n 1, 1) := by decide +kernel
theorem dX10_chain_2 : decode cX10_chain 2 = .ok (.iload_n 2, 1) := by decide +kernel
set_option maxRecDepth 20000 in
theorem ggX10_chain_X10_doer : GoodIn wsX10_chain wsX10_doer := goodIn_r _ [6, 1, 7, 8, 9, 5, 10, 11, 12, 13, 14, 15, 16, 17, 18, 19, 20, 21, 22, 23, 24, 25, 26, 27, 28, 29, 30, 31, 32, 33, 34, 35, 36, 37, 38, 39, 40, 41, 42, 43, 44, 45, 46, 47, 48, 49, 50, 51, 52, 53, 54, 55, 56, 57, 58, 59, 60, 62, 63, 64, 65, 66, 67, 68, 69, 70, 71, 72, 73, 74, 75, 76, 77, 78, 79, 80, 81, 82, 83, 84, 85, 86, 87, 88, 89, 90, 91, 92, 93] (by rfl) (by decide +kernel)
set_option maxRecDepth 20000 in
theorem gX10_chain_X10_doer : GoodIn wsX10_chain (wsV RX10 185 RX10 yX10_doer wsX10_doer) := goodIn_app (goodIn_r _ [2, 3, 4, 5] (by rfl) (by decide +kernel)) ggX10_chain_X10_doer
theorem dX10_chain_3 : decode cX10_chain 3 = .ok (.invokevirtual 185, 3) := by decide +kernel
theorem dX10_chain_6 : decode cX10_chain 6 = .ok (.istore_n 3, 1) := by decide +kernel
theorem dX10_chain_7 : decode cX10_chain 7 = .ok (.iload_n 3, 1) := by decide +kernel
theorem dX10_chain_8 : decode cX10_chain 8 = .ok (.ifCond .ge 7, 3) := by decide +kernel
theorem dX10_chain_15 : decode cX10_chain 15 = .ok (.aload_n 0, 1) := by decide +kernel
theorem dX10_chain_16 : decode cX10_chain 16 = .ok (.getfield 28, 3) := by decide +kernel
theorem dX10_chain_19 : decode cX10_chain 19 = .ok (.iload_n 1, 1) := by decide +kernel
theorem dX10_chain_20 : decode cX10_chain 20 = .ok (.iload_n 3, 1) := by decide +kernel
set_option maxRecDepth 20000 in
theorem ggX10_chain_X4_timeTo : GoodIn wsX10_chain wsX4_timeTo := goodIn_r _ [34, 27, 28, 30, 35, 36, 37, 16, 38, 39, 40, 41, 42, 43, 44, 14, 15, 17, 18, 45, 46, 47, 48, 49, 50, 51, 52, 53, 73, 74, 75, 76, 77, 78, 79, 80, 81, 82, 83, 84, 85, 86, 87, 88, 89, 90, 91, 92, 93] (by rfl) (by decide +kernel)
set_option maxRecDepth 20000 in
theorem gX10_chain_X4_timeTo : GoodIn wsX10_chain (wsV RX10 173 RX4 yX4_timeTo wsX4_timeTo) := goodIn_app (goodIn_r _ [61, 32, 33, 25] (by rfl) (by decide +kernel)) ggX10_chain_X4_timeTo
theorem dX10_chain_21 : decode cX10_chain 21 = .ok (.invokevirtual 173, 3) := by decide +kernel
theorem dX10_chain_24 : decode cX10_chain 24 = .ok (.ireturn, 1) := by decide +kernel
theorem dX10_chain_11 : decode cX10_chain 11 = .ok (.iload_n 3, 1) := by decide +kernel
theorem dX10_chain_12 : decode cX10_chain 12 = .ok (.goto 12, 3) := by decide +kernel
theorem dX10_asked_0 : decode cX10_asked 0 = .ok (.aload_n 0, 1) := by decide +kernel
theorem dX10_asked_1 : decode cX10_asked 1 = .ok (.iload_n 1, 1) := by decide +kernel
theorem dX10_asked_2 : decode cX10_asked 2 = .ok (.iload_n 2, 1) := by decide +kernel
set_option maxRecDepth 20000 in
theorem ggX10_asked_X10_doer : GoodIn wsX10_asked wsX10_doer := goodIn_r _ [5, 6, 7, 8, 9, 4, 10, 11, 12, 13, 14, 15, 16, 17, 18, 19, 20, 21, 22, 23, 24, 25, 26, 27, 28, 29, 30, 31, 32, 33, 34, 35, 36, 37, 38, 39, 40, 41, 42, 43, 44, 45, 46, 47, 48, 49, 50, 51, 52, 53, 54, 55, 56, 57, 58, 59, 60, 70, 71, 72, 73, 74, 75, 76, 77, 78, 79, 80, 81, 82, 83, 84, 85, 86, 87, 88, 89, 90, 91, 92, 93, 94, 95, 96, 97, 98, 99, 100, 101] (by rfl) (by decide +kernel)
set_option maxRecDepth 20000 in
theorem gX10_asked_X10_doer : GoodIn wsX10_asked (wsV RX10 185 RX10 yX10_doer wsX10_doer) := goodIn_app (goodIn_r _ [1, 2, 3, 4] (by rfl) (by decide +kernel)) ggX10_asked_X10_doer
theorem dX10_asked_3 : decode cX10_asked 3 = .ok (.invokevirtual 185, 3) := by decide +kernel
theorem dX10_asked_6 : decode cX10_asked 6 = .ok (.istore 4, 2) := by decide +kernel
theorem dX10_asked_8 : decode cX10_asked 8 = .ok (.iload 4, 2) := by decide +kernel
theorem dX10_asked_10 : decode cX10_asked 10 = .ok (.ifCond .ge 6, 3) := by decide +kernel
theorem dX10_asked_16 : decode cX10_asked 16 = .ok (.aload_n 0, 1) := by decide +kernel
set_option maxRecDepth 20000 in
theorem ggX10_asked_X10_bonds : GoodIn wsX10_asked wsX10_bonds := goodIn_r _ [64, 6, 11, 12, 70, 71, 72, 73, 74, 75, 76, 77, 78, 79, 80, 81, 82, 83, 84, 85, 86, 87, 88, 89, 90, 91, 92] (by rfl) (by decide +kernel)
set_option maxRecDepth 20000 in
theorem gX10_asked_X10_bonds : GoodIn wsX10_asked (wsV RX10 134 RX10 yX10_bonds wsX10_bonds) := goodIn_app (goodIn_r _ [61, 62, 63, 4] (by rfl) (by decide +kernel)) ggX10_asked_X10_bonds
theorem dX10_asked_17 : decode cX10_asked 17 = .ok (.invokevirtual 134, 3) := by decide +kernel
theorem dX10_asked_20 : decode cX10_asked 20 = .ok (.iload_n 1, 1) := by decide +kernel
theorem dX10_asked_21 : decode cX10_asked 21 = .ok (.iload 4, 2) := by decide +kernel
set_option maxRecDepth 20000 in
theorem ggX10_asked_X0_stepsTo : GoodIn wsX10_asked wsX0_stepsTo := goodIn_r _ [38, 39, 40, 41, 16, 42, 43, 44, 14, 15, 17, 18, 93, 94] (by rfl) (by decide +kernel)
set_option maxRecDepth 20000 in
theorem gX10_asked_X0_stepsTo : GoodIn wsX10_asked (wsV RX10 194 RX0 yX0_stepsTo wsX0_stepsTo) := goodIn_app (goodIn_r _ [65, 36, 37, 16] (by rfl) (by decide +kernel)) ggX10_asked_X0_stepsTo
theorem dX10_asked_23 : decode cX10_asked 23 = .ok (.invokevirtual 194, 3) := by decide +kernel
theorem dX10_asked_26 : decode cX10_asked 26 = .ok (.istore 5, 2) := by decide +kernel
theorem dX10_asked_28 : decode cX10_asked 28 = .ok (.iload_n 3, 1) := by decide +kernel
theorem dX10_asked_29 : decode cX10_asked 29 = .ok (.ifCond .lt 9, 3) := by decide +kernel
theorem dX10_asked_38 : decode cX10_asked 38 = .ok (.iconst (-1), 1) := by decide +kernel
theorem dX10_asked_39 : decode cX10_asked 39 = .ok (.ireturn, 1) := by decide +kernel
theorem dX10_asked_32 : decode cX10_asked 32 = .ok (.iload_n 3, 1) := by decide +kernel
theorem dX10_asked_33 : decode cX10_asked 33 = .ok (.iload 5, 2) := by decide +kernel
theorem dX10_asked_35 : decode cX10_asked 35 = .ok (.if_icmp .lt 5, 3) := by decide +kernel
theorem dX10_asked_40 : decode cX10_asked 40 = .ok (.aload_n 0, 1) := by decide +kernel
theorem dX10_asked_41 : decode cX10_asked 41 = .ok (.invokevirtual 134, 3) := by decide +kernel
theorem dX10_asked_44 : decode cX10_asked 44 = .ok (.iload 4, 2) := by decide +kernel
theorem dX10_asked_46 : decode cX10_asked 46 = .ok (.iload 5, 2) := by decide +kernel
theorem dX10_asked_48 : decode cX10_asked 48 = .ok (.iconst 1, 1) := by decide +kernel
theorem dX10_asked_49 : decode cX10_asked 49 = .ok (.isub, 1) := by decide +kernel
theorem dX10_asked_50 : decode cX10_asked 50 = .ok (.iload_n 3, 1) := by decide +kernel
theorem dX10_asked_51 : decode cX10_asked 51 = .ok (.isub, 1) := by decide +kernel
set_option maxRecDepth 20000 in
theorem ggX10_asked_X0_climb : GoodIn wsX10_asked wsX0_climb := goodIn_r _ [69, 39, 40, 41, 16, 42, 43, 44, 14, 15, 17, 18, 93, 94] (by rfl) (by decide +kernel)
set_option maxRecDepth 20000 in
theorem gX10_asked_X0_climb : GoodIn wsX10_asked (wsV RX10 197 RX0 yX0_climb wsX0_climb) := goodIn_app (goodIn_r _ [66, 67, 68, 16] (by rfl) (by decide +kernel)) ggX10_asked_X0_climb
theorem dX10_asked_52 : decode cX10_asked 52 = .ok (.invokevirtual 197, 3) := by decide +kernel
theorem dX10_asked_55 : decode cX10_asked 55 = .ok (.ireturn, 1) := by decide +kernel
theorem dX10_asked_13 : decode cX10_asked 13 = .ok (.iload 4, 2) := by decide +kernel
theorem dX10_asked_15 : decode cX10_asked 15 = .ok (.ireturn, 1) := by decide +kernel
theorem dX10_can_0 : decode cX10_can 0 = .ok (.aload_n 0, 1) := by decide +kernel
theorem dX10_can_1 : decode cX10_can 1 = .ok (.iload_n 1, 1) := by decide +kernel
set_option maxRecDepth 20000 in
theorem ggX10_can_X10_isPerson : GoodIn wsX10_can wsX10_isPerson := goodIn_r _ [7, 1, 8, 9, 10, 11, 12, 13, 14, 15, 54, 55, 56, 57, 58, 59, 60, 61, 62, 63, 64, 65, 66, 67, 68, 69, 70, 71, 72, 73, 74, 75, 76, 77, 78] (by rfl) (by decide +kernel)
set_option maxRecDepth 20000 in
theorem gX10_can_X10_isPerson : GoodIn wsX10_can (wsV RX10 124 RX10 yX10_isPerson wsX10_isPerson) := goodIn_app (goodIn_r _ [3, 4, 5, 6] (by rfl) (by decide +kernel)) ggX10_can_X10_isPerson
theorem dX10_can_2 : decode cX10_can 2 = .ok (.invokevirtual 124, 3) := by decide +kernel
theorem dX10_can_5 : decode cX10_can 5 = .ok (.ifCond .ne 6, 3) := by decide +kernel
theorem dX10_can_11 : decode cX10_can 11 = .ok (.aload_n 0, 1) := by decide +kernel
theorem dX10_can_12 : decode cX10_can 12 = .ok (.getfield 28, 3) := by decide +kernel
theorem dX10_can_15 : decode cX10_can 15 = .ok (.getfield 49, 3) := by decide +kernel
theorem dX10_can_18 : decode cX10_can 18 = .ok (.iload_n 1, 1) := by decide +kernel
set_option maxRecDepth 20000 in
theorem ggX10_can_X9_wishesOf : GoodIn wsX10_can wsX9_wishesOf := goodIn_r _ [20, 21, 22, 23, 11, 12, 13, 14, 15, 79, 80, 81, 82, 83, 84, 85, 77, 78] (by rfl) (by decide +kernel)
set_option maxRecDepth 20000 in
theorem gX10_can_X9_wishesOf : GoodIn wsX10_can (wsV RX10 144 RX9 yX9_wishesOf wsX9_wishesOf) := goodIn_app (goodIn_r _ [16, 17, 18, 19] (by rfl) (by decide +kernel)) ggX10_can_X9_wishesOf
theorem dX10_can_19 : decode cX10_can 19 = .ok (.invokevirtual 144, 3) := by decide +kernel
theorem dX10_can_22 : decode cX10_can 22 = .ok (.aload_n 0, 1) := by decide +kernel
theorem dX10_can_23 : decode cX10_can 23 = .ok (.getfield 28, 3) := by decide +kernel
theorem dX10_can_26 : decode cX10_can 26 = .ok (.getfield 49, 3) := by decide +kernel
theorem dX10_can_29 : decode cX10_can 29 = .ok (.aload_n 0, 1) := by decide +kernel
set_option maxRecDepth 20000 in
theorem ggX10_can_X10_bonds : GoodIn wsX10_can wsX10_bonds := goodIn_r _ [27, 1, 8, 9, 54, 55, 56, 57, 58, 59, 60, 61, 62, 63, 64, 65, 66, 67, 68, 69, 70, 71, 72, 73, 74, 75, 76] (by rfl) (by decide +kernel)
set_option maxRecDepth 20000 in
theorem gX10_can_X10_bonds : GoodIn wsX10_can (wsV RX10 134 RX10 yX10_bonds wsX10_bonds) := goodIn_app (goodIn_r _ [24, 25, 26, 6] (by rfl) (by decide +kernel)) ggX10_can_X10_bonds
theorem dX10_can_30 : decode cX10_can 30 = .ok (.invokevirtual 134, 3) := by decide +kernel
theorem dX10_can_33 : decode cX10_can 33 = .ok (.iload_n 1, 1) := by decide +kernel
set_option maxRecDepth 20000 in
theorem ggX10_can_X0_below : GoodIn wsX10_can wsX0_below := goodIn_r _ [31, 15, 32, 33, 34, 13, 35, 36, 37, 38, 39, 40, 41, 11, 12, 14, 77, 78] (by rfl) (by decide +kernel)
set_option maxRecDepth 20000 in
theorem gX10_can_X0_below : GoodIn wsX10_can (wsV RX10 170 RX0 yX0_below wsX0_below) := goodIn_app (goodIn_r _ [28, 29, 30, 13] (by rfl) (by decide +kernel)) ggX10_can_X0_below
theorem dX10_can_34 : decode cX10_can 34 = .ok (.invokevirtual 170, 3) := by decide +kernel
set_option maxRecDepth 20000 in
theorem ggX10_can_X9_deedsOfAll : GoodIn wsX10_can wsX9_deedsOfAll := goodIn_r _ [45, 21, 46, 47, 6, 48, 49, 50, 51, 19, 52, 53, 23, 11, 12, 13, 14, 15, 79, 80, 81, 82, 83, 84, 85, 77, 78] (by rfl) (by decide +kernel)
set_option maxRecDepth 20000 in
theorem gX10_can_X9_deedsOfAll : GoodIn wsX10_can (wsV RX10 200 RX9 yX9_deedsOfAll wsX9_deedsOfAll) := goodIn_app (goodIn_r _ [42, 43, 44, 19] (by rfl) (by decide +kernel)) ggX10_can_X9_deedsOfAll
theorem dX10_can_37 : decode cX10_can 37 = .ok (.invokevirtual 200, 3) := by decide +kernel
theorem dX10_can_40 : decode cX10_can 40 = .ok (.iand, 1) := by decide +kernel
theorem dX10_can_41 : decode cX10_can 41 = .ok (.ireturn, 1) := by decide +kernel
theorem dX10_can_8 : decode cX10_can 8 = .ok (.bipush (-2), 2) := by decide +kernel
theorem dX10_can_10 : decode cX10_can 10 = .ok (.ireturn, 1) := by decide +kernel
theorem dX10_why_0 : decode cX10_why 0 = .ok (.aload_n 0, 1) := by decide +kernel
theorem dX10_why_1 : decode cX10_why 1 = .ok (.iload_n 1, 1) := by decide +kernel
set_option maxRecDepth 20000 in
theorem ggX10_why_X10_isPerson : GoodIn wsX10_why wsX10_isPerson := goodIn_r _ [7, 1, 2, 8, 9, 10, 11, 12, 13, 14, 46, 47, 48, 49, 50, 51, 52, 53, 54, 55, 56, 57, 58, 59, 60, 61, 62, 63, 64, 65, 66, 67, 68, 69, 70] (by rfl) (by decide +kernel)
set_option maxRecDepth 20000 in
theorem gX10_why_X10_isPerson : GoodIn wsX10_why (wsV RX10 124 RX10 yX10_isPerson wsX10_isPerson) := goodIn_app (goodIn_r _ [3, 4, 5, 6] (by rfl) (by decide +kernel)) ggX10_why_X10_isPerson
theorem dX10_why_2 : decode cX10_why 2 = .ok (.invokevirtual 124, 3) := by decide +kernel
theorem dX10_why_5 : decode cX10_why 5 = .ok (.ifCond .eq 18, 3) := by decide +kernel
theorem dX10_why_23 : decode cX10_why 23 = .ok (.bipush (-2), 2) := by decide +kernel
theorem dX10_why_25 : decode cX10_why 25 = .ok (.ireturn, 1) := by decide +kernel
theorem dX10_why_8 : decode cX10_why 8 = .ok (.aload_n 0, 1) := by decide +kernel
theorem dX10_why_9 : decode cX10_why 9 = .ok (.iload_n 2, 1) := by decide +kernel
theorem dX10_why_10 : decode cX10_why 10 = .ok (.invokevirtual 124, 3) := by decide +kernel
theorem dX10_why_13 : decode cX10_why 13 = .ok (.ifCond .eq 10, 3) := by decide +kernel
theorem dX10_why_16 : decode cX10_why 16 = .ok (.iload_n 3, 1) := by decide +kernel
set_option maxRecDepth 20000 in
theorem ggX10_why_X10_isDeed : GoodIn wsX10_why wsX10_isDeed := goodIn_r _ [17] (by rfl) (by decide +kernel)
set_option maxRecDepth 20000 in
theorem gX10_why_X10_isDeed : GoodIn wsX10_why (va_wsS RX10 188 yX10_isDeed wsX10_isDeed) := goodIn_app (goodIn_r _ [15, 16, 6] (by rfl) (by decide +kernel)) ggX10_why_X10_isDeed
theorem dX10_why_17 : decode cX10_why 17 = .ok (.invokestatic 188, 3) := by decide +kernel
theorem dX10_why_20 : decode cX10_why 20 = .ok (.ifCond .ne 6, 3) := by decide +kernel
theorem dX10_why_26 : decode cX10_why 26 = .ok (.aload_n 0, 1) := by decide +kernel
theorem dX10_why_27 : decode cX10_why 27 = .ok (.getfield 28, 3) := by decide +kernel
theorem dX10_why_30 : decode cX10_why 30 = .ok (.getfield 147, 3) := by decide +kernel
theorem dX10_why_33 : decode cX10_why 33 = .ok (.iload_n 1, 1) := by decide +kernel
theorem dX10_why_34 : decode cX10_why 34 = .ok (.iload_n 2, 1) := by decide +kernel
theorem dX10_why_35 : decode cX10_why 35 = .ok (.iload_n 3, 1) := by decide +kernel
set_option maxRecDepth 20000 in
theorem ggX10_why_X2_refusal : GoodIn wsX10_why wsX2_refusal := goodIn_r _ [22, 23, 24, 25, 26, 21, 27, 28, 29, 30, 31, 32, 12, 33, 34, 35, 10, 11, 13, 14, 36, 6, 37, 38, 39, 40, 41, 42, 43, 44, 45, 61, 62, 63, 64, 65, 66, 67, 68, 69, 70, 71, 72, 73, 74, 75, 76, 77] (by rfl) (by decide +kernel)
set_option maxRecDepth 20000 in
theorem gX10_why_X2_refusal : GoodIn wsX10_why (wsV RX10 203 RX2 yX2_refusal wsX2_refusal) := goodIn_app (goodIn_r _ [18, 19, 20, 21] (by rfl) (by decide +kernel)) ggX10_why_X2_refusal
theorem dX10_why_36 : decode cX10_why 36 = .ok (.invokevirtual 203, 3) := by decide +kernel
theorem dX10_why_39 : decode cX10_why 39 = .ok (.ireturn, 1) := by decide +kernel
theorem dX10_ask_0 : decode cX10_ask 0 = .ok (.aload_n 0, 1) := by decide +kernel
theorem dX10_ask_1 : decode cX10_ask 1 = .ok (.iload_n 1, 1) := by decide +kernel
theorem dX10_ask_2 : decode cX10_ask 2 = .ok (.iload_n 2, 1) := by decide +kernel
theorem dX10_ask_3 : decode cX10_ask 3 = .ok (.iload_n 3, 1) := by decide +kernel
set_option maxRecDepth 20000 in
theorem ggX10_ask_X10_why : GoodIn wsX10_ask wsX10_why := goodIn_r _ [7, 1, 2, 8, 9, 10, 6, 11, 12, 13, 14, 15, 16, 17, 18, 19, 20, 21, 22, 23, 24, 25, 26, 27, 28, 29, 30, 31, 32, 33, 34, 35, 36, 37, 38, 39, 40, 41, 42, 43, 44, 45, 46, 47, 48, 49, 105, 106, 107, 108, 109, 110, 111, 112, 113, 114, 115, 116, 117, 118, 119, 120, 121, 122, 123, 124, 125, 126, 127, 128, 129, 130, 131, 132, 133, 134, 135, 136] (by rfl) (by decide +kernel)
set_option maxRecDepth 20000 in
theorem gX10_ask_X10_why : GoodIn wsX10_ask (wsV RX10 207 RX10 yX10_why wsX10_why) := goodIn_app (goodIn_r _ [3, 4, 5, 6] (by rfl) (by decide +kernel)) ggX10_ask_X10_why
theorem dX10_ask_4 : decode cX10_ask 4 = .ok (.invokevirtual 207, 3) := by decide +kernel
theorem dX10_ask_7 : decode cX10_ask 7 = .ok (.istore 4, 2) := by decide +kernel
theorem dX10_ask_9 : decode cX10_ask 9 = .ok (.iload 4, 2) := by decide +kernel
theorem dX10_ask_11 : decode cX10_ask 11 = .ok (.bipush (-2), 2) := by decide +kernel
theorem dX10_ask_13 : decode cX10_ask 13 = .ok (.if_icmp .ne 6, 3) := by decide +kernel
theorem dX10_ask_19 : decode cX10_ask 19 = .ok (.iload 4, 2) := by decide +kernel
theorem dX10_ask_21 : decode cX10_ask 21 = .ok (.ifCond .ne 13, 3) := by decide +kernel
theorem dX10_ask_34 : decode cX10_ask 34 = .ok (.bipush (-5), 2) := by decide +kernel
theorem dX10_ask_36 : decode cX10_ask 36 = .ok (.ireturn, 1) := by decide +kernel
theorem dX10_ask_24 : decode cX10_ask 24 = .ok (.aload_n 0, 1) := by decide +kernel
theorem dX10_ask_25 : decode cX10_ask 25 = .ok (.getfield 28, 3) := by decide +kernel
set_option maxRecDepth 20000 in
theorem ggX10_ask_X4_hasRoom : GoodIn wsX10_ask wsX4_hasRoom := goodIn_r _ [54, 55, 116, 117, 118, 119] (by rfl) (by decide +kernel)
set_option maxRecDepth 20000 in
theorem gX10_ask_X4_hasRoom : GoodIn wsX10_ask (wsV RX10 210 RX4 yX4_hasRoom wsX4_hasRoom) := goodIn_app (goodIn_r _ [50, 51, 52, 53] (by rfl) (by decide +kernel)) ggX10_ask_X4_hasRoom
theorem dX10_ask_28 : decode cX10_ask 28 = .ok (.invokevirtual 210, 3) := by decide +kernel
theorem dX10_ask_31 : decode cX10_ask 31 = .ok (.ifCond .ne 6, 3) := by decide +kernel
theorem dX10_ask_37 : decode cX10_ask 37 = .ok (.aload_n 0, 1) := by decide +kernel
theorem dX10_ask_38 : decode cX10_ask 38 = .ok (.getfield 28, 3) := by decide +kernel
theorem dX10_ask_41 : decode cX10_ask 41 = .ok (.iconst 0, 1) := by decide +kernel
theorem dX10_ask_42 : decode cX10_ask 42 = .ok (.iload_n 1, 1) := by decide +kernel
theorem dX10_ask_43 : decode cX10_ask 43 = .ok (.iload_n 2, 1) := by decide +kernel
theorem dX10_ask_44 : decode cX10_ask 44 = .ok (.iconst 0, 1) := by decide +kernel
theorem dX10_ask_45 : decode cX10_ask 45 = .ok (.iconst 0, 1) := by decide +kernel
set_option maxRecDepth 20000 in
theorem ggX10_ask_X4_act : GoodIn wsX10_ask wsX4_act := goodIn_r _ [59, 55, 60, 61, 62, 63, 53, 64, 65, 66, 67, 68, 69, 70, 25, 71, 32, 33, 72, 27, 73, 14, 15, 16, 17, 18, 74, 75, 76, 45, 77, 47, 78, 79, 49, 80, 81, 82, 83, 38, 39, 84, 85, 86, 87, 88, 34, 35, 36, 37, 89, 90, 91, 92, 93, 94, 95, 96, 97, 98, 99, 100, 40, 6, 41, 116, 117, 118, 119, 120, 121, 122, 123, 124, 125, 126, 127, 128, 129, 130, 131, 132, 133, 134, 135, 136] (by rfl) (by decide +kernel)
set_option maxRecDepth 20000 in
theorem gX10_ask_X4_act : GoodIn wsX10_ask (wsV RX10 213 RX4 yX4_act wsX4_act) := goodIn_app (goodIn_r _ [56, 57, 58, 53] (by rfl) (by decide +kernel)) ggX10_ask_X4_act
theorem dX10_ask_46 : decode cX10_ask 46 = .ok (.invokevirtual 213, 3) := by decide +kernel
theorem dX10_ask_49 : decode cX10_ask 49 = .ok (.aload_n 0, 1) := by decide +kernel
theorem dX10_ask_50 : decode cX10_ask 50 = .ok (.getfield 28, 3) := by decide +kernel
theorem dX10_ask_53 : decode cX10_ask 53 = .ok (.getfield 147, 3) := by decide +kernel
theorem dX10_ask_56 : decode cX10_ask 56 = .ok (.iload_n 2, 1) := by decide +kernel
set_option maxRecDepth 20000 in
theorem ggX10_ask_X2_leftOf : GoodIn wsX10_ask wsX2_leftOf := goodIn_r _ [104, 32, 27, 72, 34, 35, 36, 16, 37, 38, 39, 14, 15, 17, 18, 74, 75, 76, 45, 77, 47, 78, 79, 49, 120, 121, 122, 123, 124, 125, 126, 127, 128, 129, 130, 131, 132, 133, 134, 135, 136] (by rfl) (by decide +kernel)
set_option maxRecDepth 20000 in
theorem gX10_ask_X2_leftOf : GoodIn wsX10_ask (wsV RX10 160 RX2 yX2_leftOf wsX2_leftOf) := goodIn_app (goodIn_r _ [101, 102, 103, 25] (by rfl) (by decide +kernel)) ggX10_ask_X2_leftOf
theorem dX10_ask_57 : decode cX10_ask 57 = .ok (.invokevirtual 160, 3) := by decide +kernel
theorem dX10_ask_60 : decode cX10_ask 60 = .ok (.ireturn, 1) := by decide +kernel
theorem dX10_ask_16 : decode cX10_ask 16 = .ok (.bipush (-2), 2) := by decide +kernel
theorem dX10_ask_18 : decode cX10_ask 18 = .ok (.ireturn, 1) := by decide +kernel
theorem dX10_give_0 : decode cX10_give 0 = .ok (.aload_n 0, 1) := by decide +kernel
theorem dX10_give_1 : decode cX10_give 1 = .ok (.iload_n 1, 1) := by decide +kernel
set_option maxRecDepth 20000 in
theorem ggX10_give_X10_isPerson : GoodIn wsX10_give wsX10_isPerson := goodIn_r _ [7, 1, 2, 8, 9, 10, 11, 12, 13, 14, 90, 91, 92, 93, 94, 95, 96, 97, 98, 99, 100, 101, 102, 103, 104, 105, 106, 107, 108, 109, 110, 111, 112, 113, 114] (by rfl) (by decide +kernel)
set_option maxRecDepth 20000 in
theorem gX10_give_X10_isPerson : GoodIn wsX10_give (wsV RX10 124 RX10 yX10_isPerson wsX10_isPerson) := goodIn_app (goodIn_r _ [3, 4, 5, 6] (by rfl) (by decide +kernel)) ggX10_give_X10_isPerson
theorem dX10_give_2 : decode cX10_give 2 = .ok (.invokevirtual 124, 3) := by decide +kernel
theorem dX10_give_5 : decode cX10_give 5 = .ok (.ifCond .eq 28, 3) := by decide +kernel
theorem dX10_give_33 : decode cX10_give 33 = .ok (.bipush (-2), 2) := by decide +kernel
theorem dX10_give_35 : decode cX10_give 35 = .ok (.ireturn, 1) := by decide +kernel
theorem dX10_give_8 : decode cX10_give 8 = .ok (.aload_n 0, 1) := by decide +kernel
theorem dX10_give_9 : decode cX10_give 9 = .ok (.iload_n 2, 1) := by decide +kernel
theorem dX10_give_10 : decode cX10_give 10 = .ok (.invokevirtual 124, 3) := by decide +kernel
theorem dX10_give_13 : decode cX10_give 13 = .ok (.ifCond .eq 20, 3) := by decide +kernel
theorem dX10_give_16 : decode cX10_give 16 = .ok (.aload_n 0, 1) := by decide +kernel
theorem dX10_give_17 : decode cX10_give 17 = .ok (.iload_n 3, 1) := by decide +kernel
theorem dX10_give_18 : decode cX10_give 18 = .ok (.invokevirtual 124, 3) := by decide +kernel
theorem dX10_give_21 : decode cX10_give 21 = .ok (.ifCond .eq 12, 3) := by decide +kernel
theorem dX10_give_24 : decode cX10_give 24 = .ok (.aload_n 0, 1) := by decide +kernel
theorem dX10_give_25 : decode cX10_give 25 = .ok (.iload 4, 2) := by decide +kernel
theorem dX10_give_27 : decode cX10_give 27 = .ok (.invokevirtual 124, 3) := by decide +kernel
theorem dX10_give_30 : decode cX10_give 30 = .ok (.ifCond .ne 6, 3) := by decide +kernel
theorem dX10_give_36 : decode cX10_give 36 = .ok (.aload_n 0, 1) := by decide +kernel
theorem dX10_give_37 : decode cX10_give 37 = .ok (.getfield 28, 3) := by decide +kernel
theorem dX10_give_40 : decode cX10_give 40 = .ok (.getfield 147, 3) := by decide +kernel
theorem dX10_give_43 : decode cX10_give 43 = .ok (.iload_n 1, 1) := by decide +kernel
theorem dX10_give_44 : decode cX10_give 44 = .ok (.iload_n 2, 1) := by decide +kernel
set_option maxRecDepth 20000 in
theorem ggX10_give_X2_refusalToCome : GoodIn wsX10_give wsX2_refusalToCome := goodIn_r _ [19, 20, 21, 22, 23, 24, 12, 25, 26, 27, 10, 11, 13, 14, 28, 6, 29, 105, 106, 107, 108, 109, 110, 111, 112, 113, 114] (by rfl) (by decide +kernel)
set_option maxRecDepth 20000 in
theorem gX10_give_X2_refusalToCome : GoodIn wsX10_give (wsV RX10 217 RX2 yX2_refusalToCome wsX2_refusalToCome) := goodIn_app (goodIn_r _ [15, 16, 17, 18] (by rfl) (by decide +kernel)) ggX10_give_X2_refusalToCome
theorem dX10_give_45 : decode cX10_give 45 = .ok (.invokevirtual 217, 3) := by decide +kernel
theorem dX10_give_56 : decode cX10_give 56 = .ok (.istore 5, 2) := by decide +kernel
theorem dX10_give_58 : decode cX10_give 58 = .ok (.iload 5, 2) := by decide +kernel
theorem dX10_give_60 : decode cX10_give 60 = .ok (.ifCond .ne 25, 3) := by decide +kernel
theorem dX10_give_85 : decode cX10_give 85 = .ok (.bipush (-5), 2) := by decide +kernel
theorem dX10_give_87 : decode cX10_give 87 = .ok (.ireturn, 1) := by decide +kernel
theorem dX10_give_63 : decode cX10_give 63 = .ok (.aload_n 0, 1) := by decide +kernel
set_option maxRecDepth 20000 in
theorem ggX10_give_X10_bonds : GoodIn wsX10_give wsX10_bonds := goodIn_r _ [33, 1, 2, 8, 90, 91, 92, 93, 94, 95, 96, 97, 98, 99, 100, 101, 102, 103, 104, 105, 106, 107, 108, 109, 110, 111, 112] (by rfl) (by decide +kernel)
set_option maxRecDepth 20000 in
theorem gX10_give_X10_bonds : GoodIn wsX10_give (wsV RX10 134 RX10 yX10_bonds wsX10_bonds) := goodIn_app (goodIn_r _ [30, 31, 32, 6] (by rfl) (by decide +kernel)) ggX10_give_X10_bonds
theorem dX10_give_64 : decode cX10_give 64 = .ok (.invokevirtual 134, 3) := by decide +kernel
theorem dX10_give_67 : decode cX10_give 67 = .ok (.iload_n 3, 1) := by decide +kernel
set_option maxRecDepth 20000 in
theorem ggX10_give_X0_holderOf : GoodIn wsX10_give wsX0_holderOf := goodIn_r _ [25, 26, 27, 10, 11, 12, 13, 14, 113, 114] (by rfl) (by decide +kernel)
set_option maxRecDepth 20000 in
theorem gX10_give_X0_holderOf : GoodIn wsX10_give (wsV RX10 138 RX0 yX0_holderOf wsX0_holderOf) := goodIn_app (goodIn_r _ [34, 23, 24, 12] (by rfl) (by decide +kernel)) ggX10_give_X0_holderOf
theorem dX10_give_68 : decode cX10_give 68 = .ok (.invokevirtual 138, 3) := by decide +kernel
theorem dX10_give_71 : decode cX10_give 71 = .ok (.iload_n 2, 1) := by decide +kernel
theorem dX10_give_72 : decode cX10_give 72 = .ok (.if_icmp .ne 13, 3) := by decide +kernel
theorem dX10_give_75 : decode cX10_give 75 = .ok (.aload_n 0, 1) := by decide +kernel
theorem dX10_give_76 : decode cX10_give 76 = .ok (.getfield 28, 3) := by decide +kernel
set_option maxRecDepth 20000 in
theorem ggX10_give_X4_hasRoom : GoodIn wsX10_give wsX4_hasRoom := goodIn_r _ [39, 40, 101, 102, 103, 104] (by rfl) (by decide +kernel)
set_option maxRecDepth 20000 in
theorem gX10_give_X4_hasRoom : GoodIn wsX10_give (wsV RX10 210 RX4 yX4_hasRoom wsX4_hasRoom) := goodIn_app (goodIn_r _ [35, 36, 37, 38] (by rfl) (by decide +kernel)) ggX10_give_X4_hasRoom
theorem dX10_give_79 : decode cX10_give 79 = .ok (.invokevirtual 210, 3) := by decide +kernel
theorem dX10_give_82 : decode cX10_give 82 = .ok (.ifCond .ne 6, 3) := by decide +kernel
theorem dX10_give_88 : decode cX10_give 88 = .ok (.aload_n 0, 1) := by decide +kernel
theorem dX10_give_89 : decode cX10_give 89 = .ok (.getfield 28, 3) := by decide +kernel
theorem dX10_give_92 : decode cX10_give 92 = .ok (.iconst 1, 1) := by decide +kernel
theorem dX10_give_93 : decode cX10_give 93 = .ok (.iload_n 1, 1) := by decide +kernel
theorem dX10_give_94 : decode cX10_give 94 = .ok (.iload_n 2, 1) := by decide +kernel
theorem dX10_give_95 : decode cX10_give 95 = .ok (.iload_n 3, 1) := by decide +kernel
theorem dX10_give_96 : decode cX10_give 96 = .ok (.iload 4, 2) := by decide +kernel
set_option maxRecDepth 20000 in
theorem ggX10_give_X4_act : GoodIn wsX10_give wsX4_act := goodIn_r _ [44, 40, 45, 46, 47, 48, 38, 49, 50, 51, 52, 53, 54, 55, 18, 56, 20, 21, 57, 58, 59, 10, 11, 12, 13, 14, 60, 61, 62, 63, 64, 65, 66, 67, 68, 69, 70, 71, 72, 26, 27, 73, 74, 75, 76, 77, 22, 23, 24, 25, 78, 79, 80, 81, 82, 83, 84, 85, 86, 87, 88, 89, 28, 6, 29, 101, 102, 103, 104, 105, 106, 107, 108, 109, 110, 111, 112, 113, 114, 115, 116, 117, 118, 119, 120, 121] (by rfl) (by decide +kernel)
set_option maxRecDepth 20000 in
theorem gX10_give_X4_act : GoodIn wsX10_give (wsV RX10 213 RX4 yX4_act wsX4_act) := goodIn_app (goodIn_r _ [41, 42, 43, 38] (by rfl) (by decide +kernel)) ggX10_give_X4_act
theorem dX10_give_98 : decode cX10_give 98 = .ok (.invokevirtual 213, 3) := by decide +kernel
theorem dX10_give_101 : decode cX10_give 101 = .ok (.iconst 0, 1) := by decide +kernel
theorem dX10_give_102 : decode cX10_give 102 = .ok (.ireturn, 1) := by decide +kernel
theorem dX10_give_48 : decode cX10_give 48 = .ok (.ifCond .eq 7, 3) := by decide +kernel
theorem dX10_give_55 : decode cX10_give 55 = .ok (.iconst 0, 1) := by decide +kernel
theorem dX10_give_51 : decode cX10_give 51 = .ok (.iconst 1, 1) := by decide +kernel
theorem dX10_give_52 : decode cX10_give 52 = .ok (.goto 4, 3) := by decide +kernel
theorem dX10_swap_0 : decode cX10_swap 0 = .ok (.aload_n 0, 1) := by decide +kernel
theorem dX10_swap_1 : decode cX10_swap 1 = .ok (.iload_n 1, 1) := by decide +kernel
set_option maxRecDepth 20000 in
theorem ggX10_swap_X10_isPerson : GoodIn wsX10_swap wsX10_isPerson := goodIn_r _ [6, 1, 7, 8, 9, 10, 11, 12, 13, 14, 86, 87, 88, 89, 90, 91, 92, 93, 94, 95, 96, 97, 98, 99, 100, 101, 102, 103, 104, 105, 106, 107, 108, 109, 110] (by rfl) (by decide +kernel)
set_option maxRecDepth 20000 in
theorem gX10_swap_X10_isPerson : GoodIn wsX10_swap (wsV RX10 124 RX10 yX10_isPerson wsX10_isPerson) := goodIn_app (goodIn_r _ [2, 3, 4, 5] (by rfl) (by decide +kernel)) ggX10_swap_X10_isPerson
theorem dX10_swap_2 : decode cX10_swap 2 = .ok (.invokevirtual 124, 3) := by decide +kernel
theorem dX10_swap_5 : decode cX10_swap 5 = .ok (.ifCond .eq 16, 3) := by decide +kernel
theorem dX10_swap_21 : decode cX10_swap 21 = .ok (.bipush (-2), 2) := by decide +kernel
theorem dX10_swap_23 : decode cX10_swap 23 = .ok (.ireturn, 1) := by decide +kernel
theorem dX10_swap_8 : decode cX10_swap 8 = .ok (.aload_n 0, 1) := by decide +kernel
theorem dX10_swap_9 : decode cX10_swap 9 = .ok (.iload_n 2, 1) := by decide +kernel
theorem dX10_swap_10 : decode cX10_swap 10 = .ok (.invokevirtual 124, 3) := by decide +kernel
theorem dX10_swap_13 : decode cX10_swap 13 = .ok (.ifCond .eq 8, 3) := by decide +kernel
theorem dX10_swap_16 : decode cX10_swap 16 = .ok (.iload_n 1, 1) := by decide +kernel
theorem dX10_swap_17 : decode cX10_swap 17 = .ok (.iload_n 2, 1) := by decide +kernel
theorem dX10_swap_18 : decode cX10_swap 18 = .ok (.if_icmp .ne 6, 3) := by decide +kernel
theorem dX10_swap_24 : decode cX10_swap 24 = .ok (.aload_n 0, 1) := by decide +kernel
set_option maxRecDepth 20000 in
theorem ggX10_swap_X10_bonds : GoodIn wsX10_swap wsX10_bonds := goodIn_r _ [18, 1, 7, 8, 86, 87, 88, 89, 90, 91, 92, 93, 94, 95, 96, 97, 98, 99, 100, 101, 102, 103, 104, 105, 106, 107, 108] (by rfl) (by decide +kernel)
set_option maxRecDepth 20000 in
theorem gX10_swap_X10_bonds : GoodIn wsX10_swap (wsV RX10 134 RX10 yX10_bonds wsX10_bonds) := goodIn_app (goodIn_r _ [15, 16, 17, 5] (by rfl) (by decide +kernel)) ggX10_swap_X10_bonds
theorem dX10_swap_25 : decode cX10_swap 25 = .ok (.invokevirtual 134, 3) := by decide +kernel
theorem dX10_swap_28 : decode cX10_swap 28 = .ok (.iload_n 1, 1) := by decide +kernel
set_option maxRecDepth 20000 in
theorem ggX10_swap_X0_holderOf : GoodIn wsX10_swap wsX0_holderOf := goodIn_r _ [22, 23, 24, 10, 11, 12, 13, 14, 109, 110] (by rfl) (by decide +kernel)
set_option maxRecDepth 20000 in
theorem gX10_swap_X0_holderOf : GoodIn wsX10_swap (wsV RX10 138 RX0 yX0_holderOf wsX0_holderOf) := goodIn_app (goodIn_r _ [19, 20, 21, 12] (by rfl) (by decide +kernel)) ggX10_swap_X0_holderOf
theorem dX10_swap_29 : decode cX10_swap 29 = .ok (.invokevirtual 138, 3) := by decide +kernel
theorem dX10_swap_32 : decode cX10_swap 32 = .ok (.istore_n 3, 1) := by decide +kernel
theorem dX10_swap_33 : decode cX10_swap 33 = .ok (.aload_n 0, 1) := by decide +kernel
theorem dX10_swap_34 : decode cX10_swap 34 = .ok (.invokevirtual 134, 3) := by decide +kernel
theorem dX10_swap_37 : decode cX10_swap 37 = .ok (.iload_n 2, 1) := by decide +kernel
theorem dX10_swap_38 : decode cX10_swap 38 = .ok (.invokevirtual 138, 3) := by decide +kernel
theorem dX10_swap_41 : decode cX10_swap 41 = .ok (.istore 4, 2) := by decide +kernel
theorem dX10_swap_43 : decode cX10_swap 43 = .ok (.iload_n 3, 1) := by decide +kernel
theorem dX10_swap_44 : decode cX10_swap 44 = .ok (.iconst (-1), 1) := by decide +kernel
theorem dX10_swap_45 : decode cX10_swap 45 = .ok (.if_icmp .eq 25, 3) := by decide +kernel
theorem dX10_swap_70 : decode cX10_swap 70 = .ok (.bipush (-5), 2) := by decide +kernel
theorem dX10_swap_72 : decode cX10_swap 72 = .ok (.ireturn, 1) := by decide +kernel
theorem dX10_swap_48 : decode cX10_swap 48 = .ok (.iload 4, 2) := by decide +kernel
theorem dX10_swap_50 : decode cX10_swap 50 = .ok (.iconst (-1), 1) := by decide +kernel
theorem dX10_swap_51 : decode cX10_swap 51 = .ok (.if_icmp .eq 19, 3) := by decide +kernel
theorem dX10_swap_54 : decode cX10_swap 54 = .ok (.iload_n 3, 1) := by decide +kernel
theorem dX10_swap_55 : decode cX10_swap 55 = .ok (.iload 4, 2) := by decide +kernel
theorem dX10_swap_57 : decode cX10_swap 57 = .ok (.if_icmp .eq 13, 3) := by decide +kernel
theorem dX10_swap_60 : decode cX10_swap 60 = .ok (.aload_n 0, 1) := by decide +kernel
theorem dX10_swap_61 : decode cX10_swap 61 = .ok (.getfield 28, 3) := by decide +kernel
set_option maxRecDepth 20000 in
theorem ggX10_swap_X4_hasRoom : GoodIn wsX10_swap wsX4_hasRoom := goodIn_r _ [29, 30, 97, 98, 99, 100] (by rfl) (by decide +kernel)
set_option maxRecDepth 20000 in
theorem gX10_swap_X4_hasRoom : GoodIn wsX10_swap (wsV RX10 210 RX4 yX4_hasRoom wsX4_hasRoom) := goodIn_app (goodIn_r _ [25, 26, 27, 28] (by rfl) (by decide +kernel)) ggX10_swap_X4_hasRoom
theorem dX10_swap_64 : decode cX10_swap 64 = .ok (.invokevirtual 210, 3) := by decide +kernel
theorem dX10_swap_67 : decode cX10_swap 67 = .ok (.ifCond .ne 6, 3) := by decide +kernel
theorem dX10_swap_73 : decode cX10_swap 73 = .ok (.aload_n 0, 1) := by decide +kernel
theorem dX10_swap_74 : decode cX10_swap 74 = .ok (.getfield 28, 3) := by decide +kernel
theorem dX10_swap_77 : decode cX10_swap 77 = .ok (.iconst 2, 1) := by decide +kernel
theorem dX10_swap_78 : decode cX10_swap 78 = .ok (.iload_n 1, 1) := by decide +kernel
theorem dX10_swap_79 : decode cX10_swap 79 = .ok (.iload_n 2, 1) := by decide +kernel
theorem dX10_swap_80 : decode cX10_swap 80 = .ok (.iconst 0, 1) := by decide +kernel
theorem dX10_swap_81 : decode cX10_swap 81 = .ok (.iconst 0, 1) := by decide +kernel
set_option maxRecDepth 20000 in
theorem ggX10_swap_X4_act : GoodIn wsX10_swap wsX4_act := goodIn_r _ [34, 30, 35, 36, 37, 38, 28, 39, 40, 41, 42, 43, 44, 45, 46, 47, 48, 49, 50, 51, 52, 10, 11, 12, 13, 14, 53, 54, 55, 56, 57, 58, 59, 60, 61, 62, 63, 64, 65, 23, 24, 66, 67, 68, 69, 70, 71, 20, 21, 22, 72, 73, 74, 75, 76, 77, 78, 79, 80, 81, 82, 83, 84, 5, 85, 97, 98, 99, 100, 101, 102, 103, 104, 105, 106, 107, 108, 109, 110, 111, 112, 113, 114, 115, 116, 117] (by rfl) (by decide +kernel)
set_option maxRecDepth 20000 in
theorem gX10_swap_X4_act : GoodIn wsX10_swap (wsV RX10 213 RX4 yX4_act wsX4_act) := goodIn_app (goodIn_r _ [31, 32, 33, 28] (by rfl) (by decide +kernel)) ggX10_swap_X4_act
theorem dX10_swap_82 : decode cX10_swap 82 = .ok (.invokevirtual 213, 3) := by decide +kernel
theorem dX10_swap_85 : decode cX10_swap 85 = .ok (.iconst 0, 1) := by decide +kernel
theorem dX10_swap_86 : decode cX10_swap 86 = .ok (.ireturn, 1) := by decide +kernel
theorem dX10_steal_0 : decode cX10_steal 0 = .ok (.aload_n 0, 1) := by decide +kernel
theorem dX10_steal_1 : decode cX10_steal 1 = .ok (.iload_n 1, 1) := by decide +kernel
set_option maxRecDepth 20000 in
theorem ggX10_steal_X10_isPerson : GoodIn wsX10_steal wsX10_isPerson := goodIn_r _ [8, 1, 2, 9, 10, 11, 12, 13, 14, 15, 88, 89, 90, 91, 92, 93, 94, 95, 96, 97, 98, 99, 100, 101, 102, 103, 104, 105, 106, 107, 108, 109, 110, 111, 112] (by rfl) (by decide +kernel)
set_option maxRecDepth 20000 in
theorem gX10_steal_X10_isPerson : GoodIn wsX10_steal (wsV RX10 124 RX10 yX10_isPerson wsX10_isPerson) := goodIn_app (goodIn_r _ [4, 5, 6, 7] (by rfl) (by decide +kernel)) ggX10_steal_X10_isPerson
theorem dX10_steal_2 : decode cX10_steal 2 = .ok (.invokevirtual 124, 3) := by decide +kernel
theorem dX10_steal_5 : decode cX10_steal 5 = .ok (.ifCond .eq 11, 3) := by decide +kernel
theorem dX10_steal_16 : decode cX10_steal 16 = .ok (.bipush (-2), 2) := by decide +kernel
theorem dX10_steal_18 : decode cX10_steal 18 = .ok (.ireturn, 1) := by decide +kernel
theorem dX10_steal_8 : decode cX10_steal 8 = .ok (.aload_n 0, 1) := by decide +kernel
theorem dX10_steal_9 : decode cX10_steal 9 = .ok (.iload_n 2, 1) := by decide +kernel
theorem dX10_steal_10 : decode cX10_steal 10 = .ok (.invokevirtual 124, 3) := by decide +kernel
theorem dX10_steal_13 : decode cX10_steal 13 = .ok (.ifCond .ne 6, 3) := by decide +kernel
theorem dX10_steal_19 : decode cX10_steal 19 = .ok (.aload_n 0, 1) := by decide +kernel
set_option maxRecDepth 20000 in
theorem ggX10_steal_X10_bonds : GoodIn wsX10_steal wsX10_bonds := goodIn_r _ [19, 1, 2, 9, 88, 89, 90, 91, 92, 93, 94, 95, 96, 97, 98, 99, 100, 101, 102, 103, 104, 105, 106, 107, 108, 109, 110] (by rfl) (by decide +kernel)
set_option maxRecDepth 20000 in
theorem gX10_steal_X10_bonds : GoodIn wsX10_steal (wsV RX10 134 RX10 yX10_bonds wsX10_bonds) := goodIn_app (goodIn_r _ [16, 17, 18, 7] (by rfl) (by decide +kernel)) ggX10_steal_X10_bonds
theorem dX10_steal_20 : decode cX10_steal 20 = .ok (.invokevirtual 134, 3) := by decide +kernel
theorem dX10_steal_23 : decode cX10_steal 23 = .ok (.iload_n 2, 1) := by decide +kernel
set_option maxRecDepth 20000 in
theorem ggX10_steal_X0_holderOf : GoodIn wsX10_steal wsX0_holderOf := goodIn_r _ [23, 24, 25, 11, 12, 13, 14, 15, 111, 112] (by rfl) (by decide +kernel)
set_option maxRecDepth 20000 in
theorem gX10_steal_X0_holderOf : GoodIn wsX10_steal (wsV RX10 138 RX0 yX0_holderOf wsX0_holderOf) := goodIn_app (goodIn_r _ [20, 21, 22, 13] (by rfl) (by decide +kernel)) ggX10_steal_X0_holderOf
theorem dX10_steal_24 : decode cX10_steal 24 = .ok (.invokevirtual 138, 3) := by decide +kernel
theorem dX10_steal_27 : decode cX10_steal 27 = .ok (.istore_n 3, 1) := by decide +kernel
theorem dX10_steal_28 : decode cX10_steal 28 = .ok (.aload_n 0, 1) := by decide +kernel
theorem dX10_steal_29 : decode cX10_steal 29 = .ok (.getfield 28, 3) := by decide +kernel
theorem dX10_steal_32 : decode cX10_steal 32 = .ok (.getfield 147, 3) := by decide +kernel
theorem dX10_steal_35 : decode cX10_steal 35 = .ok (.getfield 220, 3) := by decide +kernel
theorem dX10_steal_38 : decode cX10_steal 38 = .ok (.iload_n 2, 1) := by decide +kernel
set_option maxRecDepth 20000 in
theorem ggX10_steal_X10_bitOf : GoodIn wsX10_steal wsX10_bitOf := goodIn_r _ [28] (by rfl) (by decide +kernel)
set_option maxRecDepth 20000 in
theorem gX10_steal_X10_bitOf : GoodIn wsX10_steal (va_wsS RX10 153 yX10_bitOf wsX10_bitOf) := goodIn_app (goodIn_r _ [26, 27, 7] (by rfl) (by decide +kernel)) ggX10_steal_X10_bitOf
theorem dX10_steal_39 : decode cX10_steal 39 = .ok (.invokestatic 153, 3) := by decide +kernel
theorem dX10_steal_42 : decode cX10_steal 42 = .ok (.iconst 1, 1) := by decide +kernel
theorem dX10_steal_51 : decode cX10_steal 51 = .ok (.istore 4, 2) := by decide +kernel
theorem dX10_steal_53 : decode cX10_steal 53 = .ok (.iload_n 3, 1) := by decide +kernel
theorem dX10_steal_54 : decode cX10_steal 54 = .ok (.iconst (-1), 1) := by decide +kernel
theorem dX10_steal_55 : decode cX10_steal 55 = .ok (.if_icmp .eq 23, 3) := by decide +kernel
theorem dX10_steal_78 : decode cX10_steal 78 = .ok (.bipush (-5), 2) := by decide +kernel
theorem dX10_steal_80 : decode cX10_steal 80 = .ok (.ireturn, 1) := by decide +kernel
theorem dX10_steal_58 : decode cX10_steal 58 = .ok (.iload_n 3, 1) := by decide +kernel
theorem dX10_steal_59 : decode cX10_steal 59 = .ok (.iload_n 1, 1) := by decide +kernel
theorem dX10_steal_60 : decode cX10_steal 60 = .ok (.if_icmp .eq 18, 3) := by decide +kernel
theorem dX10_steal_63 : decode cX10_steal 63 = .ok (.iload 4, 2) := by decide +kernel
theorem dX10_steal_65 : decode cX10_steal 65 = .ok (.ifCond .ne 13, 3) := by decide +kernel
theorem dX10_steal_68 : decode cX10_steal 68 = .ok (.aload_n 0, 1) := by decide +kernel
theorem dX10_steal_69 : decode cX10_steal 69 = .ok (.getfield 28, 3) := by decide +kernel
set_option maxRecDepth 20000 in
theorem ggX10_steal_X4_hasRoom : GoodIn wsX10_steal wsX4_hasRoom := goodIn_r _ [33, 34, 99, 100, 101, 102] (by rfl) (by decide +kernel)
set_option maxRecDepth 20000 in
theorem gX10_steal_X4_hasRoom : GoodIn wsX10_steal (wsV RX10 210 RX4 yX4_hasRoom wsX4_hasRoom) := goodIn_app (goodIn_r _ [29, 30, 31, 32] (by rfl) (by decide +kernel)) ggX10_steal_X4_hasRoom
theorem dX10_steal_72 : decode cX10_steal 72 = .ok (.invokevirtual 210, 3) := by decide +kernel
theorem dX10_steal_75 : decode cX10_steal 75 = .ok (.ifCond .ne 6, 3) := by decide +kernel
theorem dX10_steal_81 : decode cX10_steal 81 = .ok (.aload_n 0, 1) := by decide +kernel
theorem dX10_steal_82 : decode cX10_steal 82 = .ok (.getfield 28, 3) := by decide +kernel
theorem dX10_steal_85 : decode cX10_steal 85 = .ok (.iconst 3, 1) := by decide +kernel
theorem dX10_steal_86 : decode cX10_steal 86 = .ok (.iload_n 1, 1) := by decide +kernel
theorem dX10_steal_87 : decode cX10_steal 87 = .ok (.iload_n 2, 1) := by decide +kernel
theorem dX10_steal_88 : decode cX10_steal 88 = .ok (.iconst 0, 1) := by decide +kernel
theorem dX10_steal_89 : decode cX10_steal 89 = .ok (.iconst 0, 1) := by decide +kernel
set_option maxRecDepth 20000 in
theorem ggX10_steal_X4_act : GoodIn wsX10_steal wsX4_act := goodIn_r _ [38, 34, 39, 40, 41, 42, 32, 43, 44, 45, 46, 47, 48, 49, 50, 51, 52, 53, 54, 55, 56, 11, 12, 13, 14, 15, 57, 58, 59, 60, 61, 62, 63, 64, 65, 66, 67, 68, 69, 24, 25, 70, 71, 72, 73, 74, 75, 21, 22, 23, 76, 77, 78, 79, 80, 81, 82, 83, 84, 85, 86, 87, 27, 7, 28, 99, 100, 101, 102, 103, 104, 105, 106, 107, 108, 109, 110, 111, 112, 113, 114, 115, 116, 117, 118, 119] (by rfl) (by decide +kernel)
set_option maxRecDepth 20000 in
theorem gX10_steal_X4_act : GoodIn wsX10_steal (wsV RX10 213 RX4 yX4_act wsX4_act) := goodIn_app (goodIn_r _ [35, 36, 37, 32] (by rfl) (by decide +kernel)) ggX10_steal_X4_act
theorem dX10_steal_90 : decode cX10_steal 90 = .ok (.invokevirtual 213, 3) := by decide +kernel
theorem dX10_steal_93 : decode cX10_steal 93 = .ok (.iload_n 3, 1) := by decide +kernel
theorem dX10_steal_94 : decode cX10_steal 94 = .ok (.ireturn, 1) := by decide +kernel
theorem dX10_steal_43 : decode cX10_steal 43 = .ok (.if_icmp .ne 7, 3) := by decide +kernel
theorem dX10_steal_50 : decode cX10_steal 50 = .ok (.iconst 0, 1) := by decide +kernel
theorem dX10_steal_46 : decode cX10_steal 46 = .ok (.iconst 1, 1) := by decide +kernel
theorem dX10_steal_47 : decode cX10_steal 47 = .ok (.goto 4, 3) := by decide +kernel
theorem dX10_day_0 : decode cX10_day 0 = .ok (.aload_n 0, 1) := by decide +kernel
set_option maxRecDepth 20000 in
theorem ggX10_day_X10_hasCity : GoodIn wsX10_day wsX10_hasCity := goodIn_r _ [8, 1, 9, 10, 82, 83, 84, 85, 86, 87, 88, 89, 90, 91, 92, 93, 94, 95, 96, 105, 106, 107, 108, 109, 110, 111] (by rfl) (by decide +kernel)
set_option maxRecDepth 20000 in
theorem gX10_day_X10_hasCity : GoodIn wsX10_day (wsV RX10 163 RX10 yX10_hasCity wsX10_hasCity) := goodIn_app (goodIn_r _ [4, 5, 6, 7] (by rfl) (by decide +kernel)) ggX10_day_X10_hasCity
theorem dX10_day_1 : decode cX10_day 1 = .ok (.invokevirtual 163, 3) := by decide +kernel
theorem dX10_day_4 : decode cX10_day 4 = .ok (.ifCond .ne 6, 3) := by decide +kernel
theorem dX10_day_10 : decode cX10_day 10 = .ok (.aload_n 0, 1) := by decide +kernel
theorem dX10_day_11 : decode cX10_day 11 = .ok (.getfield 28, 3) := by decide +kernel
set_option maxRecDepth 20000 in
theorem ggX10_day_X4_hasRoom : GoodIn wsX10_day wsX4_hasRoom := goodIn_r _ [15, 16, 93, 94, 95, 96] (by rfl) (by decide +kernel)
set_option maxRecDepth 20000 in
theorem gX10_day_X4_hasRoom : GoodIn wsX10_day (wsV RX10 210 RX4 yX4_hasRoom wsX4_hasRoom) := goodIn_app (goodIn_r _ [11, 12, 13, 14] (by rfl) (by decide +kernel)) ggX10_day_X4_hasRoom
theorem dX10_day_14 : decode cX10_day 14 = .ok (.invokevirtual 210, 3) := by decide +kernel
theorem dX10_day_17 : decode cX10_day 17 = .ok (.ifCond .ne 6, 3) := by decide +kernel
theorem dX10_day_23 : decode cX10_day 23 = .ok (.aload_n 0, 1) := by decide +kernel
theorem dX10_day_24 : decode cX10_day 24 = .ok (.getfield 28, 3) := by decide +kernel
theorem dX10_day_27 : decode cX10_day 27 = .ok (.getfield 147, 3) := by decide +kernel
theorem dX10_day_30 : decode cX10_day 30 = .ok (.getfield 223, 3) := by decide +kernel
theorem dX10_day_33 : decode cX10_day 33 = .ok (.istore_n 1, 1) := by decide +kernel
theorem dX10_day_34 : decode cX10_day 34 = .ok (.aload_n 0, 1) := by decide +kernel
theorem dX10_day_35 : decode cX10_day 35 = .ok (.getfield 28, 3) := by decide +kernel
theorem dX10_day_38 : decode cX10_day 38 = .ok (.iconst 4, 1) := by decide +kernel
theorem dX10_day_39 : decode cX10_day 39 = .ok (.iconst 0, 1) := by decide +kernel
theorem dX10_day_40 : decode cX10_day 40 = .ok (.iconst 0, 1) := by decide +kernel
theorem dX10_day_41 : decode cX10_day 41 = .ok (.iconst 0, 1) := by decide +kernel
theorem dX10_day_42 : decode cX10_day 42 = .ok (.iconst 0, 1) := by decide +kernel
set_option maxRecDepth 20000 in
theorem ggX10_day_X4_act : GoodIn wsX10_day wsX4_act := goodIn_r _ [20, 16, 21, 22, 23, 24, 14, 25, 26, 27, 28, 29, 30, 31, 32, 33, 34, 35, 36, 37, 38, 39, 40, 41, 42, 43, 44, 45, 46, 47, 48, 49, 50, 51, 52, 53, 54, 55, 56, 57, 58, 59, 60, 61, 62, 63, 64, 65, 66, 67, 68, 69, 70, 71, 72, 73, 74, 75, 76, 77, 78, 79, 80, 7, 81, 93, 94, 95, 96, 97, 98, 99, 100, 101, 102, 103, 104, 112, 113, 105, 106, 107, 108, 109, 110, 111] (by rfl) (by decide +kernel)
set_option maxRecDepth 20000 in
theorem gX10_day_X4_act : GoodIn wsX10_day (wsV RX10 213 RX4 yX4_act wsX4_act) := goodIn_app (goodIn_r _ [17, 18, 19, 14] (by rfl) (by decide +kernel)) ggX10_day_X4_act
theorem dX10_day_43 : decode cX10_day 43 = .ok (.invokevirtual 213, 3) := by decide +kernel
theorem dX10_day_46 : decode cX10_day 46 = .ok (.iload_n 1, 1) := by decide +kernel
theorem dX10_day_47 : decode cX10_day 47 = .ok (.ireturn, 1) := by decide +kernel
theorem dX10_day_20 : decode cX10_day 20 = .ok (.bipush (-5), 2) := by decide +kernel
theorem dX10_day_22 : decode cX10_day 22 = .ok (.ireturn, 1) := by decide +kernel
theorem dX10_day_7 : decode cX10_day 7 = .ok (.bipush (-2), 2) := by decide +kernel
theorem dX10_day_9 : decode cX10_day 9 = .ok (.ireturn, 1) := by decide +kernel
theorem dX10_undo_0 : decode cX10_undo 0 = .ok (.aload_n 0, 1) := by decide +kernel
set_option maxRecDepth 20000 in
theorem ggX10_undo_X10_hasCity : GoodIn wsX10_undo wsX10_hasCity := goodIn_r _ [7, 1, 8, 9, 91, 92, 93, 94, 95, 96, 97, 98, 99, 100, 101, 102, 103, 104, 105, 106, 107, 108, 109, 110, 111, 112] (by rfl) (by decide +kernel)
set_option maxRecDepth 20000 in
theorem gX10_undo_X10_hasCity : GoodIn wsX10_undo (wsV RX10 163 RX10 yX10_hasCity wsX10_hasCity) := goodIn_app (goodIn_r _ [3, 4, 5, 6] (by rfl) (by decide +kernel)) ggX10_undo_X10_hasCity
theorem dX10_undo_1 : decode cX10_undo 1 = .ok (.invokevirtual 163, 3) := by decide +kernel
theorem dX10_undo_4 : decode cX10_undo 4 = .ok (.ifCond .ne 6, 3) := by decide +kernel
theorem dX10_undo_10 : decode cX10_undo 10 = .ok (.aload_n 0, 1) := by decide +kernel
theorem dX10_undo_11 : decode cX10_undo 11 = .ok (.getfield 28, 3) := by decide +kernel
theorem dX10_undo_14 : decode cX10_undo 14 = .ok (.getfield 226, 3) := by decide +kernel
theorem dX10_undo_17 : decode cX10_undo 17 = .ok (.ifCond .ne 6, 3) := by decide +kernel
theorem dX10_undo_23 : decode cX10_undo 23 = .ok (.aload_n 0, 1) := by decide +kernel
theorem dX10_undo_24 : decode cX10_undo 24 = .ok (.getfield 28, 3) := by decide +kernel
theorem dX10_undo_27 : decode cX10_undo 27 = .ok (.aload_n 0, 1) := by decide +kernel
theorem dX10_undo_28 : decode cX10_undo 28 = .ok (.getfield 28, 3) := by decide +kernel
theorem dX10_undo_31 : decode cX10_undo 31 = .ok (.getfield 226, 3) := by decide +kernel
theorem dX10_undo_34 : decode cX10_undo 34 = .ok (.iconst 1, 1) := by decide +kernel
theorem dX10_undo_35 : decode cX10_undo 35 = .ok (.isub, 1) := by decide +kernel
set_option maxRecDepth 20000 in
theorem ggX10_undo_X4_replay : GoodIn wsX10_undo wsX4_replay := goodIn_r _ [14, 15, 16, 17, 18, 19, 20, 21, 22, 23, 24, 25, 26, 27, 28, 29, 30, 31, 32, 33, 34, 35, 36, 37, 38, 39, 40, 41, 42, 43, 44, 13, 45, 46, 47, 48, 49, 50, 51, 52, 53, 54, 55, 56, 57, 58, 59, 60, 61, 62, 63, 64, 65, 66, 67, 68, 69, 70, 71, 72, 73, 74, 75, 76, 77, 78, 79, 80, 81, 82, 83, 84, 85, 86, 87, 88, 89, 6, 90, 102, 103, 104, 105, 113, 114, 115, 116, 117, 118, 119, 120, 106, 107, 108, 109, 110, 111, 112, 121, 122] (by rfl) (by decide +kernel)
set_option maxRecDepth 20000 in
theorem gX10_undo_X4_replay : GoodIn wsX10_undo (wsV RX10 229 RX4 yX4_replay wsX4_replay) := goodIn_app (goodIn_r _ [10, 11, 12, 13] (by rfl) (by decide +kernel)) ggX10_undo_X4_replay
theorem dX10_undo_36 : decode cX10_undo 36 = .ok (.invokevirtual 229, 3) := by decide +kernel
theorem dX10_undo_39 : decode cX10_undo 39 = .ok (.aload_n 0, 1) := by decide +kernel
theorem dX10_undo_40 : decode cX10_undo 40 = .ok (.getfield 28, 3) := by decide +kernel
theorem dX10_undo_43 : decode cX10_undo 43 = .ok (.getfield 226, 3) := by decide +kernel
theorem dX10_undo_46 : decode cX10_undo 46 = .ok (.ireturn, 1) := by decide +kernel
theorem dX10_undo_20 : decode cX10_undo 20 = .ok (.bipush (-5), 2) := by decide +kernel
theorem dX10_undo_22 : decode cX10_undo 22 = .ok (.ireturn, 1) := by decide +kernel
theorem dX10_undo_7 : decode cX10_undo 7 = .ok (.bipush (-2), 2) := by decide +kernel
theorem dX10_undo_9 : decode cX10_undo 9 = .ok (.ireturn, 1) := by decide +kernel
theorem dX10_anew_0 : decode cX10_anew 0 = .ok (.aload_n 0, 1) := by decide +kernel
set_option maxRecDepth 20000 in
theorem ggX10_anew_X10_hasCity : GoodIn wsX10_anew wsX10_hasCity := goodIn_r _ [7, 1, 8, 9, 91, 92, 93, 94, 95, 96, 97, 98, 99, 100, 101, 102, 103, 104, 105, 106, 107, 108, 109, 110, 111, 112] (by rfl) (by decide +kernel)
set_option maxRecDepth 20000 in
theorem gX10_anew_X10_hasCity : GoodIn wsX10_anew (wsV RX10 163 RX10 yX10_hasCity wsX10_hasCity) := goodIn_app (goodIn_r _ [3, 4, 5, 6] (by rfl) (by decide +kernel)) ggX10_anew_X10_hasCity
theorem dX10_anew_1 : decode cX10_anew 1 = .ok (.invokevirtual 163, 3) := by decide +kernel
theorem dX10_anew_4 : decode cX10_anew 4 = .ok (.ifCond .ne 6, 3) := by decide +kernel
theorem dX10_anew_10 : decode cX10_anew 10 = .ok (.aload_n 0, 1) := by decide +kernel
theorem dX10_anew_11 : decode cX10_anew 11 = .ok (.getfield 28, 3) := by decide +kernel
theorem dX10_anew_14 : decode cX10_anew 14 = .ok (.getfield 226, 3) := by decide +kernel
theorem dX10_anew_17 : decode cX10_anew 17 = .ok (.istore_n 1, 1) := by decide +kernel
theorem dX10_anew_18 : decode cX10_anew 18 = .ok (.aload_n 0, 1) := by decide +kernel
theorem dX10_anew_19 : decode cX10_anew 19 = .ok (.getfield 28, 3) := by decide +kernel
theorem dX10_anew_22 : decode cX10_anew 22 = .ok (.iconst 0, 1) := by decide +kernel
set_option maxRecDepth 20000 in
theorem ggX10_anew_X4_replay : GoodIn wsX10_anew wsX4_replay := goodIn_r _ [14, 15, 16, 17, 18, 19, 20, 21, 22, 23, 24, 25, 26, 27, 28, 29, 30, 31, 32, 33, 34, 35, 36, 37, 38, 39, 40, 41, 42, 43, 44, 13, 45, 46, 47, 48, 49, 50, 51, 52, 53, 54, 55, 56, 57, 58, 59, 60, 61, 62, 63, 64, 65, 66, 67, 68, 69, 70, 71, 72, 73, 74, 75, 76, 77, 78, 79, 80, 81, 82, 83, 84, 85, 86, 87, 88, 89, 6, 90, 102, 103, 104, 105, 113, 114, 115, 116, 117, 118, 119, 120, 106, 107, 108, 109, 110, 111, 112, 121, 122] (by rfl) (by decide +kernel)
set_option maxRecDepth 20000 in
theorem gX10_anew_X4_replay : GoodIn wsX10_anew (wsV RX10 229 RX4 yX4_replay wsX4_replay) := goodIn_app (goodIn_r _ [10, 11, 12, 13] (by rfl) (by decide +kernel)) ggX10_anew_X4_replay
theorem dX10_anew_23 : decode cX10_anew 23 = .ok (.invokevirtual 229, 3) := by decide +kernel
theorem dX10_anew_26 : decode cX10_anew 26 = .ok (.iload_n 1, 1) := by decide +kernel
theorem dX10_anew_27 : decode cX10_anew 27 = .ok (.ireturn, 1) := by decide +kernel
theorem dX10_anew_7 : decode cX10_anew 7 = .ok (.bipush (-2), 2) := by decide +kernel
theorem dX10_anew_9 : decode cX10_anew 9 = .ok (.ireturn, 1) := by decide +kernel
theorem dX10_now_0 : decode cX10_now 0 = .ok (.aload_n 0, 1) := by decide +kernel
set_option maxRecDepth 20000 in
theorem ggX10_now_X10_hasCity : GoodIn wsX10_now wsX10_hasCity := goodIn_r _ [11, 1, 12, 13, 14, 15, 16, 17, 18, 19, 20, 21, 22, 23, 24, 25, 26, 27, 28, 37, 38, 39, 40, 41, 42, 43] (by rfl) (by decide +kernel)
set_option maxRecDepth 20000 in
theorem gX10_now_X10_hasCity : GoodIn wsX10_now (wsV RX10 163 RX10 yX10_hasCity wsX10_hasCity) := goodIn_app (goodIn_r _ [7, 8, 9, 10] (by rfl) (by decide +kernel)) ggX10_now_X10_hasCity
theorem dX10_now_1 : decode cX10_now 1 = .ok (.invokevirtual 163, 3) := by decide +kernel
theorem dX10_now_4 : decode cX10_now 4 = .ok (.ifCond .ne 6, 3) := by decide +kernel
theorem dX10_now_10 : decode cX10_now 10 = .ok (.iload_n 1, 1) := by decide +kernel
theorem dX10_now_11 : decode cX10_now 11 = .ok (.tableswitch 73 0 3 #[29, 40, 51, 62], 29) := by decide +kernel
theorem dX10_now_40 : decode cX10_now 40 = .ok (.aload_n 0, 1) := by decide +kernel
theorem dX10_now_41 : decode cX10_now 41 = .ok (.getfield 28, 3) := by decide +kernel
theorem dX10_now_44 : decode cX10_now 44 = .ok (.getfield 147, 3) := by decide +kernel
theorem dX10_now_47 : decode cX10_now 47 = .ok (.getfield 223, 3) := by decide +kernel
theorem dX10_now_50 : decode cX10_now 50 = .ok (.ireturn, 1) := by decide +kernel
theorem dX10_now_51 : decode cX10_now 51 = .ok (.aload_n 0, 1) := by decide +kernel
theorem dX10_now_52 : decode cX10_now 52 = .ok (.getfield 28, 3) := by decide +kernel
theorem dX10_now_55 : decode cX10_now 55 = .ok (.getfield 147, 3) := by decide +kernel
theorem dX10_now_58 : decode cX10_now 58 = .ok (.getfield 150, 3) := by decide +kernel
theorem dX10_now_61 : decode cX10_now 61 = .ok (.ireturn, 1) := by decide +kernel
theorem dX10_now_62 : decode cX10_now 62 = .ok (.aload_n 0, 1) := by decide +kernel
theorem dX10_now_63 : decode cX10_now 63 = .ok (.getfield 28, 3) := by decide +kernel
theorem dX10_now_66 : decode cX10_now 66 = .ok (.getfield 147, 3) := by decide +kernel
theorem dX10_now_69 : decode cX10_now 69 = .ok (.getfield 220, 3) := by decide +kernel
theorem dX10_now_72 : decode cX10_now 72 = .ok (.ireturn, 1) := by decide +kernel
theorem dX10_now_73 : decode cX10_now 73 = .ok (.aload_n 0, 1) := by decide +kernel
theorem dX10_now_74 : decode cX10_now 74 = .ok (.getfield 28, 3) := by decide +kernel
theorem dX10_now_77 : decode cX10_now 77 = .ok (.getfield 147, 3) := by decide +kernel
theorem dX10_now_80 : decode cX10_now 80 = .ok (.getfield 232, 3) := by decide +kernel
theorem dX10_now_83 : decode cX10_now 83 = .ok (.ireturn, 1) := by decide +kernel
theorem dX10_now_84 : decode cX10_now 84 = .ok (.bipush (-2), 2) := by decide +kernel
theorem dX10_now_86 : decode cX10_now 86 = .ok (.ireturn, 1) := by decide +kernel
theorem dX10_now_7 : decode cX10_now 7 = .ok (.bipush (-2), 2) := by decide +kernel
theorem dX10_now_9 : decode cX10_now 9 = .ok (.ireturn, 1) := by decide +kernel
theorem dX10_own_0 : decode cX10_own 0 = .ok (.aload_n 0, 1) := by decide +kernel
set_option maxRecDepth 20000 in
theorem ggX10_own_X10_hasCity : GoodIn wsX10_own wsX10_hasCity := goodIn_r _ [6, 7, 8, 9, 64, 65, 66, 67, 68, 69, 70, 71, 72, 73, 74, 75, 76, 77, 78, 79, 80, 81, 82, 83, 84, 85] (by rfl) (by decide +kernel)
set_option maxRecDepth 20000 in
theorem gX10_own_X10_hasCity : GoodIn wsX10_own (wsV RX10 163 RX10 yX10_hasCity wsX10_hasCity) := goodIn_app (goodIn_r _ [2, 3, 4, 5] (by rfl) (by decide +kernel)) ggX10_own_X10_hasCity
theorem dX10_own_1 : decode cX10_own 1 = .ok (.invokevirtual 163, 3) := by decide +kernel
theorem dX10_own_4 : decode cX10_own 4 = .ok (.ifCond .ne 6, 3) := by decide +kernel
theorem dX10_own_10 : decode cX10_own 10 = .ok (.aload_n 0, 1) := by decide +kernel
set_option maxRecDepth 20000 in
theorem ggX10_own_X10_bonds : GoodIn wsX10_own wsX10_bonds := goodIn_r _ [13, 7, 14, 15, 64, 65, 66, 67, 68, 69, 70, 71, 72, 73, 74, 75, 76, 77, 78, 86, 87, 88, 89, 90, 91, 92, 93] (by rfl) (by decide +kernel)
set_option maxRecDepth 20000 in
theorem gX10_own_X10_bonds : GoodIn wsX10_own (wsV RX10 134 RX10 yX10_bonds wsX10_bonds) := goodIn_app (goodIn_r _ [10, 11, 12, 5] (by rfl) (by decide +kernel)) ggX10_own_X10_bonds
theorem dX10_own_11 : decode cX10_own 11 = .ok (.invokevirtual 134, 3) := by decide +kernel
set_option maxRecDepth 20000 in
theorem ggX10_own_X0_isOneEach : GoodIn wsX10_own wsX0_isOneEach := goodIn_r _ [20, 21, 22, 23, 24, 19, 25, 26, 27, 28, 29, 30, 31, 32, 33, 34, 35, 36, 37, 38, 39, 40, 41, 62, 63] (by rfl) (by decide +kernel)
set_option maxRecDepth 20000 in
theorem gX10_own_X0_isOneEach : GoodIn wsX10_own (wsV RX10 235 RX0 yX0_isOneEach wsX0_isOneEach) := goodIn_app (goodIn_r _ [16, 17, 18, 19] (by rfl) (by decide +kernel)) ggX10_own_X0_isOneEach
theorem dX10_own_14 : decode cX10_own 14 = .ok (.invokevirtual 235, 3) := by decide +kernel
theorem dX10_own_17 : decode cX10_own 17 = .ok (.ifCond .ne 5, 3) := by decide +kernel
theorem dX10_own_22 : decode cX10_own 22 = .ok (.aload_n 0, 1) := by decide +kernel
theorem dX10_own_23 : decode cX10_own 23 = .ok (.invokevirtual 134, 3) := by decide +kernel
theorem dX10_own_26 : decode cX10_own 26 = .ok (.getfield 238, 3) := by decide +kernel
theorem dX10_own_29 : decode cX10_own 29 = .ok (.aload_n 0, 1) := by decide +kernel
theorem dX10_own_30 : decode cX10_own 30 = .ok (.invokevirtual 134, 3) := by decide +kernel
set_option maxRecDepth 20000 in
theorem ggX10_own_X0_ringCount : GoodIn wsX10_own wsX0_ringCount := goodIn_r _ [45, 21, 46, 47, 48, 19, 49, 50, 51, 52, 53, 54, 55, 56, 57, 58, 59, 60, 61, 26, 27, 28, 29, 30, 31, 32, 33, 34, 62, 63] (by rfl) (by decide +kernel)
set_option maxRecDepth 20000 in
theorem gX10_own_X0_ringCount : GoodIn wsX10_own (wsV RX10 182 RX0 yX0_ringCount wsX0_ringCount) := goodIn_app (goodIn_r _ [42, 43, 44, 19] (by rfl) (by decide +kernel)) ggX10_own_X0_ringCount
theorem dX10_own_33 : decode cX10_own 33 = .ok (.invokevirtual 182, 3) := by decide +kernel
theorem dX10_own_36 : decode cX10_own 36 = .ok (.isub, 1) := by decide +kernel
theorem dX10_own_37 : decode cX10_own 37 = .ok (.ireturn, 1) := by decide +kernel
theorem dX10_own_20 : decode cX10_own 20 = .ok (.iconst (-1), 1) := by decide +kernel
theorem dX10_own_21 : decode cX10_own 21 = .ok (.ireturn, 1) := by decide +kernel
theorem dX10_own_7 : decode cX10_own 7 = .ok (.bipush (-2), 2) := by decide +kernel
theorem dX10_own_9 : decode cX10_own 9 = .ok (.ireturn, 1) := by decide +kernel
theorem dX10_first_0 : decode cX10_first 0 = .ok (.aload_n 0, 1) := by decide +kernel
set_option maxRecDepth 20000 in
theorem ggX10_first_X10_hasCity : GoodIn wsX10_first wsX10_hasCity := goodIn_r _ [6, 7, 8, 9, 60, 61, 62, 63, 64, 65, 66, 67, 68, 69, 70, 71, 72, 73, 74, 75, 76, 77, 78, 79, 80, 81] (by rfl) (by decide +kernel)
set_option maxRecDepth 20000 in
theorem gX10_first_X10_hasCity : GoodIn wsX10_first (wsV RX10 163 RX10 yX10_hasCity wsX10_hasCity) := goodIn_app (goodIn_r _ [2, 3, 4, 5] (by rfl) (by decide +kernel)) ggX10_first_X10_hasCity
theorem dX10_first_1 : decode cX10_first 1 = .ok (.invokevirtual 163, 3) := by decide +kernel
theorem dX10_first_4 : decode cX10_first 4 = .ok (.ifCond .eq 12, 3) := by decide +kernel
theorem dX10_first_16 : decode cX10_first 16 = .ok (.bipush (-2), 2) := by decide +kernel
theorem dX10_first_18 : decode cX10_first 18 = .ok (.ireturn, 1) := by decide +kernel
theorem dX10_first_7 : decode cX10_first 7 = .ok (.iload_n 1, 1) := by decide +kernel
theorem dX10_first_8 : decode cX10_first 8 = .ok (.ifCond .lt 8, 3) := by decide +kernel
theorem dX10_first_11 : decode cX10_first 11 = .ok (.iload_n 1, 1) := by decide +kernel
theorem dX10_first_12 : decode cX10_first 12 = .ok (.iconst 1, 1) := by decide +kernel
theorem dX10_first_13 : decode cX10_first 13 = .ok (.if_icmp .le 6, 3) := by decide +kernel
theorem dX10_first_19 : decode cX10_first 19 = .ok (.aload_n 0, 1) := by decide +kernel
set_option maxRecDepth 20000 in
theorem ggX10_first_X10_bonds : GoodIn wsX10_first wsX10_bonds := goodIn_r _ [13, 7, 14, 15, 60, 61, 62, 63, 64, 65, 66, 67, 68, 69, 70, 71, 72, 73, 74, 82, 83, 84, 85, 86, 87, 88, 89] (by rfl) (by decide +kernel)
set_option maxRecDepth 20000 in
theorem gX10_first_X10_bonds : GoodIn wsX10_first (wsV RX10 134 RX10 yX10_bonds wsX10_bonds) := goodIn_app (goodIn_r _ [10, 11, 12, 5] (by rfl) (by decide +kernel)) ggX10_first_X10_bonds
theorem dX10_first_20 : decode cX10_first 20 = .ok (.invokevirtual 134, 3) := by decide +kernel
set_option maxRecDepth 20000 in
theorem ggX10_first_X0_isOneEach : GoodIn wsX10_first wsX0_isOneEach := goodIn_r _ [20, 21, 22, 23, 24, 19, 25, 26, 27, 28, 29, 30, 31, 32, 33, 34, 35, 36, 37, 38, 39, 40, 41, 58, 59] (by rfl) (by decide +kernel)
set_option maxRecDepth 20000 in
theorem gX10_first_X0_isOneEach : GoodIn wsX10_first (wsV RX10 235 RX0 yX0_isOneEach wsX0_isOneEach) := goodIn_app (goodIn_r _ [16, 17, 18, 19] (by rfl) (by decide +kernel)) ggX10_first_X0_isOneEach
theorem dX10_first_23 : decode cX10_first 23 = .ok (.invokevirtual 235, 3) := by decide +kernel
theorem dX10_first_26 : decode cX10_first 26 = .ok (.ifCond .ne 5, 3) := by decide +kernel
theorem dX10_first_31 : decode cX10_first 31 = .ok (.iconst 0, 1) := by decide +kernel
theorem dX10_first_32 : decode cX10_first 32 = .ok (.istore_n 2, 1) := by decide +kernel
theorem dX10_first_33 : decode cX10_first 33 = .ok (.iload_n 2, 1) := by decide +kernel
theorem dX10_first_34 : decode cX10_first 34 = .ok (.aload_n 0, 1) := by decide +kernel
theorem dX10_first_35 : decode cX10_first 35 = .ok (.invokevirtual 134, 3) := by decide +kernel
theorem dX10_first_38 : decode cX10_first 38 = .ok (.getfield 238, 3) := by decide +kernel
theorem dX10_first_41 : decode cX10_first 41 = .ok (.if_icmp .ge 38, 3) := by decide +kernel
theorem dX10_first_79 : decode cX10_first 79 = .ok (.iconst (-1), 1) := by decide +kernel
theorem dX10_first_80 : decode cX10_first 80 = .ok (.ireturn, 1) := by decide +kernel
theorem dX10_first_44 : decode cX10_first 44 = .ok (.aload_n 0, 1) := by decide +kernel
theorem dX10_first_45 : decode cX10_first 45 = .ok (.invokevirtual 134, 3) := by decide +kernel
theorem dX10_first_48 : decode cX10_first 48 = .ok (.iload_n 2, 1) := by decide +kernel
set_option maxRecDepth 20000 in
theorem ggX10_first_X0_ringOf : GoodIn wsX10_first wsX0_ringOf := goodIn_r _ [45, 46, 47, 48, 49, 50, 51, 52, 19, 53, 26, 27, 28, 29, 30, 31, 32, 33, 34, 21, 58, 59] (by rfl) (by decide +kernel)
set_option maxRecDepth 20000 in
theorem gX10_first_X0_ringOf : GoodIn wsX10_first (wsV RX10 179 RX0 yX0_ringOf wsX0_ringOf) := goodIn_app (goodIn_r _ [42, 43, 44, 19] (by rfl) (by decide +kernel)) ggX10_first_X0_ringOf
theorem dX10_first_49 : decode cX10_first 49 = .ok (.invokevirtual 179, 3) := by decide +kernel
theorem dX10_first_52 : decode cX10_first 52 = .ok (.iconst 1, 1) := by decide +kernel
theorem dX10_first_53 : decode cX10_first 53 = .ok (.if_icmp .le 20, 3) := by decide +kernel
theorem dX10_first_73 : decode cX10_first 73 = .ok (.iinc 2 1, 3) := by decide +kernel
theorem dX10_first_76 : decode cX10_first 76 = .ok (.goto (-43), 3) := by decide +kernel
theorem dX10_first_56 : decode cX10_first 56 = .ok (.iload_n 1, 1) := by decide +kernel
theorem dX10_first_57 : decode cX10_first 57 = .ok (.ifCond .ne 7, 3) := by decide +kernel
theorem dX10_first_64 : decode cX10_first 64 = .ok (.aload_n 0, 1) := by decide +kernel
theorem dX10_first_65 : decode cX10_first 65 = .ok (.invokevirtual 134, 3) := by decide +kernel
theorem dX10_first_68 : decode cX10_first 68 = .ok (.iload_n 2, 1) := by decide +kernel
set_option maxRecDepth 20000 in
theorem ggX10_first_X0_nextOfRing : GoodIn wsX10_first wsX0_nextOfRing := goodIn_r _ [57, 21, 50, 51, 52, 19, 53, 26, 27, 28, 29, 30, 31, 32, 33, 34, 58, 59] (by rfl) (by decide +kernel)
set_option maxRecDepth 20000 in
theorem gX10_first_X0_nextOfRing : GoodIn wsX10_first (wsV RX10 241 RX0 yX0_nextOfRing wsX0_nextOfRing) := goodIn_app (goodIn_r _ [54, 55, 56, 19] (by rfl) (by decide +kernel)) ggX10_first_X0_nextOfRing
theorem dX10_first_69 : decode cX10_first 69 = .ok (.invokevirtual 241, 3) := by decide +kernel
theorem dX10_first_72 : decode cX10_first 72 = .ok (.ireturn, 1) := by decide +kernel
theorem dX10_first_60 : decode cX10_first 60 = .ok (.iload_n 2, 1) := by decide +kernel
theorem dX10_first_61 : decode cX10_first 61 = .ok (.goto 11, 3) := by decide +kernel
theorem dX10_first_29 : decode cX10_first 29 = .ok (.iconst (-1), 1) := by decide +kernel
theorem dX10_first_30 : decode cX10_first 30 = .ok (.ireturn, 1) := by decide +kernel
theorem dX10_work_0 : decode cX10_work 0 = .ok (.aload_n 0, 1) := by decide +kernel
set_option maxRecDepth 20000 in
theorem ggX10_work_X10_hasCity : GoodIn wsX10_work wsX10_hasCity := goodIn_r _ [8, 2, 3, 9, 77, 78, 79, 80, 81, 82, 83, 84, 85, 86, 87, 88, 89, 90, 91, 92, 93, 94, 95, 96, 97, 98] (by rfl) (by decide +kernel)
set_option maxRecDepth 20000 in
theorem gX10_work_X10_hasCity : GoodIn wsX10_work (wsV RX10 163 RX10 yX10_hasCity wsX10_hasCity) := goodIn_app (goodIn_r _ [4, 5, 6, 7] (by rfl) (by decide +kernel)) ggX10_work_X10_hasCity
theorem dX10_work_1 : decode cX10_work 1 = .ok (.invokevirtual 163, 3) := by decide +kernel
theorem dX10_work_4 : decode cX10_work 4 = .ok (.ifCond .ne 6, 3) := by decide +kernel
theorem dX10_work_10 : decode cX10_work 10 = .ok (.iconst 0, 1) := by decide +kernel
theorem dX10_work_11 : decode cX10_work 11 = .ok (.istore_n 1, 1) := by decide +kernel
theorem dX10_work_12 : decode cX10_work 12 = .ok (.iconst 0, 1) := by decide +kernel
theorem dX10_work_13 : decode cX10_work 13 = .ok (.istore_n 2, 1) := by decide +kernel
theorem dX10_work_14 : decode cX10_work 14 = .ok (.iload_n 2, 1) := by decide +kernel
theorem dX10_work_15 : decode cX10_work 15 = .ok (.aload_n 0, 1) := by decide +kernel
set_option maxRecDepth 20000 in
theorem ggX10_work_X10_bonds : GoodIn wsX10_work wsX10_bonds := goodIn_r _ [13, 2, 14, 15, 77, 78, 79, 80, 81, 82, 83, 84, 85, 86, 87, 88, 89, 90, 91, 99, 100, 101, 102, 103, 104, 105, 106] (by rfl) (by decide +kernel)
set_option maxRecDepth 20000 in
theorem gX10_work_X10_bonds : GoodIn wsX10_work (wsV RX10 134 RX10 yX10_bonds wsX10_bonds) := goodIn_app (goodIn_r _ [10, 11, 12, 7] (by rfl) (by decide +kernel)) ggX10_work_X10_bonds
theorem dX10_work_16 : decode cX10_work 16 = .ok (.invokevirtual 134, 3) := by decide +kernel
theorem dX10_work_19 : decode cX10_work 19 = .ok (.getfield 238, 3) := by decide +kernel
theorem dX10_work_22 : decode cX10_work 22 = .ok (.if_icmp .ge 38, 3) := by decide +kernel
theorem dX10_work_60 : decode cX10_work 60 = .ok (.iload_n 1, 1) := by decide +kernel
theorem dX10_work_61 : decode cX10_work 61 = .ok (.ireturn, 1) := by decide +kernel
theorem dX10_work_25 : decode cX10_work 25 = .ok (.iload_n 1, 1) := by decide +kernel
theorem dX10_work_26 : decode cX10_work 26 = .ok (.aload_n 0, 1) := by decide +kernel
theorem dX10_work_27 : decode cX10_work 27 = .ok (.getfield 28, 3) := by decide +kernel
theorem dX10_work_30 : decode cX10_work 30 = .ok (.aload_n 0, 1) := by decide +kernel
theorem dX10_work_31 : decode cX10_work 31 = .ok (.getfield 28, 3) := by decide +kernel
theorem dX10_work_34 : decode cX10_work 34 = .ok (.iload_n 2, 1) := by decide +kernel
set_option maxRecDepth 20000 in
theorem ggX10_work_X4_askable : GoodIn wsX10_work wsX4_askable := goodIn_r _ [20, 21, 22, 23, 24, 25, 26, 27, 28, 29, 30, 31, 32, 33, 34, 35, 36, 37, 38, 88, 89, 90, 91, 99, 100, 101, 102, 103, 104, 105, 106, 75, 76] (by rfl) (by decide +kernel)
set_option maxRecDepth 20000 in
theorem gX10_work_X4_askable : GoodIn wsX10_work (wsV RX10 244 RX4 yX4_askable wsX4_askable) := goodIn_app (goodIn_r _ [16, 17, 18, 19] (by rfl) (by decide +kernel)) ggX10_work_X4_askable
theorem dX10_work_35 : decode cX10_work 35 = .ok (.invokevirtual 244, 3) := by decide +kernel
theorem dX10_work_38 : decode cX10_work 38 = .ok (.aload_n 0, 1) := by decide +kernel
theorem dX10_work_39 : decode cX10_work 39 = .ok (.getfield 28, 3) := by decide +kernel
theorem dX10_work_42 : decode cX10_work 42 = .ok (.getfield 49, 3) := by decide +kernel
theorem dX10_work_45 : decode cX10_work 45 = .ok (.iload_n 2, 1) := by decide +kernel
set_option maxRecDepth 20000 in
theorem ggX10_work_X9_wishesOf : GoodIn wsX10_work wsX9_wishesOf := goodIn_r _ [43, 44, 45, 46, 36, 37, 27, 38, 29, 92, 93, 94, 95, 96, 97, 98, 75, 76] (by rfl) (by decide +kernel)
set_option maxRecDepth 20000 in
theorem gX10_work_X9_wishesOf : GoodIn wsX10_work (wsV RX10 144 RX9 yX9_wishesOf wsX9_wishesOf) := goodIn_app (goodIn_r _ [39, 40, 41, 42] (by rfl) (by decide +kernel)) ggX10_work_X9_wishesOf
theorem dX10_work_46 : decode cX10_work 46 = .ok (.invokevirtual 144, 3) := by decide +kernel
set_option maxRecDepth 20000 in
theorem ggX10_work_X4_mostWishes : GoodIn wsX10_work wsX4_mostWishes := goodIn_r _ [50, 51, 52, 53, 54, 55, 56, 57, 58, 59, 60, 61, 62, 63, 64, 19, 65, 21, 22, 66, 67, 68, 7, 69, 70, 71, 72, 42, 73, 44, 74, 46, 36, 37, 27, 38, 29, 88, 89, 90, 91, 99, 100, 101, 102, 103, 104, 105, 106, 75, 76, 92, 93, 94, 95, 96, 97, 98] (by rfl) (by decide +kernel)
set_option maxRecDepth 20000 in
theorem gX10_work_X4_mostWishes : GoodIn wsX10_work (wsV RX10 247 RX4 yX4_mostWishes wsX4_mostWishes) := goodIn_app (goodIn_r _ [47, 48, 49, 19] (by rfl) (by decide +kernel)) ggX10_work_X4_mostWishes
theorem dX10_work_49 : decode cX10_work 49 = .ok (.invokevirtual 247, 3) := by decide +kernel
theorem dX10_work_52 : decode cX10_work 52 = .ok (.iadd, 1) := by decide +kernel
theorem dX10_work_53 : decode cX10_work 53 = .ok (.istore_n 1, 1) := by decide +kernel
theorem dX10_work_54 : decode cX10_work 54 = .ok (.iinc 2 1, 3) := by decide +kernel
theorem dX10_work_57 : decode cX10_work 57 = .ok (.goto (-43), 3) := by decide +kernel
theorem dX10_work_7 : decode cX10_work 7 = .ok (.bipush (-2), 2) := by decide +kernel
theorem dX10_work_9 : decode cX10_work 9 = .ok (.ireturn, 1) := by decide +kernel
theorem dX10_works_0 : decode cX10_works 0 = .ok (.aload_n 0, 1) := by decide +kernel
theorem dX10_works_1 : decode cX10_works 1 = .ok (.iload_n 1, 1) := by decide +kernel
set_option maxRecDepth 20000 in
theorem ggX10_works_X10_isPerson : GoodIn wsX10_works wsX10_isPerson := goodIn_r _ [6, 1, 7, 8, 9, 10, 11, 12, 13, 14, 78, 79, 80, 81, 82, 83, 84, 85, 86, 87, 88, 89, 90, 91, 92, 93, 94, 95, 96, 97, 98, 99, 100, 101, 102] (by rfl) (by decide +kernel)
set_option maxRecDepth 20000 in
theorem gX10_works_X10_isPerson : GoodIn wsX10_works (wsV RX10 124 RX10 yX10_isPerson wsX10_isPerson) := goodIn_app (goodIn_r _ [2, 3, 4, 5] (by rfl) (by decide +kernel)) ggX10_works_X10_isPerson
theorem dX10_works_2 : decode cX10_works 2 = .ok (.invokevirtual 124, 3) := by decide +kernel
theorem dX10_works_5 : decode cX10_works 5 = .ok (.ifCond .ne 6, 3) := by decide +kernel
theorem dX10_works_11 : decode cX10_works 11 = .ok (.aload_n 0, 1) := by decide +kernel
theorem dX10_works_12 : decode cX10_works 12 = .ok (.getfield 28, 3) := by decide +kernel
theorem dX10_works_15 : decode cX10_works 15 = .ok (.iload_n 1, 1) := by decide +kernel
set_option maxRecDepth 20000 in
theorem ggX10_works_X4_workOf : GoodIn wsX10_works wsX4_workOf := goodIn_r _ [19, 20, 21, 22, 23, 24, 25, 12, 26, 27, 28, 10, 11, 13, 14, 29, 30, 31, 18, 32, 33, 34, 35, 36, 37, 38, 39, 40, 41, 42, 43, 44, 45, 46, 47, 5, 48, 49, 50, 51, 52, 53, 54, 55, 56, 57, 58, 59, 60, 61, 62, 63, 64, 65, 66, 67, 68, 69, 70, 71, 72, 73, 74, 75, 76, 77, 89, 90, 91, 92, 93, 94, 95, 96, 97, 98, 99, 100, 101, 102, 103, 104, 105, 106, 107, 108, 109] (by rfl) (by decide +kernel)
set_option maxRecDepth 20000 in
theorem gX10_works_X4_workOf : GoodIn wsX10_works (wsV RX10 250 RX4 yX4_workOf wsX4_workOf) := goodIn_app (goodIn_r _ [15, 16, 17, 18] (by rfl) (by decide +kernel)) ggX10_works_X4_workOf
theorem dX10_works_16 : decode cX10_works 16 = .ok (.invokevirtual 250, 3) := by decide +kernel
theorem dX10_works_19 : decode cX10_works 19 = .ok (.ireturn, 1) := by decide +kernel
theorem dX10_works_8 : decode cX10_works 8 = .ok (.bipush (-2), 2) := by decide +kernel
theorem dX10_works_10 : decode cX10_works 10 = .ok (.ireturn, 1) := by decide +kernel
theorem dX10_covers_0 : decode cX10_covers 0 = .ok (.aload_n 0, 1) := by decide +kernel
set_option maxRecDepth 20000 in
theorem ggX10_covers_X10_hasCity : GoodIn wsX10_covers wsX10_hasCity := goodIn_r _ [7, 2, 8, 9, 64, 65, 66, 67, 68, 69, 70, 71, 72, 73, 74, 75, 76, 77, 78, 79, 80, 81, 82, 83, 84, 85] (by rfl) (by decide +kernel)
set_option maxRecDepth 20000 in
theorem gX10_covers_X10_hasCity : GoodIn wsX10_covers (wsV RX10 163 RX10 yX10_hasCity wsX10_hasCity) := goodIn_app (goodIn_r _ [3, 4, 5, 6] (by rfl) (by decide +kernel)) ggX10_covers_X10_hasCity
theorem dX10_covers_1 : decode cX10_covers 1 = .ok (.invokevirtual 163, 3) := by decide +kernel
theorem dX10_covers_4 : decode cX10_covers 4 = .ok (.ifCond .eq 10, 3) := by decide +kernel
theorem dX10_covers_14 : decode cX10_covers 14 = .ok (.bipush (-2), 2) := by decide +kernel
theorem dX10_covers_16 : decode cX10_covers 16 = .ok (.ireturn, 1) := by decide +kernel
theorem dX10_covers_7 : decode cX10_covers 7 = .ok (.iload_n 1, 1) := by decide +kernel
set_option maxRecDepth 20000 in
theorem ggX10_covers_X10_isDeedSet : GoodIn wsX10_covers wsX10_isDeedSet := goodIn_r _ [12] (by rfl) (by decide +kernel)
set_option maxRecDepth 20000 in
theorem gX10_covers_X10_isDeedSet : GoodIn wsX10_covers (va_wsS RX10 261 yX10_isDeedSet wsX10_isDeedSet) := goodIn_app (goodIn_r _ [10, 11, 6] (by rfl) (by decide +kernel)) ggX10_covers_X10_isDeedSet
theorem dX10_covers_8 : decode cX10_covers 8 = .ok (.invokestatic 261, 3) := by decide +kernel
theorem dX10_covers_11 : decode cX10_covers 11 = .ok (.ifCond .ne 6, 3) := by decide +kernel
theorem dX10_covers_17 : decode cX10_covers 17 = .ok (.aload_n 0, 1) := by decide +kernel
theorem dX10_covers_18 : decode cX10_covers 18 = .ok (.getfield 77, 3) := by decide +kernel
theorem dX10_covers_21 : decode cX10_covers 21 = .ok (.aload_n 0, 1) := by decide +kernel
theorem dX10_covers_22 : decode cX10_covers 22 = .ok (.getfield 28, 3) := by decide +kernel
set_option maxRecDepth 20000 in
theorem ggX10_covers_X1_takeHands : GoodIn wsX10_covers wsX1_takeHands := goodIn_r _ [17, 18, 19, 20, 21, 22, 23, 24, 25, 26, 27, 28, 29, 30, 31, 32, 33, 34, 35, 36, 37, 38, 39, 40, 41, 42, 43, 44, 45, 46, 6, 47, 48, 49, 50, 51, 52, 53, 54, 55, 56, 16, 57, 58, 59, 86, 87, 88, 75, 76, 77, 78, 79, 80, 81, 82, 83, 84, 85, 89, 90, 91, 92, 93, 94, 95, 96, 97, 98] (by rfl) (by decide +kernel)
set_option maxRecDepth 20000 in
theorem gX10_covers_X1_takeHands : GoodIn wsX10_covers (wsV RX10 264 RX1 yX1_takeHands wsX1_takeHands) := goodIn_app (goodIn_r _ [13, 14, 15, 16] (by rfl) (by decide +kernel)) ggX10_covers_X1_takeHands
theorem dX10_covers_25 : decode cX10_covers 25 = .ok (.invokevirtual 264, 3) := by decide +kernel
theorem dX10_covers_28 : decode cX10_covers 28 = .ok (.aload_n 0, 1) := by decide +kernel
theorem dX10_covers_29 : decode cX10_covers 29 = .ok (.getfield 77, 3) := by decide +kernel
theorem dX10_covers_32 : decode cX10_covers 32 = .ok (.iload_n 1, 1) := by decide +kernel
set_option maxRecDepth 20000 in
theorem ggX10_covers_X1_cheapest : GoodIn wsX10_covers wsX1_cheapest := goodIn_r _ [63, 18, 59, 58, 86, 87, 88] (by rfl) (by decide +kernel)
set_option maxRecDepth 20000 in
theorem gX10_covers_X1_cheapest : GoodIn wsX10_covers (wsV RX10 268 RX1 yX1_cheapest wsX1_cheapest) := goodIn_app (goodIn_r _ [60, 61, 62, 16] (by rfl) (by decide +kernel)) ggX10_covers_X1_cheapest
theorem dX10_covers_33 : decode cX10_covers 33 = .ok (.invokevirtual 268, 3) := by decide +kernel
theorem dX10_covers_36 : decode cX10_covers 36 = .ok (.ireturn, 1) := by decide +kernel
theorem dX10_cover_0 : decode cX10_cover 0 = .ok (.aload_n 0, 1) := by decide +kernel
theorem dX10_cover_1 : decode cX10_cover 1 = .ok (.iload_n 1, 1) := by decide +kernel
set_option maxRecDepth 20000 in
theorem ggX10_cover_X10_covers : GoodIn wsX10_cover wsX10_covers := goodIn_r _ [5, 6, 7, 8, 9, 10, 4, 11, 12, 13, 14, 15, 16, 17, 18, 19, 20, 21, 22, 23, 24, 25, 26, 27, 28, 29, 30, 31, 32, 33, 34, 35, 36, 37, 38, 39, 40, 41, 42, 43, 44, 45, 46, 47, 48, 49, 50, 51, 52, 53, 54, 55, 56, 57, 58, 59, 60, 61, 62, 63, 64, 65, 66, 67, 75, 76, 77, 78, 79, 80, 81, 82, 83, 84, 85, 86, 87, 88, 89, 90, 91, 92, 93, 94, 95, 96, 97, 98, 99, 100, 101, 102, 103, 104, 105, 106, 107, 108, 109] (by rfl) (by decide +kernel)
set_option maxRecDepth 20000 in
theorem gX10_cover_X10_covers : GoodIn wsX10_cover (wsV RX10 253 RX10 yX10_covers wsX10_covers) := goodIn_app (goodIn_r _ [1, 2, 3, 4] (by rfl) (by decide +kernel)) ggX10_cover_X10_covers
theorem dX10_cover_2 : decode cX10_cover 2 = .ok (.invokevirtual 253, 3) := by decide +kernel
theorem dX10_cover_5 : decode cX10_cover 5 = .ok (.istore_n 2, 1) := by decide +kernel
theorem dX10_cover_6 : decode cX10_cover 6 = .ok (.iload_n 2, 1) := by decide +kernel
theorem dX10_cover_7 : decode cX10_cover 7 = .ok (.ifCond .ge 7, 3) := by decide +kernel
theorem dX10_cover_14 : decode cX10_cover 14 = .ok (.iload_n 2, 1) := by decide +kernel
set_option maxRecDepth 20000 in
theorem ggX10_cover_J6_bitCount_0f7a4 : GoodIn wsX10_cover wsJ6_bitCount_0f7a4 := goodIn_r _ [71, 72, 73, 74] (by rfl) (by decide +kernel)
set_option maxRecDepth 20000 in
theorem gX10_cover_J6_bitCount_0f7a4 : GoodIn wsX10_cover (va_wsS RX10 256 yJ6_bitCount_0f7a4 wsJ6_bitCount_0f7a4) := goodIn_app (goodIn_r _ [68, 69, 70] (by rfl) (by decide +kernel)) ggX10_cover_J6_bitCount_0f7a4
theorem dX10_cover_15 : decode cX10_cover 15 = .ok (.invokestatic 256, 3) := by decide +kernel
theorem dX10_cover_18 : decode cX10_cover 18 = .ok (.ireturn, 1) := by decide +kernel
theorem dX10_cover_10 : decode cX10_cover 10 = .ok (.iload_n 2, 1) := by decide +kernel
theorem dX10_cover_11 : decode cX10_cover 11 = .ok (.goto 7, 3) := by decide +kernel
theorem dX10_bought_0 : decode cX10_bought 0 = .ok (.aload_n 0, 1) := by decide +kernel
set_option maxRecDepth 20000 in
theorem ggX10_bought_X10_hasCity : GoodIn wsX10_bought wsX10_hasCity := goodIn_r _ [7, 2, 8, 9, 50, 51, 52, 53, 54, 55, 56, 57, 58, 59, 60, 61, 62, 63, 64, 65, 66, 67, 68, 69, 70, 71] (by rfl) (by decide +kernel)
set_option maxRecDepth 20000 in
theorem gX10_bought_X10_hasCity : GoodIn wsX10_bought (wsV RX10 163 RX10 yX10_hasCity wsX10_hasCity) := goodIn_app (goodIn_r _ [3, 4, 5, 6] (by rfl) (by decide +kernel)) ggX10_bought_X10_hasCity
theorem dX10_bought_1 : decode cX10_bought 1 = .ok (.invokevirtual 163, 3) := by decide +kernel
theorem dX10_bought_4 : decode cX10_bought 4 = .ok (.ifCond .eq 10, 3) := by decide +kernel
theorem dX10_bought_14 : decode cX10_bought 14 = .ok (.bipush (-2), 2) := by decide +kernel
theorem dX10_bought_16 : decode cX10_bought 16 = .ok (.ireturn, 1) := by decide +kernel
theorem dX10_bought_7 : decode cX10_bought 7 = .ok (.iload_n 1, 1) := by decide +kernel
set_option maxRecDepth 20000 in
theorem ggX10_bought_X10_isDeedSet : GoodIn wsX10_bought wsX10_isDeedSet := goodIn_r _ [12] (by rfl) (by decide +kernel)
set_option maxRecDepth 20000 in
theorem gX10_bought_X10_isDeedSet : GoodIn wsX10_bought (va_wsS RX10 261 yX10_isDeedSet wsX10_isDeedSet) := goodIn_app (goodIn_r _ [10, 11, 6] (by rfl) (by decide +kernel)) ggX10_bought_X10_isDeedSet
theorem dX10_bought_8 : decode cX10_bought 8 = .ok (.invokestatic 261, 3) := by decide +kernel
theorem dX10_bought_11 : decode cX10_bought 11 = .ok (.ifCond .ne 6, 3) := by decide +kernel
theorem dX10_bought_17 : decode cX10_bought 17 = .ok (.aload_n 0, 1) := by decide +kernel
theorem dX10_bought_18 : decode cX10_bought 18 = .ok (.getfield 77, 3) := by decide +kernel
theorem dX10_bought_21 : decode cX10_bought 21 = .ok (.aload_n 0, 1) := by decide +kernel
theorem dX10_bought_22 : decode cX10_bought 22 = .ok (.getfield 28, 3) := by decide +kernel
set_option maxRecDepth 20000 in
theorem ggX10_bought_X1_takePersons : GoodIn wsX10_bought wsX1_takePersons := goodIn_r _ [17, 18, 19, 20, 21, 22, 23, 24, 25, 26, 27, 28, 29, 30, 31, 32, 33, 34, 35, 36, 37, 38, 39, 40, 41, 42, 16, 43, 44, 45, 72, 73, 74, 61, 62, 63, 64, 65, 66, 67, 68, 69, 70, 71, 75, 76] (by rfl) (by decide +kernel)
set_option maxRecDepth 20000 in
theorem gX10_bought_X1_takePersons : GoodIn wsX10_bought (wsV RX10 277 RX1 yX1_takePersons wsX1_takePersons) := goodIn_app (goodIn_r _ [13, 14, 15, 16] (by rfl) (by decide +kernel)) ggX10_bought_X1_takePersons
theorem dX10_bought_25 : decode cX10_bought 25 = .ok (.invokevirtual 277, 3) := by decide +kernel
theorem dX10_bought_28 : decode cX10_bought 28 = .ok (.aload_n 0, 1) := by decide +kernel
theorem dX10_bought_29 : decode cX10_bought 29 = .ok (.getfield 77, 3) := by decide +kernel
theorem dX10_bought_32 : decode cX10_bought 32 = .ok (.iload_n 1, 1) := by decide +kernel
set_option maxRecDepth 20000 in
theorem ggX10_bought_X1_cheapest : GoodIn wsX10_bought wsX1_cheapest := goodIn_r _ [49, 18, 45, 44, 72, 73, 74] (by rfl) (by decide +kernel)
set_option maxRecDepth 20000 in
theorem gX10_bought_X1_cheapest : GoodIn wsX10_bought (wsV RX10 268 RX1 yX1_cheapest wsX1_cheapest) := goodIn_app (goodIn_r _ [46, 47, 48, 16] (by rfl) (by decide +kernel)) ggX10_bought_X1_cheapest
theorem dX10_bought_33 : decode cX10_bought 33 = .ok (.invokevirtual 268, 3) := by decide +kernel
theorem dX10_bought_36 : decode cX10_bought 36 = .ok (.ireturn, 1) := by decide +kernel
theorem dX10_buy_0 : decode cX10_buy 0 = .ok (.aload_n 0, 1) := by decide +kernel
theorem dX10_buy_1 : decode cX10_buy 1 = .ok (.iload_n 1, 1) := by decide +kernel
set_option maxRecDepth 20000 in
theorem ggX10_buy_X10_bought : GoodIn wsX10_buy wsX10_bought := goodIn_r _ [6, 1, 7, 8, 9, 10, 5, 11, 12, 13, 14, 15, 16, 17, 18, 19, 20, 21, 22, 23, 24, 25, 26, 27, 28, 29, 30, 31, 32, 33, 34, 35, 36, 37, 38, 39, 40, 41, 42, 43, 44, 45, 46, 47, 48, 49, 50, 51, 52, 53, 58, 59, 60, 61, 62, 63, 64, 65, 66, 67, 68, 69, 70, 71, 72, 73, 74, 75, 76, 77, 78, 79, 80, 81, 82, 83, 84] (by rfl) (by decide +kernel)
set_option maxRecDepth 20000 in
theorem gX10_buy_X10_bought : GoodIn wsX10_buy (wsV RX10 271 RX10 yX10_bought wsX10_bought) := goodIn_app (goodIn_r _ [2, 3, 4, 5] (by rfl) (by decide +kernel)) ggX10_buy_X10_bought
theorem dX10_buy_2 : decode cX10_buy 2 = .ok (.invokevirtual 271, 3) := by decide +kernel
theorem dX10_buy_5 : decode cX10_buy 5 = .ok (.istore_n 2, 1) := by decide +kernel
theorem dX10_buy_6 : decode cX10_buy 6 = .ok (.iload_n 2, 1) := by decide +kernel
theorem dX10_buy_7 : decode cX10_buy 7 = .ok (.ifCond .ge 7, 3) := by decide +kernel
theorem dX10_buy_14 : decode cX10_buy 14 = .ok (.aload_n 0, 1) := by decide +kernel
theorem dX10_buy_15 : decode cX10_buy 15 = .ok (.getfield 77, 3) := by decide +kernel
theorem dX10_buy_18 : decode cX10_buy 18 = .ok (.iload_n 2, 1) := by decide +kernel
set_option maxRecDepth 20000 in
theorem ggX10_buy_X1_costOf : GoodIn wsX10_buy wsX1_costOf := goodIn_r _ [57, 22, 48, 80, 81, 82] (by rfl) (by decide +kernel)
set_option maxRecDepth 20000 in
theorem gX10_buy_X1_costOf : GoodIn wsX10_buy (wsV RX10 274 RX1 yX1_costOf wsX1_costOf) := goodIn_app (goodIn_r _ [54, 55, 56, 20] (by rfl) (by decide +kernel)) ggX10_buy_X1_costOf
theorem dX10_buy_19 : decode cX10_buy 19 = .ok (.invokevirtual 274, 3) := by decide +kernel
theorem dX10_buy_22 : decode cX10_buy 22 = .ok (.ireturn, 1) := by decide +kernel
theorem dX10_buy_10 : decode cX10_buy 10 = .ok (.iload_n 2, 1) := by decide +kernel
theorem dX10_buy_11 : decode cX10_buy 11 = .ok (.goto 11, 3) := by decide +kernel
theorem dX10_hired_0 : decode cX10_hired 0 = .ok (.aload_n 0, 1) := by decide +kernel
set_option maxRecDepth 20000 in
theorem ggX10_hired_X10_hasCity : GoodIn wsX10_hired wsX10_hasCity := goodIn_r _ [7, 2, 8, 9, 54, 55, 56, 57, 58, 59, 60, 61, 62, 63, 64, 65, 66, 67, 68, 69, 70, 71, 72, 73, 74, 75] (by rfl) (by decide +kernel)
set_option maxRecDepth 20000 in
theorem gX10_hired_X10_hasCity : GoodIn wsX10_hired (wsV RX10 163 RX10 yX10_hasCity wsX10_hasCity) := goodIn_app (goodIn_r _ [3, 4, 5, 6] (by rfl) (by decide +kernel)) ggX10_hired_X10_hasCity
theorem dX10_hired_1 : decode cX10_hired 1 = .ok (.invokevirtual 163, 3) := by decide +kernel
theorem dX10_hired_4 : decode cX10_hired 4 = .ok (.ifCond .eq 14, 3) := by decide +kernel
theorem dX10_hired_18 : decode cX10_hired 18 = .ok (.bipush (-2), 2) := by decide +kernel
theorem dX10_hired_20 : decode cX10_hired 20 = .ok (.ireturn, 1) := by decide +kernel
theorem dX10_hired_7 : decode cX10_hired 7 = .ok (.iload_n 1, 1) := by decide +kernel
theorem dX10_hired_8 : decode cX10_hired 8 = .ok (.ifCond .lt 10, 3) := by decide +kernel
theorem dX10_hired_11 : decode cX10_hired 11 = .ok (.iload_n 1, 1) := by decide +kernel
theorem dX10_hired_12 : decode cX10_hired 12 = .ok (.sipush 2000, 3) := by decide +kernel
theorem dX10_hired_15 : decode cX10_hired 15 = .ok (.if_icmp .le 6, 3) := by decide +kernel
theorem dX10_hired_21 : decode cX10_hired 21 = .ok (.aload_n 0, 1) := by decide +kernel
theorem dX10_hired_22 : decode cX10_hired 22 = .ok (.getfield 77, 3) := by decide +kernel
theorem dX10_hired_25 : decode cX10_hired 25 = .ok (.aload_n 0, 1) := by decide +kernel
theorem dX10_hired_26 : decode cX10_hired 26 = .ok (.getfield 28, 3) := by decide +kernel
set_option maxRecDepth 20000 in
theorem ggX10_hired_X1_takePersons : GoodIn wsX10_hired wsX1_takePersons := goodIn_r _ [14, 15, 16, 17, 18, 19, 20, 21, 22, 23, 24, 25, 26, 27, 28, 29, 30, 31, 32, 33, 34, 35, 36, 37, 38, 39, 13, 40, 41, 42, 76, 77, 78, 65, 66, 67, 68, 69, 70, 71, 72, 73, 74, 75, 79, 80] (by rfl) (by decide +kernel)
set_option maxRecDepth 20000 in
theorem gX10_hired_X1_takePersons : GoodIn wsX10_hired (wsV RX10 277 RX1 yX1_takePersons wsX1_takePersons) := goodIn_app (goodIn_r _ [10, 11, 12, 13] (by rfl) (by decide +kernel)) ggX10_hired_X1_takePersons
theorem dX10_hired_29 : decode cX10_hired 29 = .ok (.invokevirtual 277, 3) := by decide +kernel
theorem dX10_hired_32 : decode cX10_hired 32 = .ok (.aload_n 0, 1) := by decide +kernel
theorem dX10_hired_33 : decode cX10_hired 33 = .ok (.getfield 77, 3) := by decide +kernel
theorem dX10_hired_36 : decode cX10_hired 36 = .ok (.iload_n 1, 1) := by decide +kernel
set_option maxRecDepth 20000 in
theorem ggX10_hired_X1_richest : GoodIn wsX10_hired wsX1_richest := goodIn_r _ [46, 15, 42, 41, 47, 48, 49, 50, 51, 52, 53, 76, 77, 78] (by rfl) (by decide +kernel)
set_option maxRecDepth 20000 in
theorem gX10_hired_X1_richest : GoodIn wsX10_hired (wsV RX10 284 RX1 yX1_richest wsX1_richest) := goodIn_app (goodIn_r _ [43, 44, 45, 13] (by rfl) (by decide +kernel)) ggX10_hired_X1_richest
theorem dX10_hired_37 : decode cX10_hired 37 = .ok (.invokevirtual 284, 3) := by decide +kernel
theorem dX10_hired_40 : decode cX10_hired 40 = .ok (.ireturn, 1) := by decide +kernel
theorem dX10_deeds_0 : decode cX10_deeds 0 = .ok (.aload_n 0, 1) := by decide +kernel
theorem dX10_deeds_1 : decode cX10_deeds 1 = .ok (.iload_n 1, 1) := by decide +kernel
set_option maxRecDepth 20000 in
theorem ggX10_deeds_X10_hired : GoodIn wsX10_deeds wsX10_hired := goodIn_r _ [6, 1, 7, 8, 9, 10, 5, 11, 12, 13, 14, 15, 16, 17, 18, 19, 20, 21, 22, 23, 24, 25, 26, 27, 28, 29, 30, 31, 32, 33, 34, 35, 36, 37, 38, 39, 40, 41, 42, 43, 44, 45, 46, 47, 48, 49, 50, 51, 52, 53, 54, 55, 56, 57, 63, 64, 65, 66, 67, 68, 69, 70, 71, 72, 73, 74, 75, 76, 77, 78, 79, 80, 81, 82, 83, 84, 85, 86, 87, 88, 89] (by rfl) (by decide +kernel)
set_option maxRecDepth 20000 in
theorem gX10_deeds_X10_hired : GoodIn wsX10_deeds (wsV RX10 280 RX10 yX10_hired wsX10_hired) := goodIn_app (goodIn_r _ [2, 3, 4, 5] (by rfl) (by decide +kernel)) ggX10_deeds_X10_hired
theorem dX10_deeds_2 : decode cX10_deeds 2 = .ok (.invokevirtual 280, 3) := by decide +kernel
theorem dX10_deeds_5 : decode cX10_deeds 5 = .ok (.istore_n 2, 1) := by decide +kernel
theorem dX10_deeds_6 : decode cX10_deeds 6 = .ok (.iload_n 2, 1) := by decide +kernel
theorem dX10_deeds_7 : decode cX10_deeds 7 = .ok (.ifCond .ge 7, 3) := by decide +kernel
theorem dX10_deeds_14 : decode cX10_deeds 14 = .ok (.aload_n 0, 1) := by decide +kernel
theorem dX10_deeds_15 : decode cX10_deeds 15 = .ok (.getfield 77, 3) := by decide +kernel
theorem dX10_deeds_18 : decode cX10_deeds 18 = .ok (.iload_n 2, 1) := by decide +kernel
set_option maxRecDepth 20000 in
theorem ggX10_deeds_X1_deedsOf : GoodIn wsX10_deeds wsX1_deedsOf := goodIn_r _ [61, 19, 46, 85, 86, 87] (by rfl) (by decide +kernel)
set_option maxRecDepth 20000 in
theorem gX10_deeds_X1_deedsOf : GoodIn wsX10_deeds (wsV RX10 283 RX1 yX1_deedsOf wsX1_deedsOf) := goodIn_app (goodIn_r _ [58, 59, 60, 17] (by rfl) (by decide +kernel)) ggX10_deeds_X1_deedsOf
theorem dX10_deeds_19 : decode cX10_deeds 19 = .ok (.invokevirtual 283, 3) := by decide +kernel
set_option maxRecDepth 20000 in
theorem ggX10_deeds_J6_bitCount_0f7a4 : GoodIn wsX10_deeds wsJ6_bitCount_0f7a4 := goodIn_r _ [54, 55, 56, 57] (by rfl) (by decide +kernel)
set_option maxRecDepth 20000 in
theorem gX10_deeds_J6_bitCount_0f7a4 : GoodIn wsX10_deeds (va_wsS RX10 256 yJ6_bitCount_0f7a4 wsJ6_bitCount_0f7a4) := goodIn_app (goodIn_r _ [62, 52, 53] (by rfl) (by decide +kernel)) ggX10_deeds_J6_bitCount_0f7a4
theorem dX10_deeds_22 : decode cX10_deeds 22 = .ok (.invokestatic 256, 3) := by decide +kernel
theorem dX10_deeds_25 : decode cX10_deeds 25 = .ok (.ireturn, 1) := by decide +kernel
theorem dX10_deeds_10 : decode cX10_deeds 10 = .ok (.iload_n 2, 1) := by decide +kernel
theorem dX10_deeds_11 : decode cX10_deeds 11 = .ok (.goto 14, 3) := by decide +kernel
set_option maxHeartbeats 4000000 in
set_option maxRecDepth 100000 in
theorem a_X10_feed (l : Launch) (G : va_G) (ct : Nat → ClassId) (a0 : Nat) (a1 : Nat) (a3 : Nat) (a11 : Nat) (a25 : Nat) (a68 : Nat) (a69 : Nat) (a77 : Nat) (a82 : Nat) (a84 : Nat) (a88 : Nat) (a91 : Nat) (a2 : Nat) (n1_1 : Int32) (f2 : Nat → Int32) (p0 : Int32) (p1 : Int32) (p2 : Int32) (p3 : Int32) (p4 : Int32) (hp_n1_1 : rg 0 900 n1_1) : Met l yX10_feed wsX10_feed ({ frames := 2, cells := 0, slots := 0, locals := 43 }) (va_Pc [.ref a0, .int p0, .int p1, .int p2, .int p3, .int p4] (wrP G ct [(a0, .inr (10, [.ref a1, .ref a3, .ref a11, .ref a25, .ref a68, .ref a69, .ref a77, .ref a82, .ref a84, .ref a88, .ref a91])), (a1, .inr (8, [.ref a2, .int n1_1])), (a2, .inl (ct 1, 900, .inl f2))])) (va_Qi (fun (r : Int32) (u : SU) => rg (-1) 900 r ∧ rg 4 900 (u.1 0) ∧ True) (fun u t => va_P G vwCl ((fun u : SU => [(a0, .inr (10, [.ref a1, .ref a3, .ref a11, .ref a25, .ref a68, .ref a69, .ref a77, .ref a82, .ref a84, .ref a88, .ref a91])), (a1, .inr (8, [.ref a2, .int (u.1 0)])), (a2, .inl (ct 1, 900, .inl (u.2.1 0)))]) u) t.heap) (aset [(a0, .inr (10, [.ref a1, .ref a3, .ref a11, .ref a25, .ref a68, .ref a69, .ref a77, .ref a82, .ref a84, .ref a88, .ref a91])), (a1, .inr (8, [.ref a2, .int n1_1])), (a2, .inl (ct 1, 900, .inl f2))])) 0 0 (aset [(a0, .inr (10, [.ref a1, .ref a3, .ref a11, .ref a25, .ref a68, .ref a69, .ref a77, .ref a82, .ref a84, .ref a88, .ref a91])), (a1, .inr (8, [.ref a2, .int n1_1])), (a2, .inl (ct 1, 900, .inl f2))]) := by
  refine Met.ofW (cc := cX10_feed) (maxL := 6) (ret := (some .int)) (by decide) rfl ?_
  intro p e s m args below meth c s₁ B hml hv
  obtain ⟨rfl, hP, hK, hD0⟩ := hv
  have hx := B.exec
  have hb := B.bytes
  have hr := B.returns
  have hts := atoms_spec (ws := wsX10_feed) B.pre
  have hown : s.vm.findClass RX10 = some m.cls := findClass_of_methodNamed B.named
  have hlocks := B.notSynchronized
  have hD := hD0.aself
  generalize hAe : aset [(a0, .inr (10, [.ref a1, .ref a3, .ref a11, .ref a25, .ref a68, .ref a69, .ref a77, .ref a82, .ref a84, .ref a88, .ref a91])), (a1, .inr (8, [.ref a2, .int n1_1])), (a2, .inl (ct 1, 900, .inl f2))] = A at hD ⊢
  have hS : va_S A s.heap s.heap [] := va_S.rf
  have hl := lv_entry ([.ref a0, .int p0, .int p1, .int p2, .int p3, .int p4]) (n := 6) (Nat.le_of_ble_eq_true rfl)
  rw [lg_entry_eq]
  generalize (lg_sl ([.ref a0, .int p0, .int p1, .int p2, .int p3, .int p4]) ++ List.replicate (6 - (lg_sl ([.ref a0, .int p0, .int p1, .int p2, .int p3, .int p4])).length) Slot.unset).toArray = ls at hl ⊢
  have hl : lv_has ls 6 [(0, .ref a0), (1, .int p0), (2, .int p1), (3, .int p2), (4, .int p3), (5, .int p4)] := hl
  refine lv_aload_n hx hb dX10_feed_0 rfl (lv_at hl 0 rfl) ?_
  refine va_get (D := G) (ci := 10) (v := .ref a1) (C := RX10) (T := TX10) (N := 11) hx hb hts (by decide +kernel) hown hK.1 hP 0 rfl rfl 0 (by decide) (hts (.fieldLink RX10 10 "CardHolder" "tape" "LCardHolder$Tape;") (by decide +kernel)) (fun _ h9 => h9) rfl dX10_feed_1 ?_
  refine lv_bipush (v := 20) hx hb dX10_feed_4 (by decide) ?_
  refine ro_calli (va_runV (As := [.int 20]) (rest := []) ⟨hx, hb, hml, hown, hts⟩ (a_X8_hasRoomFor20 l G ct a1 a2 n1_1 hp_n1_1) (cwV 1 hts gX10_feed_X8_hasRoomFor rfl rfl rfl (by decide +kernel) ⟨Nat.le_of_ble_eq_true rfl, Nat.le_of_ble_eq_true rfl⟩) (ro_preV 8 0 hK (hP.sub [1] rfl) rfl rfl) rfl rfl hl.1 rfl (lv_room (Nat.le_of_ble_eq_true rfl)) dX10_feed_6 ⟨Nat.zero_le _, Nat.zero_le _⟩) hS hP (fun r6 H locs wr6 hP hS => ?_)
  obtain ⟨p_1, p_2, p_3, -⟩ := wr6
  refine lv_if_ne (tgt := 14) hx hb dX10_feed_9 (by decide) (fun c9 => ?_) (fun c9 => ?_)
  · have h_4 : rg 1 1 r6 := r_ne_lo_i c9 p_1 (by decide) (by decide)
    have h_5 : rg 0 880 n1_1 := (p_2 (rne h_4 (y := 0) (c := 0) (by decide) (by decide)))
    refine lv_aload_n hx hb dX10_feed_14 rfl (lv_at hl 0 rfl) ?_
    refine va_get (D := G) (ci := 10) (v := .ref a1) (C := RX10) (T := TX10) (N := 11) hx hb hts (by decide +kernel) hown hK.1 hP 0 rfl rfl 0 (by decide) (hts (.fieldLink RX10 10 "CardHolder" "tape" "LCardHolder$Tape;") (by decide +kernel)) (fun _ h9 => h9) rfl dX10_feed_15 ?_
    refine lv_iload_n hx hb dX10_feed_18 rfl (lv_at hl 1 rfl) ?_
    refine wj_callv (wr := [(a0, .inr (10, [.ref a1, .ref a3, .ref a11, .ref a25, .ref a68, .ref a69, .ref a77, .ref a82, .ref a84, .ref a88, .ref a91]))]) (w1 := (fun u : SU => [(a1, .inr (8, [.ref a2, .int (u.1 0)])), (a2, .inl (ct 1, 900, .inl (u.2.1 0)))])) (va_runV (As := [.int p0]) (rest := []) ⟨hx, hb, hml, hown, hts⟩ (a_X8_add l G ct a1 a2 n1_1 f2 p0 (rg_w (c := 0) (d := 900) h_5 (by decide))) (cwV 1 hts gX10_feed_X8_add rfl rfl rfl (by decide +kernel) ⟨Nat.le_of_ble_eq_true rfl, Nat.le_of_ble_eq_true rfl⟩) (wr_preV 8 0 hK (hP.sub [1, 2] rfl) (hD.sub [1, 2] (by decide) rfl) rfl rfl) rfl rfl hl.1 rfl (lv_room (Nat.le_of_ble_eq_true rfl)) dX10_feed_19 ⟨Nat.zero_le _, Nat.zero_le _⟩) hS hP hD [1, 2] [0] rfl rfl (by decide) (fun _ => rfl) (fun ur19 H locs wr19 hP hD hS => ?_)
    have hP : va_P G vwCl [(a0, .inr (10, [.ref a1, .ref a3, .ref a11, .ref a25, .ref a68, .ref a69, .ref a77, .ref a82, .ref a84, .ref a88, .ref a91])), (a1, .inr (8, [.ref a2, .int (ur19.1 0)])), (a2, .inl (ct 1, 900, .inl (ur19.2.1 0)))] H := hP.sub [0, 1, 2] rfl
    have hD : va_D A [(a0, .inr (10, [.ref a1, .ref a3, .ref a11, .ref a25, .ref a68, .ref a69, .ref a77, .ref a82, .ref a84, .ref a88, .ref a91])), (a1, .inr (8, [.ref a2, .int (ur19.1 0)])), (a2, .inl (ct 1, 900, .inl (ur19.2.1 0)))] := hD.sub [0, 1, 2] (by decide) rfl
    obtain ⟨p_6, -⟩ := wr19
    refine lv_aload_n hx hb dX10_feed_22 rfl (lv_at hl 0 rfl) ?_
    refine va_get (D := G) (ci := 10) (v := .ref a1) (C := RX10) (T := TX10) (N := 11) hx hb hts (by decide +kernel) hown hK.1 hP 0 rfl rfl 0 (by decide) (hts (.fieldLink RX10 10 "CardHolder" "tape" "LCardHolder$Tape;") (by decide +kernel)) (fun _ h9 => h9) rfl dX10_feed_23 ?_
    refine lv_iload_n hx hb dX10_feed_26 rfl (lv_at hl 2 rfl) ?_
    refine wj_callv (wr := [(a0, .inr (10, [.ref a1, .ref a3, .ref a11, .ref a25, .ref a68, .ref a69, .ref a77, .ref a82, .ref a84, .ref a88, .ref a91]))]) (w1 := (fun u : SU => [(a1, .inr (8, [.ref a2, .int (u.1 0)])), (a2, .inl (ct 1, 900, .inl (u.2.1 0)))])) (va_runV (As := [.int p1]) (rest := []) ⟨hx, hb, hml, hown, hts⟩ (a_X8_add l G ct a1 a2 (ur19.1 0) (ur19.2.1 0) p1 (rg_w (c := 0) (d := 900) p_6 (by decide))) (cwV 1 hts gX10_feed_X8_add rfl rfl rfl (by decide +kernel) ⟨Nat.le_of_ble_eq_true rfl, Nat.le_of_ble_eq_true rfl⟩) (wr_preV 8 0 hK (hP.sub [1, 2] rfl) (hD.sub [1, 2] (by decide) rfl) rfl rfl) rfl rfl hl.1 rfl (lv_room (Nat.le_of_ble_eq_true rfl)) dX10_feed_27 ⟨Nat.zero_le _, Nat.zero_le _⟩) hS hP hD [1, 2] [0] rfl rfl (by decide) (fun _ => rfl) (fun ur27 H locs wr27 hP hD hS => ?_)
    have hP : va_P G vwCl [(a0, .inr (10, [.ref a1, .ref a3, .ref a11, .ref a25, .ref a68, .ref a69, .ref a77, .ref a82, .ref a84, .ref a88, .ref a91])), (a1, .inr (8, [.ref a2, .int (ur27.1 0)])), (a2, .inl (ct 1, 900, .inl (ur27.2.1 0)))] H := hP.sub [0, 1, 2] rfl
    have hD : va_D A [(a0, .inr (10, [.ref a1, .ref a3, .ref a11, .ref a25, .ref a68, .ref a69, .ref a77, .ref a82, .ref a84, .ref a88, .ref a91])), (a1, .inr (8, [.ref a2, .int (ur27.1 0)])), (a2, .inl (ct 1, 900, .inl (ur27.2.1 0)))] := hD.sub [0, 1, 2] (by decide) rfl
    obtain ⟨p_7, -⟩ := wr27
    refine lv_aload_n hx hb dX10_feed_30 rfl (lv_at hl 0 rfl) ?_
    refine va_get (D := G) (ci := 10) (v := .ref a1) (C := RX10) (T := TX10) (N := 11) hx hb hts (by decide +kernel) hown hK.1 hP 0 rfl rfl 0 (by decide) (hts (.fieldLink RX10 10 "CardHolder" "tape" "LCardHolder$Tape;") (by decide +kernel)) (fun _ h9 => h9) rfl dX10_feed_31 ?_
    refine lv_iload_n hx hb dX10_feed_34 rfl (lv_at hl 3 rfl) ?_
    refine wj_callv (wr := [(a0, .inr (10, [.ref a1, .ref a3, .ref a11, .ref a25, .ref a68, .ref a69, .ref a77, .ref a82, .ref a84, .ref a88, .ref a91]))]) (w1 := (fun u : SU => [(a1, .inr (8, [.ref a2, .int (u.1 0)])), (a2, .inl (ct 1, 900, .inl (u.2.1 0)))])) (va_runV (As := [.int p2]) (rest := []) ⟨hx, hb, hml, hown, hts⟩ (a_X8_add l G ct a1 a2 (ur27.1 0) (ur27.2.1 0) p2 (rg_w (c := 0) (d := 900) p_7 (by decide))) (cwV 1 hts gX10_feed_X8_add rfl rfl rfl (by decide +kernel) ⟨Nat.le_of_ble_eq_true rfl, Nat.le_of_ble_eq_true rfl⟩) (wr_preV 8 0 hK (hP.sub [1, 2] rfl) (hD.sub [1, 2] (by decide) rfl) rfl rfl) rfl rfl hl.1 rfl (lv_room (Nat.le_of_ble_eq_true rfl)) dX10_feed_35 ⟨Nat.zero_le _, Nat.zero_le _⟩) hS hP hD [1, 2] [0] rfl rfl (by decide) (fun _ => rfl) (fun ur35 H locs wr35 hP hD hS => ?_)
    have hP : va_P G vwCl [(a0, .inr (10, [.ref a1, .ref a3, .ref a11, .ref a25, .ref a68, .ref a69, .ref a77, .ref a82, .ref a84, .ref a88, .ref a91])), (a1, .inr (8, [.ref a2, .int (ur35.1 0)])), (a2, .inl (ct 1, 900, .inl (ur35.2.1 0)))] H := hP.sub [0, 1, 2] rfl
    have hD : va_D A [(a0, .inr (10, [.ref a1, .ref a3, .ref a11, .ref a25, .ref a68, .ref a69, .ref a77, .ref a82, .ref a84, .ref a88, .ref a91])), (a1, .inr (8, [.ref a2, .int (ur35.1 0)])), (a2, .inl (ct 1, 900, .inl (ur35.2.1 0)))] := hD.sub [0, 1, 2] (by decide) rfl
    obtain ⟨p_8, -⟩ := wr35
    refine lv_aload_n hx hb dX10_feed_38 rfl (lv_at hl 0 rfl) ?_
    refine va_get (D := G) (ci := 10) (v := .ref a1) (C := RX10) (T := TX10) (N := 11) hx hb hts (by decide +kernel) hown hK.1 hP 0 rfl rfl 0 (by decide) (hts (.fieldLink RX10 10 "CardHolder" "tape" "LCardHolder$Tape;") (by decide +kernel)) (fun _ h9 => h9) rfl dX10_feed_39 ?_
    refine lv_iload hx hb dX10_feed_42 (lv_at hl 4 rfl) ?_
    refine wj_callv (wr := [(a0, .inr (10, [.ref a1, .ref a3, .ref a11, .ref a25, .ref a68, .ref a69, .ref a77, .ref a82, .ref a84, .ref a88, .ref a91]))]) (w1 := (fun u : SU => [(a1, .inr (8, [.ref a2, .int (u.1 0)])), (a2, .inl (ct 1, 900, .inl (u.2.1 0)))])) (va_runV (As := [.int p3]) (rest := []) ⟨hx, hb, hml, hown, hts⟩ (a_X8_add l G ct a1 a2 (ur35.1 0) (ur35.2.1 0) p3 (rg_w (c := 0) (d := 900) p_8 (by decide))) (cwV 1 hts gX10_feed_X8_add rfl rfl rfl (by decide +kernel) ⟨Nat.le_of_ble_eq_true rfl, Nat.le_of_ble_eq_true rfl⟩) (wr_preV 8 0 hK (hP.sub [1, 2] rfl) (hD.sub [1, 2] (by decide) rfl) rfl rfl) rfl rfl hl.1 rfl (lv_room (Nat.le_of_ble_eq_true rfl)) dX10_feed_44 ⟨Nat.zero_le _, Nat.zero_le _⟩) hS hP hD [1, 2] [0] rfl rfl (by decide) (fun _ => rfl) (fun ur44 H locs wr44 hP hD hS => ?_)
    have hP : va_P G vwCl [(a0, .inr (10, [.ref a1, .ref a3, .ref a11, .ref a25, .ref a68, .ref a69, .ref a77, .ref a82, .ref a84, .ref a88, .ref a91])), (a1, .inr (8, [.ref a2, .int (ur44.1 0)])), (a2, .inl (ct 1, 900, .inl (ur44.2.1 0)))] H := hP.sub [0, 1, 2] rfl
    have hD : va_D A [(a0, .inr (10, [.ref a1, .ref a3, .ref a11, .ref a25, .ref a68, .ref a69, .ref a77, .ref a82, .ref a84, .ref a88, .ref a91])), (a1, .inr (8, [.ref a2, .int (ur44.1 0)])), (a2, .inl (ct 1, 900, .inl (ur44.2.1 0)))] := hD.sub [0, 1, 2] (by decide) rfl
    obtain ⟨p_9, -⟩ := wr44
    refine lv_aload_n hx hb dX10_feed_47 rfl (lv_at hl 0 rfl) ?_
    refine va_get (D := G) (ci := 10) (v := .ref a1) (C := RX10) (T := TX10) (N := 11) hx hb hts (by decide +kernel) hown hK.1 hP 0 rfl rfl 0 (by decide) (hts (.fieldLink RX10 10 "CardHolder" "tape" "LCardHolder$Tape;") (by decide +kernel)) (fun _ h9 => h9) rfl dX10_feed_48 ?_
    refine lv_iload hx hb dX10_feed_51 (lv_at hl 5 rfl) ?_
    refine wj_callv (wr := [(a0, .inr (10, [.ref a1, .ref a3, .ref a11, .ref a25, .ref a68, .ref a69, .ref a77, .ref a82, .ref a84, .ref a88, .ref a91]))]) (w1 := (fun u : SU => [(a1, .inr (8, [.ref a2, .int (u.1 0)])), (a2, .inl (ct 1, 900, .inl (u.2.1 0)))])) (va_runV (As := [.int p4]) (rest := []) ⟨hx, hb, hml, hown, hts⟩ (a_X8_add l G ct a1 a2 (ur44.1 0) (ur44.2.1 0) p4 (rg_w (c := 0) (d := 900) p_9 (by decide))) (cwV 1 hts gX10_feed_X8_add rfl rfl rfl (by decide +kernel) ⟨Nat.le_of_ble_eq_true rfl, Nat.le_of_ble_eq_true rfl⟩) (wr_preV 8 0 hK (hP.sub [1, 2] rfl) (hD.sub [1, 2] (by decide) rfl) rfl rfl) rfl rfl hl.1 rfl (lv_room (Nat.le_of_ble_eq_true rfl)) dX10_feed_53 ⟨Nat.zero_le _, Nat.zero_le _⟩) hS hP hD [1, 2] [0] rfl rfl (by decide) (fun _ => rfl) (fun ur53 H locs wr53 hP hD hS => ?_)
    have hP : va_P G vwCl [(a0, .inr (10, [.ref a1, .ref a3, .ref a11, .ref a25, .ref a68, .ref a69, .ref a77, .ref a82, .ref a84, .ref a88, .ref a91])), (a1, .inr (8, [.ref a2, .int (ur53.1 0)])), (a2, .inl (ct 1, 900, .inl (ur53.2.1 0)))] H := hP.sub [0, 1, 2] rfl
    have hD : va_D A [(a0, .inr (10, [.ref a1, .ref a3, .ref a11, .ref a25, .ref a68, .ref a69, .ref a77, .ref a82, .ref a84, .ref a88, .ref a91])), (a1, .inr (8, [.ref a2, .int (ur53.1 0)])), (a2, .inl (ct 1, 900, .inl (ur53.2.1 0)))] := hD.sub [0, 1, 2] (by decide) rfl
    obtain ⟨p_10, -⟩ := wr53
    refine lv_aload_n hx hb dX10_feed_56 rfl (lv_at hl 0 rfl) ?_
    refine va_get (D := G) (ci := 10) (v := .ref a1) (C := RX10) (T := TX10) (N := 11) hx hb hts (by decide +kernel) hown hK.1 hP 0 rfl rfl 0 (by decide) (hts (.fieldLink RX10 10 "CardHolder" "tape" "LCardHolder$Tape;") (by decide +kernel)) (fun _ h9 => h9) rfl dX10_feed_57 ?_
    refine va_get (D := G) (ci := 8) (v := .int (ur53.1 0)) (C := RX8) (T := TX8) (N := 2) hx hb hts (by decide +kernel) hown hK.1 hP 1 rfl rfl 1 (by decide) (hts (.fieldLink RX10 96 "CardHolder$Tape" "size" "I") (by decide +kernel)) (fun _ h9 => h9) rfl dX10_feed_60 ?_
    exact W.iret (v := ur53.1 0) hx hb hr (fun t ht hW => ⟨⟨ur53.1 0, (fun k => ([ur53.1 0] : List Int32).getD k 0, fun k => ([ur53.2.1 0] : List (Nat → Int32)).getD k (fun _ => 0), fun k => ([] : List (Nat → Int64)).getD k (fun _ => 0)), rfl, ⟨(rg_w (c := (-1)) (d := 900) p_10 (by decide)), p_10, trivial⟩, hp_at ht hP⟩, hS.F ht⟩) hS.2.2 dX10_feed_63
  · have h_11 : rg 0 0 r6 := r_eq_l_i (e := 0) (f := 0) c9 p_1 (rgn 0 (x := 0) (by decide)) (by decide)
    have h_12 : rg 881 900 n1_1 := (p_3 (req h_11 (y := 0) (by decide)))
    refine lv_iconst (v := (-1)) hx hb dX10_feed_12 (by decide) ?_
    exact W.iret (v := (-1)) hx hb hr (fun t ht hW => ⟨⟨(-1), (fun k => ([n1_1] : List Int32).getD k 0, fun k => ([f2] : List (Nat → Int32)).getD k (fun _ => 0), fun k => ([] : List (Nat → Int64)).getD k (fun _ => 0)), rfl, ⟨(rg_w (c := (-1)) (d := 900) (rgn (-1) (x := (-1)) (by decide)) (by decide)), (rg_w (c := 4) (d := 900) h_12 (by decide)), trivial⟩, hp_at ht hP⟩, hS.F ht⟩) hS.2.2 dX10_feed_13

set_option maxHeartbeats 4000000 in
set_option maxRecDepth 100000 in
theorem a_X10_end (l : Launch) (G : va_G) (ct : Nat → ClassId) (a0 : Nat) (a1 : Nat) (a3 : Nat) (a11 : Nat) (a25 : Nat) (a68 : Nat) (a69 : Nat) (a77 : Nat) (a82 : Nat) (a84 : Nat) (a88 : Nat) (a91 : Nat) (a2 : Nat) (n1_1 : Int32) (p0 : Int32) (hp_n1_1 : rg 0 900 n1_1) : Met l yX10_end wsX10_end ({ frames := 1, cells := 0, slots := 0, locals := 21 }) (va_Pc [.ref a0, .int p0] (wrP G ct [(a0, .inr (10, [.ref a1, .ref a3, .ref a11, .ref a25, .ref a68, .ref a69, .ref a77, .ref a82, .ref a84, .ref a88, .ref a91])), (a1, .inr (8, [.ref a2, .int n1_1]))])) (va_Qi (fun (r : Int32) (u : SU) => rg (-1) 900 r ∧ (r = 0 → rg 0 900 p0) ∧ (¬ r = (-1) → rg 0 900 p0) ∧ rg 0 900 (u.1 0) ∧ True) (fun u t => va_P G vwCl ((fun u : SU => [(a0, .inr (10, [.ref a1, .ref a3, .ref a11, .ref a25, .ref a68, .ref a69, .ref a77, .ref a82, .ref a84, .ref a88, .ref a91])), (a1, .inr (8, [.ref a2, .int (u.1 0)]))]) u) t.heap) (aset [(a0, .inr (10, [.ref a1, .ref a3, .ref a11, .ref a25, .ref a68, .ref a69, .ref a77, .ref a82, .ref a84, .ref a88, .ref a91])), (a1, .inr (8, [.ref a2, .int n1_1]))])) 0 0 (aset [(a0, .inr (10, [.ref a1, .ref a3, .ref a11, .ref a25, .ref a68, .ref a69, .ref a77, .ref a82, .ref a84, .ref a88, .ref a91])), (a1, .inr (8, [.ref a2, .int n1_1]))]) := by
  refine Met.ofW (cc := cX10_end) (maxL := 2) (ret := (some .int)) (by decide) rfl ?_
  intro p e s m args below meth c s₁ B hml hv
  obtain ⟨rfl, hP, hK, hD0⟩ := hv
  have hx := B.exec
  have hb := B.bytes
  have hr := B.returns
  have hts := atoms_spec (ws := wsX10_end) B.pre
  have hown : s.vm.findClass RX10 = some m.cls := findClass_of_methodNamed B.named
  have hlocks := B.notSynchronized
  have hD := hD0.aself
  generalize hAe : aset [(a0, .inr (10, [.ref a1, .ref a3, .ref a11, .ref a25, .ref a68, .ref a69, .ref a77, .ref a82, .ref a84, .ref a88, .ref a91])), (a1, .inr (8, [.ref a2, .int n1_1]))] = A at hD ⊢
  have hS : va_S A s.heap s.heap [] := va_S.rf
  have hl := lv_entry ([.ref a0, .int p0]) (n := 2) (Nat.le_of_ble_eq_true rfl)
  rw [lg_entry_eq]
  generalize (lg_sl ([.ref a0, .int p0]) ++ List.replicate (2 - (lg_sl ([.ref a0, .int p0])).length) Slot.unset).toArray = ls at hl ⊢
  have hl : lv_has ls 2 [(0, .ref a0), (1, .int p0)] := hl
  refine lv_aload_n hx hb dX10_end_0 rfl (lv_at hl 0 rfl) ?_
  refine va_get (D := G) (ci := 10) (v := .ref a1) (C := RX10) (T := TX10) (N := 11) hx hb hts (by decide +kernel) hown hK.1 hP 0 rfl rfl 0 (by decide) (hts (.fieldLink RX10 10 "CardHolder" "tape" "LCardHolder$Tape;") (by decide +kernel)) (fun _ h9 => h9) rfl dX10_end_1 ?_
  refine lv_iload_n hx hb dX10_end_4 rfl (lv_at hl 1 rfl) ?_
  refine wj_calli (wr := [(a0, .inr (10, [.ref a1, .ref a3, .ref a11, .ref a25, .ref a68, .ref a69, .ref a77, .ref a82, .ref a84, .ref a88, .ref a91]))]) (w1 := (fun u : SU => [(a1, .inr (8, [.ref a2, .int (u.1 0)]))])) (va_runV (As := [.int p0]) (rest := []) ⟨hx, hb, hml, hown, hts⟩ (a_X8_cutTo l G ct a1 a2 n1_1 p0 hp_n1_1) (cwV 1 hts gX10_end_X8_cutTo rfl rfl rfl (by decide +kernel) ⟨Nat.le_of_ble_eq_true rfl, Nat.le_of_ble_eq_true rfl⟩) (wr_preV 8 0 hK (hP.sub [1] rfl) (hD.sub [1] (by decide) rfl) rfl rfl) rfl rfl hl.1 rfl (lv_room (Nat.le_of_ble_eq_true rfl)) dX10_end_5 ⟨Nat.zero_le _, Nat.zero_le _⟩) hS hP hD [1] [0] rfl rfl (by decide) (fun _ => rfl) (fun r5 ur5 H locs wr5 hP hD hS => ?_)
  have hP : va_P G vwCl [(a0, .inr (10, [.ref a1, .ref a3, .ref a11, .ref a25, .ref a68, .ref a69, .ref a77, .ref a82, .ref a84, .ref a88, .ref a91])), (a1, .inr (8, [.ref a2, .int (ur5.1 0)]))] H := hP.sub [0, 1] rfl
  have hD : va_D A [(a0, .inr (10, [.ref a1, .ref a3, .ref a11, .ref a25, .ref a68, .ref a69, .ref a77, .ref a82, .ref a84, .ref a88, .ref a91])), (a1, .inr (8, [.ref a2, .int (ur5.1 0)]))] := hD.sub [0, 1] (by decide) rfl
  obtain ⟨p_1, p_2, p_3, -⟩ := wr5
  refine lv_if_eq (tgt := 15) hx hb dX10_end_8 (by decide) (fun c8 => ?_) (fun c8 => ?_)
  · have h_4 : rg 0 0 r5 := r_eq_l_i (e := 0) (f := 0) c8 p_1 (rgn 0 (x := 0) (by decide)) (by decide)
    refine lv_iconst (v := (-1)) hx hb dX10_end_15 (by decide) ?_
    exact W.iret (v := (-1)) hx hb hr (fun t ht hW => ⟨⟨(-1), (fun k => ([ur5.1 0] : List Int32).getD k 0, fun k => ([] : List (Nat → Int32)).getD k (fun _ => 0), fun k => ([] : List (Nat → Int64)).getD k (fun _ => 0)), rfl, ⟨(rg_w (c := (-1)) (d := 900) (rgn (-1) (x := (-1)) (by decide)) (by decide)), (fun hq => absurd hq (rne (rgn (-1) (x := (-1)) (by decide)) (y := 0) (c := 0) (by decide) (by decide))), (fun hq => absurd (req (rgn (-1) (x := (-1)) (by decide)) (y := (-1)) (by decide)) hq), p_3, trivial⟩, hp_at ht hP⟩, hS.F ht⟩) hS.2.2 dX10_end_16
  · have h_5 : rg 1 1 r5 := r_ne_lo_i c8 p_1 (by decide) (by decide)
    have h_6 : rg 0 900 p0 := (p_2 (rne h_5 (y := 0) (c := 0) (by decide) (by decide)))
    refine lv_iload_n hx hb dX10_end_11 rfl (lv_at hl 1 rfl) ?_
    refine lv_goto (tgt := 16) hx hb dX10_end_12 (by decide) ?_
    exact W.iret (v := p0) hx hb hr (fun t ht hW => ⟨⟨p0, (fun k => ([ur5.1 0] : List Int32).getD k 0, fun k => ([] : List (Nat → Int32)).getD k (fun _ => 0), fun k => ([] : List (Nat → Int64)).getD k (fun _ => 0)), rfl, ⟨(rg_w (c := (-1)) (d := 900) h_6 (by decide)), (fun _ => h_6), (fun _ => h_6), p_3, trivial⟩, hp_at ht hP⟩, hS.F ht⟩) hS.2.2 dX10_end_16

set_option maxHeartbeats 4000000 in
set_option maxRecDepth 100000 in
theorem a_X10_fault (l : Launch) (G : va_G) (ct : Nat → ClassId) (a0 : Nat) (a1 : Nat) (a3 : Nat) (a11 : Nat) (a25 : Nat) (a68 : Nat) (a69 : Nat) (a77 : Nat) (a82 : Nat) (a84 : Nat) (a88 : Nat) (a91 : Nat) (a4 : Nat) (n3_2 : Int32) (n3_3 : Int32) (n3_4 : Int32) (n3_5 : Int32) (n3_6 : Int32) (n3_7 : Int32) (p0 : Int32)  : Met l yX10_fault wsX10_fault ({ frames := 0, cells := 0, slots := 0, locals := 0 }) (va_Pc [.ref a0, .int p0] (roP G ct [(a0, .inr (10, [.ref a1, .ref a3, .ref a11, .ref a25, .ref a68, .ref a69, .ref a77, .ref a82, .ref a84, .ref a88, .ref a91])), (a3, .inr (5, [.ref a1, .ref a4, .int n3_2, .int n3_3, .int n3_4, .int n3_5, .int n3_6, .int n3_7]))])) (roQ (fun r => (r = 0 → rg 0 1 p0) ∧ (¬ r = (-1) → rg 0 1 p0) ∧ True)) 0 0 no := by
  refine Met.ofW (cc := cX10_fault) (maxL := 2) (ret := (some .int)) (by decide) rfl ?_
  intro p e s m args below meth c s₁ B hml hv
  obtain ⟨rfl, hP, hK⟩ := hv
  have hx := B.exec
  have hb := B.bytes
  have hr := B.returns
  have hts := atoms_spec (ws := wsX10_fault) B.pre
  have hown : s.vm.findClass RX10 = some m.cls := findClass_of_methodNamed B.named
  have hlocks := B.notSynchronized
  have hS : va_S no s.heap s.heap [] := va_S.rf
  have hl := lv_entry ([.ref a0, .int p0]) (n := 2) (Nat.le_of_ble_eq_true rfl)
  rw [lg_entry_eq]
  generalize (lg_sl ([.ref a0, .int p0]) ++ List.replicate (2 - (lg_sl ([.ref a0, .int p0])).length) Slot.unset).toArray = ls at hl ⊢
  have hl : lv_has ls 2 [(0, .ref a0), (1, .int p0)] := hl
  refine lv_iload_n hx hb dX10_fault_0 rfl (lv_at hl 1 rfl) ?_
  by_cases c1 : p0 = 0 ∨ p0 = 1
  · rcases c1 with c1 | c1
    · refine lv_lookup (tgt := 28) (off := 27) hx hb dX10_fault_1 (by decide) (by rw [c1]; decide) (by decide) ?_
      have h_1 : rg 0 0 p0 := r_eq_l_i (e := 0) (f := 0) c1 (rg_t p0) (rgn 0 (x := 0) (by decide)) (by decide)
      refine lv_aload_n hx hb dX10_fault_28 rfl (lv_at hl 0 rfl) ?_
      refine va_get (D := G) (ci := 10) (v := .ref a3) (C := RX10) (T := TX10) (N := 11) hx hb hts (by decide +kernel) hown hK.1 hP 0 rfl rfl 1 (by decide) (hts (.fieldLink RX10 21 "CardHolder" "reader" "LCardHolder$Reader;") (by decide +kernel)) (fun _ h9 => h9) rfl dX10_fault_29 ?_
      refine va_get (D := G) (ci := 5) (v := .int n3_2) (C := RX5) (T := TX5) (N := 8) hx hb hts (by decide +kernel) hown hK.1 hP 1 rfl rfl 2 (by decide) (hts (.fieldLink RX10 118 "CardHolder$Reader" "wrong" "I") (by decide +kernel)) (fun _ h9 => h9) rfl dX10_fault_32 ?_
      exact W.iret (v := n3_2) hx hb hr (fun t ht hW => ⟨⟨n3_2, (), rfl, ⟨(fun _ => (rg_w (c := 0) (d := 1) h_1 (by decide))), (fun _ => (rg_w (c := 0) (d := 1) h_1 (by decide))), trivial⟩, trivial⟩, hS.F ht⟩) hS.2.2 dX10_fault_35
    · refine lv_lookup (tgt := 36) (off := 35) hx hb dX10_fault_1 (by decide) (by rw [c1]; decide) (by decide) ?_
      have h_2 : rg 1 1 p0 := r_eq_l_i (e := 1) (f := 1) c1 (rg_t p0) (rgn 1 (x := 1) (by decide)) (by decide)
      refine lv_aload_n hx hb dX10_fault_36 rfl (lv_at hl 0 rfl) ?_
      refine va_get (D := G) (ci := 10) (v := .ref a3) (C := RX10) (T := TX10) (N := 11) hx hb hts (by decide +kernel) hown hK.1 hP 0 rfl rfl 1 (by decide) (hts (.fieldLink RX10 21 "CardHolder" "reader" "LCardHolder$Reader;") (by decide +kernel)) (fun _ h9 => h9) rfl dX10_fault_37 ?_
      refine va_get (D := G) (ci := 5) (v := .int n3_3) (C := RX5) (T := TX5) (N := 8) hx hb hts (by decide +kernel) hown hK.1 hP 1 rfl rfl 3 (by decide) (hts (.fieldLink RX10 121 "CardHolder$Reader" "wrongPlace" "I") (by decide +kernel)) (fun _ h9 => h9) rfl dX10_fault_40 ?_
      exact W.iret (v := n3_3) hx hb hr (fun t ht hW => ⟨⟨n3_3, (), rfl, ⟨(fun _ => (rg_w (c := 0) (d := 1) h_2 (by decide))), (fun _ => (rg_w (c := 0) (d := 1) h_2 (by decide))), trivial⟩, trivial⟩, hS.F ht⟩) hS.2.2 dX10_fault_43
  · obtain ⟨d1_0, c1⟩ := not_or.mp c1
    have d1_1 := c1
    refine lv_lookup (tgt := 44) (off := 43) hx hb dX10_fault_1 (by decide) ((lv_osw d1_0 (by decide)).trans ((lv_osw d1_1 (by decide)).trans (rfl))) (by decide) ?_
    refine lv_iconst (v := (-1)) hx hb dX10_fault_44 (by decide) ?_
    exact W.iret (v := (-1)) hx hb hr (fun t ht hW => ⟨⟨(-1), (), rfl, ⟨(fun hq => absurd hq (rne (rgn (-1) (x := (-1)) (by decide)) (y := 0) (c := 0) (by decide) (by decide))), (fun hq => absurd (req (rgn (-1) (x := (-1)) (by decide)) (y := (-1)) (by decide)) hq), trivial⟩, trivial⟩, hS.F ht⟩) hS.2.2 dX10_fault_45

set_option maxHeartbeats 4000000 in
set_option maxRecDepth 100000 in
theorem a_X10_person (l : Launch) (G : va_G) (ct : Nat → ClassId) (a0 : Nat) (a1 : Nat) (a3 : Nat) (a11 : Nat) (a25 : Nat) (a68 : Nat) (a69 : Nat) (a77 : Nat) (a82 : Nat) (a84 : Nat) (a88 : Nat) (a91 : Nat) (a12 : Nat) (a19 : Nat) (a24 : Nat) (n11_3 : Int32) (a13 : Nat) (a15 : Nat) (a16 : Nat) (a17 : Nat) (a18 : Nat) (n12_5 : Int32) (n12_6 : Int32) (a14 : Nat) (n13_1 : Int32) (f15 : Nat → Int32) (f16 : Nat → Int32) (f17 : Nat → Int32) (f18 : Nat → Int32) (a20 : Nat) (a22 : Nat) (a23 : Nat) (n19_4 : Int32) (n19_5 : Int32) (n19_6 : Int32) (n19_7 : Int32) (a21 : Nat) (n20_1 : Int32) (f21 : Nat → Int32) (f22 : Nat → Int32) (p0 : Int32) (p1 : Int32) (hp_n13_1 : rg 0 8 n13_1) (hp_n20_1 : rg 0 8 n20_1) : Met l yX10_person wsX10_person ({ frames := 3, cells := 0, slots := 0, locals := 65 }) (va_Pc [.ref a0, .int p0, .int p1] (roP G ct [(a0, .inr (10, [.ref a1, .ref a3, .ref a11, .ref a25, .ref a68, .ref a69, .ref a77, .ref a82, .ref a84, .ref a88, .ref a91])), (a11, .inr (4, [.ref a12, .ref a19, .ref a24, .int n11_3])), (a12, .inr (9, [.ref a13, .ref a15, .ref a16, .ref a17, .ref a18, .int n12_5, .int n12_6])), (a13, .inr (0, [.ref a14, .int n13_1])), (a15, .inl (ct 0, 8, .inl f15)), (a16, .inl (ct 0, 8, .inl f16)), (a17, .inl (ct 0, 8, .inl f17)), (a18, .inl (ct 0, 8, .inl f18)), (a19, .inr (2, [.ref a12, .ref a20, .ref a22, .ref a23, .int n19_4, .int n19_5, .int n19_6, .int n19_7])), (a20, .inr (0, [.ref a21, .int n20_1])), (a21, .inl (ct 0, 8, .inl f21)), (a22, .inl (ct 0, 8, .inl f22))])) (roQ (fun r => (r = 0 → rg 0 7 p0) ∧ (r = (-1) → rg 0 7 p0) ∧ (¬ r = (-2) → rg 0 7 p0) ∧ (r = 0 → rg 0 7 p1) ∧ (r = (-1) → rg 0 7 p1) ∧ (¬ r = (-2) → rg 0 7 p1) ∧ (r = 0 → rg 1 8 n20_1) ∧ (r = (-1) → rg 1 8 n20_1) ∧ (¬ r = (-2) → rg 1 8 n20_1) ∧ True)) 0 0 no := by
  refine Met.ofW (cc := cX10_person) (maxL := 3) (ret := (some .int)) (by decide) rfl ?_
  intro p e s m args below meth c s₁ B hml hv
  obtain ⟨rfl, hP, hK⟩ := hv
  have hx := B.exec
  have hb := B.bytes
  have hr := B.returns
  have hts := atoms_spec (ws := wsX10_person) B.pre
  have hown : s.vm.findClass RX10 = some m.cls := findClass_of_methodNamed B.named
  have hlocks := B.notSynchronized
  have hS : va_S no s.heap s.heap [] := va_S.rf
  have hl := lv_entry ([.ref a0, .int p0, .int p1]) (n := 3) (Nat.le_of_ble_eq_true rfl)
  rw [lg_entry_eq]
  generalize (lg_sl ([.ref a0, .int p0, .int p1]) ++ List.replicate (3 - (lg_sl ([.ref a0, .int p0, .int p1])).length) Slot.unset).toArray = ls at hl ⊢
  have hl : lv_has ls 3 [(0, .ref a0), (1, .int p0), (2, .int p1)] := hl
  refine lv_aload_n hx hb dX10_person_0 rfl (lv_at hl 0 rfl) ?_
  refine lv_iload_n hx hb dX10_person_1 rfl (lv_at hl 1 rfl) ?_
  refine ro_calli (va_runV (As := [.int p0]) (rest := []) ⟨hx, hb, hml, hown, hts⟩ (a_X10_isPerson l G ct a0 a1 a3 a11 a25 a68 a69 a77 a82 a84 a88 a91 a12 a19 a24 n11_3 a20 a22 a23 n19_4 n19_5 n19_6 n19_7 a21 n20_1 p0 hp_n20_1) (cwV 1 hts gX10_person_X10_isPerson rfl rfl rfl (by decide +kernel) ⟨Nat.le_of_ble_eq_true rfl, Nat.le_of_ble_eq_true rfl⟩) (ro_preV 10 0 hK (hP.sub [0, 1, 8, 9] rfl) rfl rfl) rfl rfl hl.1 rfl (lv_room (Nat.le_of_ble_eq_true rfl)) dX10_person_2 ⟨Nat.zero_le _, Nat.zero_le _⟩) hS hP (fun r2 H locs wr2 hP hS => ?_)
  obtain ⟨p_1, p_2, p_3, -⟩ := wr2
  refine lv_if_ne (tgt := 11) hx hb dX10_person_5 (by decide) (fun c5 => ?_) (fun c5 => ?_)
  · have h_4 : rg 1 1 r2 := r_ne_lo_i c5 p_1 (by decide) (by decide)
    have h_5 : rg 0 7 p0 := (p_2 (rne h_4 (y := 0) (c := 0) (by decide) (by decide)))
    have h_6 : rg 1 8 n20_1 := (p_3 (rne h_4 (y := 0) (c := 0) (by decide) (by decide)))
    refine lv_iload_n hx hb dX10_person_11 rfl (lv_at hl 2 rfl) ?_
    by_cases c12 : p1 = 0 ∨ p1 = 1 ∨ p1 = 2 ∨ p1 = 3 ∨ p1 = 4 ∨ p1 = 5 ∨ p1 = 6 ∨ p1 = 7
    · rcases c12 with c12 | c12 | c12 | c12 | c12 | c12 | c12 | c12
      · refine lv_tableIn (tgt := 60) hx hb dX10_person_12 (by rw [c12]; decide) (by rw [c12]; decide) (by rw [c12]; rfl) (by decide) ?_
        have h_7 : rg 0 0 p1 := r_eq_l_i (e := 0) (f := 0) c12 (rg_t p1) (rgn 0 (x := 0) (by decide)) (by decide)
        refine lv_aload_n hx hb dX10_person_60 rfl (lv_at hl 0 rfl) ?_
        refine va_get (D := G) (ci := 10) (v := .ref a11) (C := RX10) (T := TX10) (N := 11) hx hb hts (by decide +kernel) hown hK.1 hP 0 rfl rfl 2 (by decide) (hts (.fieldLink RX10 28 "CardHolder" "play" "LCardHolder$Play;") (by decide +kernel)) (fun _ h9 => h9) rfl dX10_person_61 ?_
        refine va_get (D := G) (ci := 4) (v := .ref a12) (C := RX4) (T := TX4) (N := 4) hx hb hts (by decide +kernel) hown hK.1 hP 1 rfl rfl 0 (by decide) (hts (.fieldLink RX10 49 "CardHolder$Play" "town" "LCardHolder$Town;") (by decide +kernel)) (fun _ h9 => h9) rfl dX10_person_64 ?_
        refine lv_iload_n hx hb dX10_person_67 rfl (lv_at hl 1 rfl) ?_
        refine ro_calli (va_runV (As := [.int p0]) (rest := []) ⟨hx, hb, hml, hown, hts⟩ (a_X9_worthOf l G ct a12 a13 a15 a16 a17 a18 n12_5 n12_6 a14 n13_1 f15 p0 hp_n13_1) (cwV 1 hts gX10_person_X9_worthOf rfl rfl rfl (by decide +kernel) ⟨Nat.le_of_ble_eq_true rfl, Nat.le_of_ble_eq_true rfl⟩) (ro_preV 9 0 hK (hP.sub [2, 3, 4] rfl) rfl rfl) rfl rfl hl.1 rfl (lv_room (Nat.le_of_ble_eq_true rfl)) dX10_person_68 ⟨Nat.zero_le _, Nat.zero_le _⟩) hS hP (fun r68 H locs wr68 hP hS => ?_)
        obtain ⟨p_8, p_9, p_10, p_11, -⟩ := wr68
        exact W.iret (v := r68) hx hb hr (fun t ht hW => ⟨⟨r68, (), rfl, ⟨(fun _ => h_5), (fun _ => h_5), (fun _ => h_5), (fun _ => (rg_w (c := 0) (d := 7) h_7 (by decide))), (fun _ => (rg_w (c := 0) (d := 7) h_7 (by decide))), (fun _ => (rg_w (c := 0) (d := 7) h_7 (by decide))), (fun _ => h_6), (fun _ => h_6), (fun _ => h_6), trivial⟩, trivial⟩, hS.F ht⟩) hS.2.2 dX10_person_71
      · refine lv_tableIn (tgt := 72) hx hb dX10_person_12 (by rw [c12]; decide) (by rw [c12]; decide) (by rw [c12]; rfl) (by decide) ?_
        have h_12 : rg 1 1 p1 := r_eq_l_i (e := 1) (f := 1) c12 (rg_t p1) (rgn 1 (x := 1) (by decide)) (by decide)
        refine lv_aload_n hx hb dX10_person_72 rfl (lv_at hl 0 rfl) ?_
        refine va_get (D := G) (ci := 10) (v := .ref a11) (C := RX10) (T := TX10) (N := 11) hx hb hts (by decide +kernel) hown hK.1 hP 0 rfl rfl 2 (by decide) (hts (.fieldLink RX10 28 "CardHolder" "play" "LCardHolder$Play;") (by decide +kernel)) (fun _ h9 => h9) rfl dX10_person_73 ?_
        refine va_get (D := G) (ci := 4) (v := .ref a12) (C := RX4) (T := TX4) (N := 4) hx hb hts (by decide +kernel) hown hK.1 hP 1 rfl rfl 0 (by decide) (hts (.fieldLink RX10 49 "CardHolder$Play" "town" "LCardHolder$Town;") (by decide +kernel)) (fun _ h9 => h9) rfl dX10_person_76 ?_
        refine lv_iload_n hx hb dX10_person_79 rfl (lv_at hl 1 rfl) ?_
        refine ro_calli (va_runV (As := [.int p0]) (rest := []) ⟨hx, hb, hml, hown, hts⟩ (a_X9_deedsOf l G ct a12 a13 a15 a16 a17 a18 n12_5 n12_6 a14 n13_1 f16 p0 hp_n13_1) (cwV 1 hts gX10_person_X9_deedsOf rfl rfl rfl (by decide +kernel) ⟨Nat.le_of_ble_eq_true rfl, Nat.le_of_ble_eq_true rfl⟩) (ro_preV 9 0 hK (hP.sub [2, 3, 5] rfl) rfl rfl) rfl rfl hl.1 rfl (lv_room (Nat.le_of_ble_eq_true rfl)) dX10_person_80 ⟨Nat.zero_le _, Nat.zero_le _⟩) hS hP (fun r80 H locs wr80 hP hS => ?_)
        obtain ⟨p_13, p_14, p_15, p_16, -⟩ := wr80
        exact W.iret (v := r80) hx hb hr (fun t ht hW => ⟨⟨r80, (), rfl, ⟨(fun _ => h_5), (fun _ => h_5), (fun _ => h_5), (fun _ => (rg_w (c := 0) (d := 7) h_12 (by decide))), (fun _ => (rg_w (c := 0) (d := 7) h_12 (by decide))), (fun _ => (rg_w (c := 0) (d := 7) h_12 (by decide))), (fun _ => h_6), (fun _ => h_6), (fun _ => h_6), trivial⟩, trivial⟩, hS.F ht⟩) hS.2.2 dX10_person_83
      · refine lv_tableIn (tgt := 84) hx hb dX10_person_12 (by rw [c12]; decide) (by rw [c12]; decide) (by rw [c12]; rfl) (by decide) ?_
        have h_17 : rg 2 2 p1 := r_eq_l_i (e := 2) (f := 2) c12 (rg_t p1) (rgn 2 (x := 2) (by decide)) (by decide)
        refine lv_aload_n hx hb dX10_person_84 rfl (lv_at hl 0 rfl) ?_
        refine ro_callr (va_runV (As := []) (rest := []) ⟨hx, hb, hml, hown, hts⟩ (a_X10_bonds l G ct a0 a1 a3 a11 a25 a68 a69 a77 a82 a84 a88 a91 a12 a19 a24 n11_3 a20 a22 a23 n19_4 n19_5 n19_6 n19_7) (cwV 0 hts gX10_person_X10_bonds rfl rfl rfl (by decide +kernel) ⟨Nat.le_of_ble_eq_true rfl, Nat.le_of_ble_eq_true rfl⟩) (ro_preV 10 0 hK (hP.sub [0, 1, 8] rfl) rfl rfl) rfl rfl hl.1 rfl (lv_room (Nat.le_of_ble_eq_true rfl)) dX10_person_85 ⟨Nat.zero_le _, Nat.zero_le _⟩) hS hP (fun H locs hP hS => ?_)
        refine lv_iload_n hx hb dX10_person_88 rfl (lv_at hl 1 rfl) ?_
        refine ro_calli (va_runV (As := [.int p0]) (rest := []) ⟨hx, hb, hml, hown, hts⟩ (a_X0_holderOf l G ct a20 a21 n20_1 f21 p0 (rg_w (c := 0) (d := 8) h_6 (by decide))) (cwV 1 hts gX10_person_X0_holderOf rfl rfl rfl (by decide +kernel) ⟨Nat.le_of_ble_eq_true rfl, Nat.le_of_ble_eq_true rfl⟩) (ro_preV 0 0 hK (hP.sub [9, 10] rfl) rfl rfl) rfl rfl hl.1 rfl (lv_room (Nat.le_of_ble_eq_true rfl)) dX10_person_89 ⟨Nat.zero_le _, Nat.zero_le _⟩) hS hP (fun r89 H locs wr89 hP hS => ?_)
        obtain ⟨p_18, p_19, p_20, p_21, -⟩ := wr89
        exact W.iret (v := r89) hx hb hr (fun t ht hW => ⟨⟨r89, (), rfl, ⟨(fun _ => h_5), (fun _ => h_5), (fun _ => h_5), (fun _ => (rg_w (c := 0) (d := 7) h_17 (by decide))), (fun _ => (rg_w (c := 0) (d := 7) h_17 (by decide))), (fun _ => (rg_w (c := 0) (d := 7) h_17 (by decide))), (fun _ => h_6), (fun _ => h_6), (fun _ => h_6), trivial⟩, trivial⟩, hS.F ht⟩) hS.2.2 dX10_person_92
      · refine lv_tableIn (tgt := 93) hx hb dX10_person_12 (by rw [c12]; decide) (by rw [c12]; decide) (by rw [c12]; rfl) (by decide) ?_
        have h_22 : rg 3 3 p1 := r_eq_l_i (e := 3) (f := 3) c12 (rg_t p1) (rgn 3 (x := 3) (by decide)) (by decide)
        refine lv_aload_n hx hb dX10_person_93 rfl (lv_at hl 0 rfl) ?_
        refine ro_callr (va_runV (As := []) (rest := []) ⟨hx, hb, hml, hown, hts⟩ (a_X10_bonds l G ct a0 a1 a3 a11 a25 a68 a69 a77 a82 a84 a88 a91 a12 a19 a24 n11_3 a20 a22 a23 n19_4 n19_5 n19_6 n19_7) (cwV 0 hts gX10_person_X10_bonds rfl rfl rfl (by decide +kernel) ⟨Nat.le_of_ble_eq_true rfl, Nat.le_of_ble_eq_true rfl⟩) (ro_preV 10 0 hK (hP.sub [0, 1, 8] rfl) rfl rfl) rfl rfl hl.1 rfl (lv_room (Nat.le_of_ble_eq_true rfl)) dX10_person_94 ⟨Nat.zero_le _, Nat.zero_le _⟩) hS hP (fun H locs hP hS => ?_)
        refine lv_iload_n hx hb dX10_person_97 rfl (lv_at hl 1 rfl) ?_
        refine ro_calli (va_runV (As := [.int p0]) (rest := []) ⟨hx, hb, hml, hown, hts⟩ (a_X0_handOf l G ct a20 a21 n20_1 f21 p0 (rg_w (c := 0) (d := 8) h_6 (by decide))) (cwV 1 hts gX10_person_X0_handOf rfl rfl rfl (by decide +kernel) ⟨Nat.le_of_ble_eq_true rfl, Nat.le_of_ble_eq_true rfl⟩) (ro_preV 0 0 hK (hP.sub [9, 10] rfl) rfl rfl) rfl rfl hl.1 rfl (lv_room (Nat.le_of_ble_eq_true rfl)) dX10_person_98 ⟨Nat.zero_le _, Nat.zero_le _⟩) hS hP (fun r98 H locs wr98 hP hS => ?_)
        obtain ⟨p_23, -⟩ := wr98
        exact W.iret (v := r98) hx hb hr (fun t ht hW => ⟨⟨r98, (), rfl, ⟨(fun _ => h_5), (fun _ => h_5), (fun _ => h_5), (fun _ => (rg_w (c := 0) (d := 7) h_22 (by decide))), (fun _ => (rg_w (c := 0) (d := 7) h_22 (by decide))), (fun _ => (rg_w (c := 0) (d := 7) h_22 (by decide))), (fun _ => h_6), (fun _ => h_6), (fun _ => h_6), trivial⟩, trivial⟩, hS.F ht⟩) hS.2.2 dX10_person_101
      · refine lv_tableIn (tgt := 102) hx hb dX10_person_12 (by rw [c12]; decide) (by rw [c12]; decide) (by rw [c12]; rfl) (by decide) ?_
        have h_24 : rg 4 4 p1 := r_eq_l_i (e := 4) (f := 4) c12 (rg_t p1) (rgn 4 (x := 4) (by decide)) (by decide)
        refine lv_aload_n hx hb dX10_person_102 rfl (lv_at hl 0 rfl) ?_
        refine va_get (D := G) (ci := 10) (v := .ref a11) (C := RX10) (T := TX10) (N := 11) hx hb hts (by decide +kernel) hown hK.1 hP 0 rfl rfl 2 (by decide) (hts (.fieldLink RX10 28 "CardHolder" "play" "LCardHolder$Play;") (by decide +kernel)) (fun _ h9 => h9) rfl dX10_person_103 ?_
        refine va_get (D := G) (ci := 4) (v := .ref a12) (C := RX4) (T := TX4) (N := 4) hx hb hts (by decide +kernel) hown hK.1 hP 1 rfl rfl 0 (by decide) (hts (.fieldLink RX10 49 "CardHolder$Play" "town" "LCardHolder$Town;") (by decide +kernel)) (fun _ h9 => h9) rfl dX10_person_106 ?_
        refine lv_iload_n hx hb dX10_person_109 rfl (lv_at hl 1 rfl) ?_
        refine ro_calli (va_runV (As := [.int p0]) (rest := []) ⟨hx, hb, hml, hown, hts⟩ (a_X9_wishesOf l G ct a12 a13 a15 a16 a17 a18 n12_5 n12_6 a14 n13_1 f17 p0 hp_n13_1) (cwV 1 hts gX10_person_X9_wishesOf rfl rfl rfl (by decide +kernel) ⟨Nat.le_of_ble_eq_true rfl, Nat.le_of_ble_eq_true rfl⟩) (ro_preV 9 0 hK (hP.sub [2, 3, 6] rfl) rfl rfl) rfl rfl hl.1 rfl (lv_room (Nat.le_of_ble_eq_true rfl)) dX10_person_110 ⟨Nat.zero_le _, Nat.zero_le _⟩) hS hP (fun r110 H locs wr110 hP hS => ?_)
        obtain ⟨p_25, p_26, p_27, p_28, -⟩ := wr110
        exact W.iret (v := r110) hx hb hr (fun t ht hW => ⟨⟨r110, (), rfl, ⟨(fun _ => h_5), (fun _ => h_5), (fun _ => h_5), (fun _ => (rg_w (c := 0) (d := 7) h_24 (by decide))), (fun _ => (rg_w (c := 0) (d := 7) h_24 (by decide))), (fun _ => (rg_w (c := 0) (d := 7) h_24 (by decide))), (fun _ => h_6), (fun _ => h_6), (fun _ => h_6), trivial⟩, trivial⟩, hS.F ht⟩) hS.2.2 dX10_person_113
      · refine lv_tableIn (tgt := 114) hx hb dX10_person_12 (by rw [c12]; decide) (by rw [c12]; decide) (by rw [c12]; rfl) (by decide) ?_
        have h_29 : rg 5 5 p1 := r_eq_l_i (e := 5) (f := 5) c12 (rg_t p1) (rgn 5 (x := 5) (by decide)) (by decide)
        refine lv_aload_n hx hb dX10_person_114 rfl (lv_at hl 0 rfl) ?_
        refine va_get (D := G) (ci := 10) (v := .ref a11) (C := RX10) (T := TX10) (N := 11) hx hb hts (by decide +kernel) hown hK.1 hP 0 rfl rfl 2 (by decide) (hts (.fieldLink RX10 28 "CardHolder" "play" "LCardHolder$Play;") (by decide +kernel)) (fun _ h9 => h9) rfl dX10_person_115 ?_
        refine va_get (D := G) (ci := 4) (v := .ref a19) (C := RX4) (T := TX4) (N := 4) hx hb hts (by decide +kernel) hown hK.1 hP 1 rfl rfl 1 (by decide) (hts (.fieldLink RX10 147 "CardHolder$Play" "hands" "LCardHolder$Hands;") (by decide +kernel)) (fun _ h9 => h9) rfl dX10_person_118 ?_
        refine va_get (D := G) (ci := 2) (v := .int n19_4) (C := RX2) (T := TX2) (N := 8) hx hb hts (by decide +kernel) hown hK.1 hP 8 rfl rfl 4 (by decide) (hts (.fieldLink RX10 150 "CardHolder$Hands" "askedToday" "I") (by decide +kernel)) (fun _ h9 => h9) rfl dX10_person_121 ?_
        refine lv_iload_n hx hb dX10_person_124 rfl (lv_at hl 1 rfl) ?_
        refine ro_calli (va_runS (As := [.int n19_4, .int p0]) (rest := []) ⟨hx, hb, hml, hown, hts⟩ (a_X10_bitOf l G ct n19_4 p0) (va_cwS 2 hts gX10_person_X10_bitOf rfl rfl rfl (by decide +kernel) ⟨Nat.le_of_ble_eq_true rfl, Nat.le_of_ble_eq_true rfl⟩) (ro_pre hK (hP.sub [] rfl)) rfl rfl hl.1 rfl (lv_room (Nat.le_of_ble_eq_true rfl)) dX10_person_125 ⟨Nat.zero_le _, Nat.zero_le _⟩) hS hP (fun r125 H locs wr125 hP hS => ?_)
        obtain ⟨p_30, -⟩ := wr125
        exact W.iret (v := r125) hx hb hr (fun t ht hW => ⟨⟨r125, (), rfl, ⟨(fun _ => h_5), (fun _ => h_5), (fun _ => h_5), (fun _ => (rg_w (c := 0) (d := 7) h_29 (by decide))), (fun _ => (rg_w (c := 0) (d := 7) h_29 (by decide))), (fun _ => (rg_w (c := 0) (d := 7) h_29 (by decide))), (fun _ => h_6), (fun _ => h_6), (fun _ => h_6), trivial⟩, trivial⟩, hS.F ht⟩) hS.2.2 dX10_person_128
      · refine lv_tableIn (tgt := 129) hx hb dX10_person_12 (by rw [c12]; decide) (by rw [c12]; decide) (by rw [c12]; rfl) (by decide) ?_
        have h_31 : rg 6 6 p1 := r_eq_l_i (e := 6) (f := 6) c12 (rg_t p1) (rgn 6 (x := 6) (by decide)) (by decide)
        refine lv_aload_n hx hb dX10_person_129 rfl (lv_at hl 0 rfl) ?_
        refine va_get (D := G) (ci := 10) (v := .ref a11) (C := RX10) (T := TX10) (N := 11) hx hb hts (by decide +kernel) hown hK.1 hP 0 rfl rfl 2 (by decide) (hts (.fieldLink RX10 28 "CardHolder" "play" "LCardHolder$Play;") (by decide +kernel)) (fun _ h9 => h9) rfl dX10_person_130 ?_
        refine va_get (D := G) (ci := 4) (v := .ref a12) (C := RX4) (T := TX4) (N := 4) hx hb hts (by decide +kernel) hown hK.1 hP 1 rfl rfl 0 (by decide) (hts (.fieldLink RX10 49 "CardHolder$Play" "town" "LCardHolder$Town;") (by decide +kernel)) (fun _ h9 => h9) rfl dX10_person_133 ?_
        refine lv_iload_n hx hb dX10_person_136 rfl (lv_at hl 1 rfl) ?_
        refine ro_calli (va_runV (As := [.int p0]) (rest := []) ⟨hx, hb, hml, hown, hts⟩ (a_X9_forgedOf l G ct a12 a13 a15 a16 a17 a18 n12_5 n12_6 a14 n13_1 f18 p0 hp_n13_1) (cwV 1 hts gX10_person_X9_forgedOf rfl rfl rfl (by decide +kernel) ⟨Nat.le_of_ble_eq_true rfl, Nat.le_of_ble_eq_true rfl⟩) (ro_preV 9 0 hK (hP.sub [2, 3, 7] rfl) rfl rfl) rfl rfl hl.1 rfl (lv_room (Nat.le_of_ble_eq_true rfl)) dX10_person_137 ⟨Nat.zero_le _, Nat.zero_le _⟩) hS hP (fun r137 H locs wr137 hP hS => ?_)
        obtain ⟨p_32, p_33, p_34, p_35, -⟩ := wr137
        exact W.iret (v := r137) hx hb hr (fun t ht hW => ⟨⟨r137, (), rfl, ⟨(fun _ => h_5), (fun _ => h_5), (fun _ => h_5), (fun _ => (rg_w (c := 0) (d := 7) h_31 (by decide))), (fun _ => (rg_w (c := 0) (d := 7) h_31 (by decide))), (fun _ => (rg_w (c := 0) (d := 7) h_31 (by decide))), (fun _ => h_6), (fun _ => h_6), (fun _ => h_6), trivial⟩, trivial⟩, hS.F ht⟩) hS.2.2 dX10_person_140
      · refine lv_tableIn (tgt := 141) hx hb dX10_person_12 (by rw [c12]; decide) (by rw [c12]; decide) (by rw [c12]; rfl) (by decide) ?_
        have h_36 : rg 7 7 p1 := r_eq_l_i (e := 7) (f := 7) c12 (rg_t p1) (rgn 7 (x := 7) (by decide)) (by decide)
        refine lv_aload_n hx hb dX10_person_141 rfl (lv_at hl 0 rfl) ?_
        refine va_get (D := G) (ci := 10) (v := .ref a11) (C := RX10) (T := TX10) (N := 11) hx hb hts (by decide +kernel) hown hK.1 hP 0 rfl rfl 2 (by decide) (hts (.fieldLink RX10 28 "CardHolder" "play" "LCardHolder$Play;") (by decide +kernel)) (fun _ h9 => h9) rfl dX10_person_142 ?_
        refine va_get (D := G) (ci := 4) (v := .ref a19) (C := RX4) (T := TX4) (N := 4) hx hb hts (by decide +kernel) hown hK.1 hP 1 rfl rfl 1 (by decide) (hts (.fieldLink RX10 147 "CardHolder$Play" "hands" "LCardHolder$Hands;") (by decide +kernel)) (fun _ h9 => h9) rfl dX10_person_145 ?_
        refine lv_iload_n hx hb dX10_person_148 rfl (lv_at hl 1 rfl) ?_
        refine ro_calli (va_runV (As := [.int p0]) (rest := []) ⟨hx, hb, hml, hown, hts⟩ (a_X2_leftOf l G ct a12 a13 a15 a16 a17 a18 n12_5 n12_6 a14 n13_1 f18 a19 a20 a22 a23 n19_4 n19_5 n19_6 n19_7 a21 n20_1 f21 f22 p0 hp_n13_1 (rg_w (c := 0) (d := 8) h_6 (by decide))) (cwV 1 hts gX10_person_X2_leftOf rfl rfl rfl (by decide +kernel) ⟨Nat.le_of_ble_eq_true rfl, Nat.le_of_ble_eq_true rfl⟩) (ro_preV 2 3 hK (hP.sub [2, 3, 7, 8, 9, 10, 11] rfl) rfl rfl) rfl rfl hl.1 rfl (lv_room (Nat.le_of_ble_eq_true rfl)) dX10_person_149 ⟨Nat.zero_le _, Nat.zero_le _⟩) hS hP (fun r149 H locs wr149 hP hS => ?_)
        obtain ⟨p_37, p_38, p_39, p_40, -⟩ := wr149
        exact W.iret (v := r149) hx hb hr (fun t ht hW => ⟨⟨r149, (), rfl, ⟨(fun _ => h_5), (fun _ => h_5), (fun _ => h_5), (fun _ => (rg_w (c := 0) (d := 7) h_36 (by decide))), (fun _ => (rg_w (c := 0) (d := 7) h_36 (by decide))), (fun _ => (rg_w (c := 0) (d := 7) h_36 (by decide))), (fun _ => h_6), (fun _ => h_6), (fun _ => h_6), trivial⟩, trivial⟩, hS.F ht⟩) hS.2.2 dX10_person_152
    · obtain ⟨d12_0, c12⟩ := not_or.mp c12
      obtain ⟨d12_1, c12⟩ := not_or.mp c12
      obtain ⟨d12_2, c12⟩ := not_or.mp c12
      obtain ⟨d12_3, c12⟩ := not_or.mp c12
      obtain ⟨d12_4, c12⟩ := not_or.mp c12
      obtain ⟨d12_5, c12⟩ := not_or.mp c12
      obtain ⟨d12_6, c12⟩ := not_or.mp c12
      have d12_7 := c12
      refine lv_tableOut (tgt := 153) hx hb dX10_person_12 (by have := i_ne d12_0; have := i_ne d12_1; have := i_ne d12_2; have := i_ne d12_3; have := i_ne d12_4; have := i_ne d12_5; have := i_ne d12_6; have := i_ne d12_7; have : (0 : Int32).toInt = 0 := (by decide); have : (1 : Int32).toInt = 1 := (by decide); have : (2 : Int32).toInt = 2 := (by decide); have : (3 : Int32).toInt = 3 := (by decide); have : (4 : Int32).toInt = 4 := (by decide); have : (5 : Int32).toInt = 5 := (by decide); have : (6 : Int32).toInt = 6 := (by decide); have : (7 : Int32).toInt = 7 := (by decide); omega) (by decide) ?_
      refine lv_bipush (v := (-2)) hx hb dX10_person_153 (by decide) ?_
      exact W.iret (v := (-2)) hx hb hr (fun t ht hW => ⟨⟨(-2), (), rfl, ⟨(fun _ => h_5), (fun _ => h_5), (fun _ => h_5), (fun hq => absurd hq (rne (rgn (-2) (x := (-2)) (by decide)) (y := 0) (c := 0) (by decide) (by decide))), (fun hq => absurd hq (rne (rgn (-2) (x := (-2)) (by decide)) (y := (-1)) (c := (-1)) (by decide) (by decide))), (fun hq => absurd (req (rgn (-2) (x := (-2)) (by decide)) (y := (-2)) (by decide)) hq), (fun _ => h_6), (fun _ => h_6), (fun _ => h_6), trivial⟩, trivial⟩, hS.F ht⟩) hS.2.2 dX10_person_155
  · have h_41 : rg 0 0 r2 := r_eq_l_i (e := 0) (f := 0) c5 p_1 (rgn 0 (x := 0) (by decide)) (by decide)
    refine lv_bipush (v := (-2)) hx hb dX10_person_8 (by decide) ?_
    exact W.iret (v := (-2)) hx hb hr (fun t ht hW => ⟨⟨(-2), (), rfl, ⟨(fun hq => absurd hq (rne (rgn (-2) (x := (-2)) (by decide)) (y := 0) (c := 0) (by decide) (by decide))), (fun hq => absurd hq (rne (rgn (-2) (x := (-2)) (by decide)) (y := (-1)) (c := (-1)) (by decide) (by decide))), (fun hq => absurd (req (rgn (-2) (x := (-2)) (by decide)) (y := (-2)) (by decide)) hq), (fun hq => absurd hq (rne (rgn (-2) (x := (-2)) (by decide)) (y := 0) (c := 0) (by decide) (by decide))), (fun hq => absurd hq (rne (rgn (-2) (x := (-2)) (by decide)) (y := (-1)) (c := (-1)) (by decide) (by decide))), (fun hq => absurd (req (rgn (-2) (x := (-2)) (by decide)) (y := (-2)) (by decide)) hq), (fun hq => absurd hq (rne (rgn (-2) (x := (-2)) (by decide)) (y := 0) (c := 0) (by decide) (by decide))), (fun hq => absurd hq (rne (rgn (-2) (x := (-2)) (by decide)) (y := (-1)) (c := (-1)) (by decide) (by decide))), (fun hq => absurd (req (rgn (-2) (x := (-2)) (by decide)) (y := (-2)) (by decide)) hq), trivial⟩, trivial⟩, hS.F ht⟩) hS.2.2 dX10_person_10

set_option maxHeartbeats 4000000 in
set_option maxRecDepth 100000 in
theorem a_X10_free (l : Launch) (G : va_G) (ct : Nat → ClassId) (a0 : Nat) (a1 : Nat) (a3 : Nat) (a11 : Nat) (a25 : Nat) (a68 : Nat) (a69 : Nat) (a77 : Nat) (a82 : Nat) (a84 : Nat) (a88 : Nat) (a91 : Nat) (a12 : Nat) (a19 : Nat) (a24 : Nat) (n11_3 : Int32) (a13 : Nat) (a15 : Nat) (a16 : Nat) (a17 : Nat) (a18 : Nat) (n12_5 : Int32) (n12_6 : Int32) (a20 : Nat) (a22 : Nat) (a23 : Nat) (n19_4 : Int32) (n19_5 : Int32) (n19_6 : Int32) (n19_7 : Int32) (a21 : Nat) (n20_1 : Int32) (f21 : Nat → Int32) (hp_n20_1 : rg 0 8 n20_1) : Met l yX10_free wsX10_free ({ frames := 4, cells := 0, slots := 0, locals := 85 }) (va_Pc [.ref a0] (roP G ct [(a0, .inr (10, [.ref a1, .ref a3, .ref a11, .ref a25, .ref a68, .ref a69, .ref a77, .ref a82, .ref a84, .ref a88, .ref a91])), (a11, .inr (4, [.ref a12, .ref a19, .ref a24, .int n11_3])), (a12, .inr (9, [.ref a13, .ref a15, .ref a16, .ref a17, .ref a18, .int n12_5, .int n12_6])), (a19, .inr (2, [.ref a12, .ref a20, .ref a22, .ref a23, .int n19_4, .int n19_5, .int n19_6, .int n19_7])), (a20, .inr (0, [.ref a21, .int n20_1])), (a21, .inl (ct 0, 8, .inl f21))])) (roQ (fun r => rg (-2) 255 r ∧ (r = 0 → rg 1 2147483647 n12_5) ∧ (¬ r = (-2) → rg 1 2147483647 n12_5) ∧ True)) 0 0 no := by
  refine Met.ofW (cc := cX10_free) (maxL := 1) (ret := (some .int)) (by decide) rfl ?_
  intro p e s m args below meth c s₁ B hml hv
  obtain ⟨rfl, hP, hK⟩ := hv
  have hx := B.exec
  have hb := B.bytes
  have hr := B.returns
  have hts := atoms_spec (ws := wsX10_free) B.pre
  have hown : s.vm.findClass RX10 = some m.cls := findClass_of_methodNamed B.named
  have hlocks := B.notSynchronized
  have hS : va_S no s.heap s.heap [] := va_S.rf
  have hl := lv_entry ([.ref a0]) (n := 1) (Nat.le_of_ble_eq_true rfl)
  rw [lg_entry_eq]
  generalize (lg_sl ([.ref a0]) ++ List.replicate (1 - (lg_sl ([.ref a0])).length) Slot.unset).toArray = ls at hl ⊢
  have hl : lv_has ls 1 [(0, .ref a0)] := hl
  refine lv_aload_n hx hb dX10_free_0 rfl (lv_at hl 0 rfl) ?_
  refine ro_calli (va_runV (As := []) (rest := []) ⟨hx, hb, hml, hown, hts⟩ (a_X10_hasCity l G ct a0 a1 a3 a11 a25 a68 a69 a77 a82 a84 a88 a91 a12 a19 a24 n11_3 a13 a15 a16 a17 a18 n12_5 n12_6) (cwV 0 hts gX10_free_X10_hasCity rfl rfl rfl (by decide +kernel) ⟨Nat.le_of_ble_eq_true rfl, Nat.le_of_ble_eq_true rfl⟩) (ro_preV 10 0 hK (hP.sub [0, 1, 2] rfl) rfl rfl) rfl rfl hl.1 rfl (lv_room (Nat.le_of_ble_eq_true rfl)) dX10_free_1 ⟨Nat.zero_le _, Nat.zero_le _⟩) hS hP (fun r1 H locs wr1 hP hS => ?_)
  obtain ⟨p_1, p_2, p_3, -⟩ := wr1
  refine lv_if_eq (tgt := 17) hx hb dX10_free_4 (by decide) (fun c4 => ?_) (fun c4 => ?_)
  · have h_4 : rg 0 0 r1 := r_eq_l_i (e := 0) (f := 0) c4 p_1 (rgn 0 (x := 0) (by decide)) (by decide)
    have h_5 : rg (-2147483648) 0 n12_5 := (p_3 (req h_4 (y := 0) (by decide)))
    refine lv_bipush (v := (-2)) hx hb dX10_free_17 (by decide) ?_
    exact W.iret (v := (-2)) hx hb hr (fun t ht hW => ⟨⟨(-2), (), rfl, ⟨(rg_w (c := (-2)) (d := 255) (rgn (-2) (x := (-2)) (by decide)) (by decide)), (fun hq => absurd hq (rne (rgn (-2) (x := (-2)) (by decide)) (y := 0) (c := 0) (by decide) (by decide))), (fun hq => absurd (req (rgn (-2) (x := (-2)) (by decide)) (y := (-2)) (by decide)) hq), trivial⟩, trivial⟩, hS.F ht⟩) hS.2.2 dX10_free_19
  · have h_6 : rg 1 1 r1 := r_ne_lo_i c4 p_1 (by decide) (by decide)
    have h_7 : rg 1 2147483647 n12_5 := (p_2 (rne h_6 (y := 0) (c := 0) (by decide) (by decide)))
    refine lv_aload_n hx hb dX10_free_7 rfl (lv_at hl 0 rfl) ?_
    refine ro_callr (va_runV (As := []) (rest := []) ⟨hx, hb, hml, hown, hts⟩ (a_X10_bonds l G ct a0 a1 a3 a11 a25 a68 a69 a77 a82 a84 a88 a91 a12 a19 a24 n11_3 a20 a22 a23 n19_4 n19_5 n19_6 n19_7) (cwV 0 hts gX10_free_X10_bonds rfl rfl rfl (by decide +kernel) ⟨Nat.le_of_ble_eq_true rfl, Nat.le_of_ble_eq_true rfl⟩) (ro_preV 10 0 hK (hP.sub [0, 1, 3] rfl) rfl rfl) rfl rfl hl.1 rfl (lv_room (Nat.le_of_ble_eq_true rfl)) dX10_free_8 ⟨Nat.zero_le _, Nat.zero_le _⟩) hS hP (fun H locs hP hS => ?_)
    refine ro_calli (va_runV (As := []) (rest := []) ⟨hx, hb, hml, hown, hts⟩ (a_X0_freeOnes l G ct a20 a21 n20_1 f21 hp_n20_1) (cwV 0 hts gX10_free_X0_freeOnes rfl rfl rfl (by decide +kernel) ⟨Nat.le_of_ble_eq_true rfl, Nat.le_of_ble_eq_true rfl⟩) (ro_preV 0 0 hK (hP.sub [4, 5] rfl) rfl rfl) rfl rfl hl.1 rfl (lv_room (Nat.le_of_ble_eq_true rfl)) dX10_free_11 ⟨Nat.zero_le _, Nat.zero_le _⟩) hS hP (fun r11 H locs wr11 hP hS => ?_)
    obtain ⟨p_8, -⟩ := wr11
    refine lv_goto (tgt := 19) hx hb dX10_free_14 (by decide) ?_
    exact W.iret (v := r11) hx hb hr (fun t ht hW => ⟨⟨r11, (), rfl, ⟨(rg_w (c := (-2)) (d := 255) p_8 (by decide)), (fun _ => h_7), (fun _ => h_7), trivial⟩, trivial⟩, hS.F ht⟩) hS.2.2 dX10_free_19

set_option maxHeartbeats 4000000 in
set_option maxRecDepth 100000 in
theorem a_X10_under (l : Launch) (G : va_G) (ct : Nat → ClassId) (a0 : Nat) (a1 : Nat) (a3 : Nat) (a11 : Nat) (a25 : Nat) (a68 : Nat) (a69 : Nat) (a77 : Nat) (a82 : Nat) (a84 : Nat) (a88 : Nat) (a91 : Nat) (a12 : Nat) (a19 : Nat) (a24 : Nat) (n11_3 : Int32) (a20 : Nat) (a22 : Nat) (a23 : Nat) (n19_4 : Int32) (n19_5 : Int32) (n19_6 : Int32) (n19_7 : Int32) (a21 : Nat) (n20_1 : Int32) (f21 : Nat → Int32) (p0 : Int32) (hp_n20_1 : rg 0 8 n20_1) : Met l yX10_under wsX10_under ({ frames := 4, cells := 0, slots := 0, locals := 89 }) (va_Pc [.ref a0, .int p0] (roP G ct [(a0, .inr (10, [.ref a1, .ref a3, .ref a11, .ref a25, .ref a68, .ref a69, .ref a77, .ref a82, .ref a84, .ref a88, .ref a91])), (a11, .inr (4, [.ref a12, .ref a19, .ref a24, .int n11_3])), (a19, .inr (2, [.ref a12, .ref a20, .ref a22, .ref a23, .int n19_4, .int n19_5, .int n19_6, .int n19_7])), (a20, .inr (0, [.ref a21, .int n20_1])), (a21, .inl (ct 0, 8, .inl f21))])) (roQ (fun r => rg (-2) 255 r ∧ (r = 0 → rg 0 7 p0) ∧ (¬ r = (-2) → rg 0 7 p0) ∧ (r = 0 → rg 1 8 n20_1) ∧ (¬ r = (-2) → rg 1 8 n20_1) ∧ True)) 0 0 no := by
  refine Met.ofW (cc := cX10_under) (maxL := 2) (ret := (some .int)) (by decide) rfl ?_
  intro p e s m args below meth c s₁ B hml hv
  obtain ⟨rfl, hP, hK⟩ := hv
  have hx := B.exec
  have hb := B.bytes
  have hr := B.returns
  have hts := atoms_spec (ws := wsX10_under) B.pre
  have hown : s.vm.findClass RX10 = some m.cls := findClass_of_methodNamed B.named
  have hlocks := B.notSynchronized
  have hS : va_S no s.heap s.heap [] := va_S.rf
  have hl := lv_entry ([.ref a0, .int p0]) (n := 2) (Nat.le_of_ble_eq_true rfl)
  rw [lg_entry_eq]
  generalize (lg_sl ([.ref a0, .int p0]) ++ List.replicate (2 - (lg_sl ([.ref a0, .int p0])).length) Slot.unset).toArray = ls at hl ⊢
  have hl : lv_has ls 2 [(0, .ref a0), (1, .int p0)] := hl
  refine lv_aload_n hx hb dX10_under_0 rfl (lv_at hl 0 rfl) ?_
  refine lv_iload_n hx hb dX10_under_1 rfl (lv_at hl 1 rfl) ?_
  refine ro_calli (va_runV (As := [.int p0]) (rest := []) ⟨hx, hb, hml, hown, hts⟩ (a_X10_isPerson l G ct a0 a1 a3 a11 a25 a68 a69 a77 a82 a84 a88 a91 a12 a19 a24 n11_3 a20 a22 a23 n19_4 n19_5 n19_6 n19_7 a21 n20_1 p0 hp_n20_1) (cwV 1 hts gX10_under_X10_isPerson rfl rfl rfl (by decide +kernel) ⟨Nat.le_of_ble_eq_true rfl, Nat.le_of_ble_eq_true rfl⟩) (ro_preV 10 0 hK (hP.sub [0, 1, 2, 3] rfl) rfl rfl) rfl rfl hl.1 rfl (lv_room (Nat.le_of_ble_eq_true rfl)) dX10_under_2 ⟨Nat.zero_le _, Nat.zero_le _⟩) hS hP (fun r2 H locs wr2 hP hS => ?_)
  obtain ⟨p_1, p_2, p_3, -⟩ := wr2
  refine lv_if_eq (tgt := 19) hx hb dX10_under_5 (by decide) (fun c5 => ?_) (fun c5 => ?_)
  · have h_4 : rg 0 0 r2 := r_eq_l_i (e := 0) (f := 0) c5 p_1 (rgn 0 (x := 0) (by decide)) (by decide)
    refine lv_bipush (v := (-2)) hx hb dX10_under_19 (by decide) ?_
    exact W.iret (v := (-2)) hx hb hr (fun t ht hW => ⟨⟨(-2), (), rfl, ⟨(rg_w (c := (-2)) (d := 255) (rgn (-2) (x := (-2)) (by decide)) (by decide)), (fun hq => absurd hq (rne (rgn (-2) (x := (-2)) (by decide)) (y := 0) (c := 0) (by decide) (by decide))), (fun hq => absurd (req (rgn (-2) (x := (-2)) (by decide)) (y := (-2)) (by decide)) hq), (fun hq => absurd hq (rne (rgn (-2) (x := (-2)) (by decide)) (y := 0) (c := 0) (by decide) (by decide))), (fun hq => absurd (req (rgn (-2) (x := (-2)) (by decide)) (y := (-2)) (by decide)) hq), trivial⟩, trivial⟩, hS.F ht⟩) hS.2.2 dX10_under_21
  · have h_5 : rg 1 1 r2 := r_ne_lo_i c5 p_1 (by decide) (by decide)
    have h_6 : rg 0 7 p0 := (p_2 (rne h_5 (y := 0) (c := 0) (by decide) (by decide)))
    have h_7 : rg 1 8 n20_1 := (p_3 (rne h_5 (y := 0) (c := 0) (by decide) (by decide)))
    refine lv_aload_n hx hb dX10_under_8 rfl (lv_at hl 0 rfl) ?_
    refine ro_callr (va_runV (As := []) (rest := []) ⟨hx, hb, hml, hown, hts⟩ (a_X10_bonds l G ct a0 a1 a3 a11 a25 a68 a69 a77 a82 a84 a88 a91 a12 a19 a24 n11_3 a20 a22 a23 n19_4 n19_5 n19_6 n19_7) (cwV 0 hts gX10_under_X10_bonds rfl rfl rfl (by decide +kernel) ⟨Nat.le_of_ble_eq_true rfl, Nat.le_of_ble_eq_true rfl⟩) (ro_preV 10 0 hK (hP.sub [0, 1, 2] rfl) rfl rfl) rfl rfl hl.1 rfl (lv_room (Nat.le_of_ble_eq_true rfl)) dX10_under_9 ⟨Nat.zero_le _, Nat.zero_le _⟩) hS hP (fun H locs hP hS => ?_)
    refine lv_iload_n hx hb dX10_under_12 rfl (lv_at hl 1 rfl) ?_
    refine ro_calli (va_runV (As := [.int p0]) (rest := []) ⟨hx, hb, hml, hown, hts⟩ (a_X0_below l G ct a20 a21 n20_1 f21 p0 (rg_w (c := 0) (d := 8) h_7 (by decide))) (cwV 1 hts gX10_under_X0_below rfl rfl rfl (by decide +kernel) ⟨Nat.le_of_ble_eq_true rfl, Nat.le_of_ble_eq_true rfl⟩) (ro_preV 0 0 hK (hP.sub [3, 4] rfl) rfl rfl) rfl rfl hl.1 rfl (lv_room (Nat.le_of_ble_eq_true rfl)) dX10_under_13 ⟨Nat.zero_le _, Nat.zero_le _⟩) hS hP (fun r13 H locs wr13 hP hS => ?_)
    obtain ⟨p_8, -⟩ := wr13
    refine lv_goto (tgt := 21) hx hb dX10_under_16 (by decide) ?_
    exact W.iret (v := r13) hx hb hr (fun t ht hW => ⟨⟨r13, (), rfl, ⟨(rg_w (c := (-2)) (d := 255) p_8 (by decide)), (fun _ => h_6), (fun _ => h_6), (fun _ => h_7), (fun _ => h_7), trivial⟩, trivial⟩, hS.F ht⟩) hS.2.2 dX10_under_21

set_option maxHeartbeats 4000000 in
set_option maxRecDepth 100000 in
theorem a_X10_time (l : Launch) (G : va_G) (ct : Nat → ClassId) (a0 : Nat) (a1 : Nat) (a3 : Nat) (a11 : Nat) (a25 : Nat) (a68 : Nat) (a69 : Nat) (a77 : Nat) (a82 : Nat) (a84 : Nat) (a88 : Nat) (a91 : Nat) (a12 : Nat) (a19 : Nat) (a24 : Nat) (n11_3 : Int32) (a13 : Nat) (a15 : Nat) (a16 : Nat) (a17 : Nat) (a18 : Nat) (n12_5 : Int32) (n12_6 : Int32) (a14 : Nat) (n13_1 : Int32) (f18 : Nat → Int32) (a20 : Nat) (a22 : Nat) (a23 : Nat) (n19_4 : Int32) (n19_5 : Int32) (n19_6 : Int32) (n19_7 : Int32) (a21 : Nat) (n20_1 : Int32) (f21 : Nat → Int32) (p0 : Int32) (p1 : Int32) (hp_n13_1 : rg 0 8 n13_1) (hp_n20_1 : rg 0 8 n20_1) : Met l yX10_time wsX10_time ({ frames := 4, cells := 0, slots := 0, locals := 92 }) (va_Pc [.ref a0, .int p0, .int p1] (roP G ct [(a0, .inr (10, [.ref a1, .ref a3, .ref a11, .ref a25, .ref a68, .ref a69, .ref a77, .ref a82, .ref a84, .ref a88, .ref a91])), (a11, .inr (4, [.ref a12, .ref a19, .ref a24, .int n11_3])), (a12, .inr (9, [.ref a13, .ref a15, .ref a16, .ref a17, .ref a18, .int n12_5, .int n12_6])), (a13, .inr (0, [.ref a14, .int n13_1])), (a18, .inl (ct 0, 8, .inl f18)), (a19, .inr (2, [.ref a12, .ref a20, .ref a22, .ref a23, .int n19_4, .int n19_5, .int n19_6, .int n19_7])), (a20, .inr (0, [.ref a21, .int n20_1])), (a21, .inl (ct 0, 8, .inl f21))])) (roQ (fun r => (r = 0 → rg 0 7 p0) ∧ (r = (-1) → rg 0 7 p0) ∧ (¬ r = (-2) → rg 0 7 p0) ∧ (r = 0 → rg 0 7 p1) ∧ (r = (-1) → rg 0 7 p1) ∧ (¬ r = (-2) → rg 0 7 p1) ∧ (r = 0 → rg 1 8 n20_1) ∧ (r = (-1) → rg 1 8 n20_1) ∧ (¬ r = (-2) → rg 1 8 n20_1) ∧ True)) 0 0 no := by
  refine Met.ofW (cc := cX10_time) (maxL := 3) (ret := (some .int)) (by decide) rfl ?_
  intro p e s m args below meth c s₁ B hml hv
  obtain ⟨rfl, hP, hK⟩ := hv
  have hx := B.exec
  have hb := B.bytes
  have hr := B.returns
  have hts := atoms_spec (ws := wsX10_time) B.pre
  have hown : s.vm.findClass RX10 = some m.cls := findClass_of_methodNamed B.named
  have hlocks := B.notSynchronized
  have hS : va_S no s.heap s.heap [] := va_S.rf
  have hl := lv_entry ([.ref a0, .int p0, .int p1]) (n := 3) (Nat.le_of_ble_eq_true rfl)
  rw [lg_entry_eq]
  generalize (lg_sl ([.ref a0, .int p0, .int p1]) ++ List.replicate (3 - (lg_sl ([.ref a0, .int p0, .int p1])).length) Slot.unset).toArray = ls at hl ⊢
  have hl : lv_has ls 3 [(0, .ref a0), (1, .int p0), (2, .int p1)] := hl
  refine lv_aload_n hx hb dX10_time_0 rfl (lv_at hl 0 rfl) ?_
  refine lv_iload_n hx hb dX10_time_1 rfl (lv_at hl 1 rfl) ?_
  refine ro_calli (va_runV (As := [.int p0]) (rest := []) ⟨hx, hb, hml, hown, hts⟩ (a_X10_isPerson l G ct a0 a1 a3 a11 a25 a68 a69 a77 a82 a84 a88 a91 a12 a19 a24 n11_3 a20 a22 a23 n19_4 n19_5 n19_6 n19_7 a21 n20_1 p0 hp_n20_1) (cwV 1 hts gX10_time_X10_isPerson rfl rfl rfl (by decide +kernel) ⟨Nat.le_of_ble_eq_true rfl, Nat.le_of_ble_eq_true rfl⟩) (ro_preV 10 0 hK (hP.sub [0, 1, 5, 6] rfl) rfl rfl) rfl rfl hl.1 rfl (lv_room (Nat.le_of_ble_eq_true rfl)) dX10_time_2 ⟨Nat.zero_le _, Nat.zero_le _⟩) hS hP (fun r2 H locs wr2 hP hS => ?_)
  obtain ⟨p_1, p_2, p_3, -⟩ := wr2
  refine lv_if_eq (tgt := 16) hx hb dX10_time_5 (by decide) (fun c5 => ?_) (fun c5 => ?_)
  · have h_4 : rg 0 0 r2 := r_eq_l_i (e := 0) (f := 0) c5 p_1 (rgn 0 (x := 0) (by decide)) (by decide)
    refine lv_bipush (v := (-2)) hx hb dX10_time_16 (by decide) ?_
    exact W.iret (v := (-2)) hx hb hr (fun t ht hW => ⟨⟨(-2), (), rfl, ⟨(fun hq => absurd hq (rne (rgn (-2) (x := (-2)) (by decide)) (y := 0) (c := 0) (by decide) (by decide))), (fun hq => absurd hq (rne (rgn (-2) (x := (-2)) (by decide)) (y := (-1)) (c := (-1)) (by decide) (by decide))), (fun hq => absurd (req (rgn (-2) (x := (-2)) (by decide)) (y := (-2)) (by decide)) hq), (fun hq => absurd hq (rne (rgn (-2) (x := (-2)) (by decide)) (y := 0) (c := 0) (by decide) (by decide))), (fun hq => absurd hq (rne (rgn (-2) (x := (-2)) (by decide)) (y := (-1)) (c := (-1)) (by decide) (by decide))), (fun hq => absurd (req (rgn (-2) (x := (-2)) (by decide)) (y := (-2)) (by decide)) hq), (fun hq => absurd hq (rne (rgn (-2) (x := (-2)) (by decide)) (y := 0) (c := 0) (by decide) (by decide))), (fun hq => absurd hq (rne (rgn (-2) (x := (-2)) (by decide)) (y := (-1)) (c := (-1)) (by decide) (by decide))), (fun hq => absurd (req (rgn (-2) (x := (-2)) (by decide)) (y := (-2)) (by decide)) hq), trivial⟩, trivial⟩, hS.F ht⟩) hS.2.2 dX10_time_18
  · have h_5 : rg 1 1 r2 := r_ne_lo_i c5 p_1 (by decide) (by decide)
    have h_6 : rg 0 7 p0 := (p_2 (rne h_5 (y := 0) (c := 0) (by decide) (by decide)))
    have h_7 : rg 1 8 n20_1 := (p_3 (rne h_5 (y := 0) (c := 0) (by decide) (by decide)))
    refine lv_aload_n hx hb dX10_time_8 rfl (lv_at hl 0 rfl) ?_
    refine lv_iload_n hx hb dX10_time_9 rfl (lv_at hl 2 rfl) ?_
    refine ro_calli (va_runV (As := [.int p1]) (rest := []) ⟨hx, hb, hml, hown, hts⟩ (a_X10_isPerson l G ct a0 a1 a3 a11 a25 a68 a69 a77 a82 a84 a88 a91 a12 a19 a24 n11_3 a20 a22 a23 n19_4 n19_5 n19_6 n19_7 a21 n20_1 p1 (rg_w (c := 0) (d := 8) h_7 (by decide))) (cwV 1 hts gX10_time_X10_isPerson rfl rfl rfl (by decide +kernel) ⟨Nat.le_of_ble_eq_true rfl, Nat.le_of_ble_eq_true rfl⟩) (ro_preV 10 0 hK (hP.sub [0, 1, 5, 6] rfl) rfl rfl) rfl rfl hl.1 rfl (lv_room (Nat.le_of_ble_eq_true rfl)) dX10_time_10 ⟨Nat.zero_le _, Nat.zero_le _⟩) hS hP (fun r10 H locs wr10 hP hS => ?_)
    obtain ⟨p_8, p_9, p_10, -⟩ := wr10
    refine lv_if_ne (tgt := 19) hx hb dX10_time_13 (by decide) (fun c13 => ?_) (fun c13 => ?_)
    · have h_11 : rg 1 1 r10 := r_ne_lo_i c13 p_8 (by decide) (by decide)
      have h_12 : rg 0 7 p1 := (p_9 (rne h_11 (y := 0) (c := 0) (by decide) (by decide)))
      refine lv_aload_n hx hb dX10_time_19 rfl (lv_at hl 0 rfl) ?_
      refine va_get (D := G) (ci := 10) (v := .ref a11) (C := RX10) (T := TX10) (N := 11) hx hb hts (by decide +kernel) hown hK.1 hP 0 rfl rfl 2 (by decide) (hts (.fieldLink RX10 28 "CardHolder" "play" "LCardHolder$Play;") (by decide +kernel)) (fun _ h9 => h9) rfl dX10_time_20 ?_
      refine lv_iload_n hx hb dX10_time_23 rfl (lv_at hl 1 rfl) ?_
      refine lv_iload_n hx hb dX10_time_24 rfl (lv_at hl 2 rfl) ?_
      refine ro_calli (va_runV (As := [.int p0, .int p1]) (rest := []) ⟨hx, hb, hml, hown, hts⟩ (a_X4_timeTo l G ct a11 a12 a19 a24 n11_3 a13 a15 a16 a17 a18 n12_5 n12_6 a14 n13_1 f18 a20 a22 a23 n19_4 n19_5 n19_6 n19_7 a21 n20_1 f21 p0 p1 hp_n13_1 (rg_w (c := 0) (d := 8) h_7 (by decide))) (cwV 2 hts gX10_time_X4_timeTo rfl rfl rfl (by decide +kernel) ⟨Nat.le_of_ble_eq_true rfl, Nat.le_of_ble_eq_true rfl⟩) (ro_preV 4 0 hK (hP.sub [1, 2, 3, 4, 5, 6, 7] rfl) rfl rfl) rfl rfl hl.1 rfl (lv_room (Nat.le_of_ble_eq_true rfl)) dX10_time_25 ⟨Nat.zero_le _, Nat.zero_le _⟩) hS hP (fun r25 H locs wr25 hP hS => ?_)
      exact W.iret (v := r25) hx hb hr (fun t ht hW => ⟨⟨r25, (), rfl, ⟨(fun _ => h_6), (fun _ => h_6), (fun _ => h_6), (fun _ => h_12), (fun _ => h_12), (fun _ => h_12), (fun _ => h_7), (fun _ => h_7), (fun _ => h_7), trivial⟩, trivial⟩, hS.F ht⟩) hS.2.2 dX10_time_28
    · have h_13 : rg 0 0 r10 := r_eq_l_i (e := 0) (f := 0) c13 p_8 (rgn 0 (x := 0) (by decide)) (by decide)
      refine lv_bipush (v := (-2)) hx hb dX10_time_16 (by decide) ?_
      exact W.iret (v := (-2)) hx hb hr (fun t ht hW => ⟨⟨(-2), (), rfl, ⟨(fun _ => h_6), (fun _ => h_6), (fun _ => h_6), (fun hq => absurd hq (rne (rgn (-2) (x := (-2)) (by decide)) (y := 0) (c := 0) (by decide) (by decide))), (fun hq => absurd hq (rne (rgn (-2) (x := (-2)) (by decide)) (y := (-1)) (c := (-1)) (by decide) (by decide))), (fun hq => absurd (req (rgn (-2) (x := (-2)) (by decide)) (y := (-2)) (by decide)) hq), (fun _ => h_7), (fun _ => h_7), (fun _ => h_7), trivial⟩, trivial⟩, hS.F ht⟩) hS.2.2 dX10_time_18

set_option maxHeartbeats 4000000 in
set_option maxRecDepth 100000 in
theorem a_X10_top (l : Launch) (G : va_G) (ct : Nat → ClassId) (a0 : Nat) (a1 : Nat) (a3 : Nat) (a11 : Nat) (a25 : Nat) (a68 : Nat) (a69 : Nat) (a77 : Nat) (a82 : Nat) (a84 : Nat) (a88 : Nat) (a91 : Nat) (a12 : Nat) (a19 : Nat) (a24 : Nat) (n11_3 : Int32) (a20 : Nat) (a22 : Nat) (a23 : Nat) (n19_4 : Int32) (n19_5 : Int32) (n19_6 : Int32) (n19_7 : Int32) (a21 : Nat) (n20_1 : Int32) (f21 : Nat → Int32) (p0 : Int32) (hp_n20_1 : rg 0 8 n20_1) : Met l yX10_top wsX10_top ({ frames := 3, cells := 0, slots := 0, locals := 66 }) (va_Pc [.ref a0, .int p0] (roP G ct [(a0, .inr (10, [.ref a1, .ref a3, .ref a11, .ref a25, .ref a68, .ref a69, .ref a77, .ref a82, .ref a84, .ref a88, .ref a91])), (a11, .inr (4, [.ref a12, .ref a19, .ref a24, .int n11_3])), (a19, .inr (2, [.ref a12, .ref a20, .ref a22, .ref a23, .int n19_4, .int n19_5, .int n19_6, .int n19_7])), (a20, .inr (0, [.ref a21, .int n20_1])), (a21, .inl (ct 0, 8, .inl f21))])) (roQ (fun r => (r = 0 → rg 0 7 p0) ∧ (r = (-1) → rg 0 7 p0) ∧ (¬ r = (-2) → rg 0 7 p0) ∧ (r = 0 → rg 1 8 n20_1) ∧ (r = (-1) → rg 1 8 n20_1) ∧ (¬ r = (-2) → rg 1 8 n20_1) ∧ True)) 0 0 no := by
  refine Met.ofW (cc := cX10_top) (maxL := 2) (ret := (some .int)) (by decide) rfl ?_
  intro p e s m args below meth c s₁ B hml hv
  obtain ⟨rfl, hP, hK⟩ := hv
  have hx := B.exec
  have hb := B.bytes
  have hr := B.returns
  have hts := atoms_spec (ws := wsX10_top) B.pre
  have hown : s.vm.findClass RX10 = some m.cls := findClass_of_methodNamed B.named
  have hlocks := B.notSynchronized
  have hS : va_S no s.heap s.heap [] := va_S.rf
  have hl := lv_entry ([.ref a0, .int p0]) (n := 2) (Nat.le_of_ble_eq_true rfl)
  rw [lg_entry_eq]
  generalize (lg_sl ([.ref a0, .int p0]) ++ List.replicate (2 - (lg_sl ([.ref a0, .int p0])).length) Slot.unset).toArray = ls at hl ⊢
  have hl : lv_has ls 2 [(0, .ref a0), (1, .int p0)] := hl
  refine lv_aload_n hx hb dX10_top_0 rfl (lv_at hl 0 rfl) ?_
  refine lv_iload_n hx hb dX10_top_1 rfl (lv_at hl 1 rfl) ?_
  refine ro_calli (va_runV (As := [.int p0]) (rest := []) ⟨hx, hb, hml, hown, hts⟩ (a_X10_isPerson l G ct a0 a1 a3 a11 a25 a68 a69 a77 a82 a84 a88 a91 a12 a19 a24 n11_3 a20 a22 a23 n19_4 n19_5 n19_6 n19_7 a21 n20_1 p0 hp_n20_1) (cwV 1 hts gX10_top_X10_isPerson rfl rfl rfl (by decide +kernel) ⟨Nat.le_of_ble_eq_true rfl, Nat.le_of_ble_eq_true rfl⟩) (ro_preV 10 0 hK (hP.sub [0, 1, 2, 3] rfl) rfl rfl) rfl rfl hl.1 rfl (lv_room (Nat.le_of_ble_eq_true rfl)) dX10_top_2 ⟨Nat.zero_le _, Nat.zero_le _⟩) hS hP (fun r2 H locs wr2 hP hS => ?_)
  obtain ⟨p_1, p_2, p_3, -⟩ := wr2
  refine lv_if_eq (tgt := 19) hx hb dX10_top_5 (by decide) (fun c5 => ?_) (fun c5 => ?_)
  · have h_4 : rg 0 0 r2 := r_eq_l_i (e := 0) (f := 0) c5 p_1 (rgn 0 (x := 0) (by decide)) (by decide)
    refine lv_bipush (v := (-2)) hx hb dX10_top_19 (by decide) ?_
    exact W.iret (v := (-2)) hx hb hr (fun t ht hW => ⟨⟨(-2), (), rfl, ⟨(fun hq => absurd hq (rne (rgn (-2) (x := (-2)) (by decide)) (y := 0) (c := 0) (by decide) (by decide))), (fun hq => absurd hq (rne (rgn (-2) (x := (-2)) (by decide)) (y := (-1)) (c := (-1)) (by decide) (by decide))), (fun hq => absurd (req (rgn (-2) (x := (-2)) (by decide)) (y := (-2)) (by decide)) hq), (fun hq => absurd hq (rne (rgn (-2) (x := (-2)) (by decide)) (y := 0) (c := 0) (by decide) (by decide))), (fun hq => absurd hq (rne (rgn (-2) (x := (-2)) (by decide)) (y := (-1)) (c := (-1)) (by decide) (by decide))), (fun hq => absurd (req (rgn (-2) (x := (-2)) (by decide)) (y := (-2)) (by decide)) hq), trivial⟩, trivial⟩, hS.F ht⟩) hS.2.2 dX10_top_21
  · have h_5 : rg 1 1 r2 := r_ne_lo_i c5 p_1 (by decide) (by decide)
    have h_6 : rg 0 7 p0 := (p_2 (rne h_5 (y := 0) (c := 0) (by decide) (by decide)))
    have h_7 : rg 1 8 n20_1 := (p_3 (rne h_5 (y := 0) (c := 0) (by decide) (by decide)))
    refine lv_aload_n hx hb dX10_top_8 rfl (lv_at hl 0 rfl) ?_
    refine ro_callr (va_runV (As := []) (rest := []) ⟨hx, hb, hml, hown, hts⟩ (a_X10_bonds l G ct a0 a1 a3 a11 a25 a68 a69 a77 a82 a84 a88 a91 a12 a19 a24 n11_3 a20 a22 a23 n19_4 n19_5 n19_6 n19_7) (cwV 0 hts gX10_top_X10_bonds rfl rfl rfl (by decide +kernel) ⟨Nat.le_of_ble_eq_true rfl, Nat.le_of_ble_eq_true rfl⟩) (ro_preV 10 0 hK (hP.sub [0, 1, 2] rfl) rfl rfl) rfl rfl hl.1 rfl (lv_room (Nat.le_of_ble_eq_true rfl)) dX10_top_9 ⟨Nat.zero_le _, Nat.zero_le _⟩) hS hP (fun H locs hP hS => ?_)
    refine lv_iload_n hx hb dX10_top_12 rfl (lv_at hl 1 rfl) ?_
    refine ro_calli (va_runV (As := [.int p0]) (rest := []) ⟨hx, hb, hml, hown, hts⟩ (a_X0_topOf l G ct a20 a21 n20_1 f21 p0 (rg_w (c := 0) (d := 8) h_7 (by decide))) (cwV 1 hts gX10_top_X0_topOf rfl rfl rfl (by decide +kernel) ⟨Nat.le_of_ble_eq_true rfl, Nat.le_of_ble_eq_true rfl⟩) (ro_preV 0 0 hK (hP.sub [3, 4] rfl) rfl rfl) rfl rfl hl.1 rfl (lv_room (Nat.le_of_ble_eq_true rfl)) dX10_top_13 ⟨Nat.zero_le _, Nat.zero_le _⟩) hS hP (fun r13 H locs wr13 hP hS => ?_)
    refine lv_goto (tgt := 21) hx hb dX10_top_16 (by decide) ?_
    exact W.iret (v := r13) hx hb hr (fun t ht hW => ⟨⟨r13, (), rfl, ⟨(fun _ => h_6), (fun _ => h_6), (fun _ => h_6), (fun _ => h_7), (fun _ => h_7), (fun _ => h_7), trivial⟩, trivial⟩, hS.F ht⟩) hS.2.2 dX10_top_21

set_option maxHeartbeats 4000000 in
set_option maxRecDepth 100000 in
theorem a_X10_ring (l : Launch) (G : va_G) (ct : Nat → ClassId) (a0 : Nat) (a1 : Nat) (a3 : Nat) (a11 : Nat) (a25 : Nat) (a68 : Nat) (a69 : Nat) (a77 : Nat) (a82 : Nat) (a84 : Nat) (a88 : Nat) (a91 : Nat) (a12 : Nat) (a19 : Nat) (a24 : Nat) (n11_3 : Int32) (a20 : Nat) (a22 : Nat) (a23 : Nat) (n19_4 : Int32) (n19_5 : Int32) (n19_6 : Int32) (n19_7 : Int32) (a21 : Nat) (n20_1 : Int32) (f21 : Nat → Int32) (p0 : Int32) (hp_n20_1 : rg 0 8 n20_1) : Met l yX10_ring wsX10_ring ({ frames := 4, cells := 0, slots := 0, locals := 87 }) (va_Pc [.ref a0, .int p0] (roP G ct [(a0, .inr (10, [.ref a1, .ref a3, .ref a11, .ref a25, .ref a68, .ref a69, .ref a77, .ref a82, .ref a84, .ref a88, .ref a91])), (a11, .inr (4, [.ref a12, .ref a19, .ref a24, .int n11_3])), (a19, .inr (2, [.ref a12, .ref a20, .ref a22, .ref a23, .int n19_4, .int n19_5, .int n19_6, .int n19_7])), (a20, .inr (0, [.ref a21, .int n20_1])), (a21, .inl (ct 0, 8, .inl f21))])) (roQ (fun r => rg (-2) 8 r ∧ (r = 0 → rg 0 7 p0) ∧ (¬ r = (-2) → rg 0 7 p0) ∧ (r = 0 → rg 1 8 n20_1) ∧ (¬ r = (-2) → rg 1 8 n20_1) ∧ True)) 0 0 no := by
  refine Met.ofW (cc := cX10_ring) (maxL := 2) (ret := (some .int)) (by decide) rfl ?_
  intro p e s m args below meth c s₁ B hml hv
  obtain ⟨rfl, hP, hK⟩ := hv
  have hx := B.exec
  have hb := B.bytes
  have hr := B.returns
  have hts := atoms_spec (ws := wsX10_ring) B.pre
  have hown : s.vm.findClass RX10 = some m.cls := findClass_of_methodNamed B.named
  have hlocks := B.notSynchronized
  have hS : va_S no s.heap s.heap [] := va_S.rf
  have hl := lv_entry ([.ref a0, .int p0]) (n := 2) (Nat.le_of_ble_eq_true rfl)
  rw [lg_entry_eq]
  generalize (lg_sl ([.ref a0, .int p0]) ++ List.replicate (2 - (lg_sl ([.ref a0, .int p0])).length) Slot.unset).toArray = ls at hl ⊢
  have hl : lv_has ls 2 [(0, .ref a0), (1, .int p0)] := hl
  refine lv_aload_n hx hb dX10_ring_0 rfl (lv_at hl 0 rfl) ?_
  refine lv_iload_n hx hb dX10_ring_1 rfl (lv_at hl 1 rfl) ?_
  refine ro_calli (va_runV (As := [.int p0]) (rest := []) ⟨hx, hb, hml, hown, hts⟩ (a_X10_isPerson l G ct a0 a1 a3 a11 a25 a68 a69 a77 a82 a84 a88 a91 a12 a19 a24 n11_3 a20 a22 a23 n19_4 n19_5 n19_6 n19_7 a21 n20_1 p0 hp_n20_1) (cwV 1 hts gX10_ring_X10_isPerson rfl rfl rfl (by decide +kernel) ⟨Nat.le_of_ble_eq_true rfl, Nat.le_of_ble_eq_true rfl⟩) (ro_preV 10 0 hK (hP.sub [0, 1, 2, 3] rfl) rfl rfl) rfl rfl hl.1 rfl (lv_room (Nat.le_of_ble_eq_true rfl)) dX10_ring_2 ⟨Nat.zero_le _, Nat.zero_le _⟩) hS hP (fun r2 H locs wr2 hP hS => ?_)
  obtain ⟨p_1, p_2, p_3, -⟩ := wr2
  refine lv_if_eq (tgt := 19) hx hb dX10_ring_5 (by decide) (fun c5 => ?_) (fun c5 => ?_)
  · have h_4 : rg 0 0 r2 := r_eq_l_i (e := 0) (f := 0) c5 p_1 (rgn 0 (x := 0) (by decide)) (by decide)
    refine lv_bipush (v := (-2)) hx hb dX10_ring_19 (by decide) ?_
    exact W.iret (v := (-2)) hx hb hr (fun t ht hW => ⟨⟨(-2), (), rfl, ⟨(rg_w (c := (-2)) (d := 8) (rgn (-2) (x := (-2)) (by decide)) (by decide)), (fun hq => absurd hq (rne (rgn (-2) (x := (-2)) (by decide)) (y := 0) (c := 0) (by decide) (by decide))), (fun hq => absurd (req (rgn (-2) (x := (-2)) (by decide)) (y := (-2)) (by decide)) hq), (fun hq => absurd hq (rne (rgn (-2) (x := (-2)) (by decide)) (y := 0) (c := 0) (by decide) (by decide))), (fun hq => absurd (req (rgn (-2) (x := (-2)) (by decide)) (y := (-2)) (by decide)) hq), trivial⟩, trivial⟩, hS.F ht⟩) hS.2.2 dX10_ring_21
  · have h_5 : rg 1 1 r2 := r_ne_lo_i c5 p_1 (by decide) (by decide)
    have h_6 : rg 0 7 p0 := (p_2 (rne h_5 (y := 0) (c := 0) (by decide) (by decide)))
    have h_7 : rg 1 8 n20_1 := (p_3 (rne h_5 (y := 0) (c := 0) (by decide) (by decide)))
    refine lv_aload_n hx hb dX10_ring_8 rfl (lv_at hl 0 rfl) ?_
    refine ro_callr (va_runV (As := []) (rest := []) ⟨hx, hb, hml, hown, hts⟩ (a_X10_bonds l G ct a0 a1 a3 a11 a25 a68 a69 a77 a82 a84 a88 a91 a12 a19 a24 n11_3 a20 a22 a23 n19_4 n19_5 n19_6 n19_7) (cwV 0 hts gX10_ring_X10_bonds rfl rfl rfl (by decide +kernel) ⟨Nat.le_of_ble_eq_true rfl, Nat.le_of_ble_eq_true rfl⟩) (ro_preV 10 0 hK (hP.sub [0, 1, 2] rfl) rfl rfl) rfl rfl hl.1 rfl (lv_room (Nat.le_of_ble_eq_true rfl)) dX10_ring_9 ⟨Nat.zero_le _, Nat.zero_le _⟩) hS hP (fun H locs hP hS => ?_)
    refine lv_iload_n hx hb dX10_ring_12 rfl (lv_at hl 1 rfl) ?_
    refine ro_calli (va_runV (As := [.int p0]) (rest := []) ⟨hx, hb, hml, hown, hts⟩ (a_X0_ringOf l G ct a20 a21 n20_1 f21 p0 (rg_w (c := 0) (d := 8) h_7 (by decide))) (cwV 1 hts gX10_ring_X0_ringOf rfl rfl rfl (by decide +kernel) ⟨Nat.le_of_ble_eq_true rfl, Nat.le_of_ble_eq_true rfl⟩) (ro_preV 0 0 hK (hP.sub [3, 4] rfl) rfl rfl) rfl rfl hl.1 rfl (lv_room (Nat.le_of_ble_eq_true rfl)) dX10_ring_13 ⟨Nat.zero_le _, Nat.zero_le _⟩) hS hP (fun r13 H locs wr13 hP hS => ?_)
    obtain ⟨p_8, -⟩ := wr13
    refine lv_goto (tgt := 21) hx hb dX10_ring_16 (by decide) ?_
    exact W.iret (v := r13) hx hb hr (fun t ht hW => ⟨⟨r13, (), rfl, ⟨(rg_w (c := (-2)) (d := 8) p_8 (by decide)), (fun _ => h_6), (fun _ => h_6), (fun _ => h_7), (fun _ => h_7), trivial⟩, trivial⟩, hS.F ht⟩) hS.2.2 dX10_ring_21

set_option maxHeartbeats 4000000 in
set_option maxRecDepth 100000 in
theorem a_X10_rings (l : Launch) (G : va_G) (ct : Nat → ClassId) (a0 : Nat) (a1 : Nat) (a3 : Nat) (a11 : Nat) (a25 : Nat) (a68 : Nat) (a69 : Nat) (a77 : Nat) (a82 : Nat) (a84 : Nat) (a88 : Nat) (a91 : Nat) (a12 : Nat) (a19 : Nat) (a24 : Nat) (n11_3 : Int32) (a13 : Nat) (a15 : Nat) (a16 : Nat) (a17 : Nat) (a18 : Nat) (n12_5 : Int32) (n12_6 : Int32) (a20 : Nat) (a22 : Nat) (a23 : Nat) (n19_4 : Int32) (n19_5 : Int32) (n19_6 : Int32) (n19_7 : Int32) (a21 : Nat) (n20_1 : Int32) (f21 : Nat → Int32) (hp_n20_1 : rg 0 8 n20_1) : Met l yX10_rings wsX10_rings ({ frames := 6, cells := 0, slots := 0, locals := 133 }) (va_Pc [.ref a0] (roP G ct [(a0, .inr (10, [.ref a1, .ref a3, .ref a11, .ref a25, .ref a68, .ref a69, .ref a77, .ref a82, .ref a84, .ref a88, .ref a91])), (a11, .inr (4, [.ref a12, .ref a19, .ref a24, .int n11_3])), (a12, .inr (9, [.ref a13, .ref a15, .ref a16, .ref a17, .ref a18, .int n12_5, .int n12_6])), (a19, .inr (2, [.ref a12, .ref a20, .ref a22, .ref a23, .int n19_4, .int n19_5, .int n19_6, .int n19_7])), (a20, .inr (0, [.ref a21, .int n20_1])), (a21, .inl (ct 0, 8, .inl f21))])) (roQ (fun r => (r = 0 → rg 1 2147483647 n12_5) ∧ (r = (-1) → rg 1 2147483647 n12_5) ∧ (¬ r = (-2) → rg 1 2147483647 n12_5) ∧ True)) 0 0 no := by
  refine Met.ofW (cc := cX10_rings) (maxL := 1) (ret := (some .int)) (by decide) rfl ?_
  intro p e s m args below meth c s₁ B hml hv
  obtain ⟨rfl, hP, hK⟩ := hv
  have hx := B.exec
  have hb := B.bytes
  have hr := B.returns
  have hts := atoms_spec (ws := wsX10_rings) B.pre
  have hown : s.vm.findClass RX10 = some m.cls := findClass_of_methodNamed B.named
  have hlocks := B.notSynchronized
  have hS : va_S no s.heap s.heap [] := va_S.rf
  have hl := lv_entry ([.ref a0]) (n := 1) (Nat.le_of_ble_eq_true rfl)
  rw [lg_entry_eq]
  generalize (lg_sl ([.ref a0]) ++ List.replicate (1 - (lg_sl ([.ref a0])).length) Slot.unset).toArray = ls at hl ⊢
  have hl : lv_has ls 1 [(0, .ref a0)] := hl
  refine lv_aload_n hx hb dX10_rings_0 rfl (lv_at hl 0 rfl) ?_
  refine ro_calli (va_runV (As := []) (rest := []) ⟨hx, hb, hml, hown, hts⟩ (a_X10_hasCity l G ct a0 a1 a3 a11 a25 a68 a69 a77 a82 a84 a88 a91 a12 a19 a24 n11_3 a13 a15 a16 a17 a18 n12_5 n12_6) (cwV 0 hts gX10_rings_X10_hasCity rfl rfl rfl (by decide +kernel) ⟨Nat.le_of_ble_eq_true rfl, Nat.le_of_ble_eq_true rfl⟩) (ro_preV 10 0 hK (hP.sub [0, 1, 2] rfl) rfl rfl) rfl rfl hl.1 rfl (lv_room (Nat.le_of_ble_eq_true rfl)) dX10_rings_1 ⟨Nat.zero_le _, Nat.zero_le _⟩) hS hP (fun r1 H locs wr1 hP hS => ?_)
  obtain ⟨p_1, p_2, p_3, -⟩ := wr1
  refine lv_if_eq (tgt := 17) hx hb dX10_rings_4 (by decide) (fun c4 => ?_) (fun c4 => ?_)
  · have h_4 : rg 0 0 r1 := r_eq_l_i (e := 0) (f := 0) c4 p_1 (rgn 0 (x := 0) (by decide)) (by decide)
    have h_5 : rg (-2147483648) 0 n12_5 := (p_3 (req h_4 (y := 0) (by decide)))
    refine lv_bipush (v := (-2)) hx hb dX10_rings_17 (by decide) ?_
    exact W.iret (v := (-2)) hx hb hr (fun t ht hW => ⟨⟨(-2), (), rfl, ⟨(fun hq => absurd hq (rne (rgn (-2) (x := (-2)) (by decide)) (y := 0) (c := 0) (by decide) (by decide))), (fun hq => absurd hq (rne (rgn (-2) (x := (-2)) (by decide)) (y := (-1)) (c := (-1)) (by decide) (by decide))), (fun hq => absurd (req (rgn (-2) (x := (-2)) (by decide)) (y := (-2)) (by decide)) hq), trivial⟩, trivial⟩, hS.F ht⟩) hS.2.2 dX10_rings_19
  · have h_6 : rg 1 1 r1 := r_ne_lo_i c4 p_1 (by decide) (by decide)
    have h_7 : rg 1 2147483647 n12_5 := (p_2 (rne h_6 (y := 0) (c := 0) (by decide) (by decide)))
    refine lv_aload_n hx hb dX10_rings_7 rfl (lv_at hl 0 rfl) ?_
    refine ro_callr (va_runV (As := []) (rest := []) ⟨hx, hb, hml, hown, hts⟩ (a_X10_bonds l G ct a0 a1 a3 a11 a25 a68 a69 a77 a82 a84 a88 a91 a12 a19 a24 n11_3 a20 a22 a23 n19_4 n19_5 n19_6 n19_7) (cwV 0 hts gX10_rings_X10_bonds rfl rfl rfl (by decide +kernel) ⟨Nat.le_of_ble_eq_true rfl, Nat.le_of_ble_eq_true rfl⟩) (ro_preV 10 0 hK (hP.sub [0, 1, 3] rfl) rfl rfl) rfl rfl hl.1 rfl (lv_room (Nat.le_of_ble_eq_true rfl)) dX10_rings_8 ⟨Nat.zero_le _, Nat.zero_le _⟩) hS hP (fun H locs hP hS => ?_)
    refine ro_calli (va_runV (As := []) (rest := []) ⟨hx, hb, hml, hown, hts⟩ (a_X0_ringCount l G ct a20 a21 n20_1 f21 hp_n20_1) (cwV 0 hts gX10_rings_X0_ringCount rfl rfl rfl (by decide +kernel) ⟨Nat.le_of_ble_eq_true rfl, Nat.le_of_ble_eq_true rfl⟩) (ro_preV 0 0 hK (hP.sub [4, 5] rfl) rfl rfl) rfl rfl hl.1 rfl (lv_room (Nat.le_of_ble_eq_true rfl)) dX10_rings_11 ⟨Nat.zero_le _, Nat.zero_le _⟩) hS hP (fun r11 H locs wr11 hP hS => ?_)
    refine lv_goto (tgt := 19) hx hb dX10_rings_14 (by decide) ?_
    exact W.iret (v := r11) hx hb hr (fun t ht hW => ⟨⟨r11, (), rfl, ⟨(fun _ => h_7), (fun _ => h_7), (fun _ => h_7), trivial⟩, trivial⟩, hS.F ht⟩) hS.2.2 dX10_rings_19

set_option maxHeartbeats 4000000 in
set_option maxRecDepth 100000 in
theorem a_X10_doer (l : Launch) (G : va_G) (ct : Nat → ClassId) (a0 : Nat) (a1 : Nat) (a3 : Nat) (a11 : Nat) (a25 : Nat) (a68 : Nat) (a69 : Nat) (a77 : Nat) (a82 : Nat) (a84 : Nat) (a88 : Nat) (a91 : Nat) (a12 : Nat) (a19 : Nat) (a24 : Nat) (n11_3 : Int32) (a13 : Nat) (a15 : Nat) (a16 : Nat) (a17 : Nat) (a18 : Nat) (n12_5 : Int32) (n12_6 : Int32) (a14 : Nat) (n13_1 : Int32) (f16 : Nat → Int32) (f18 : Nat → Int32) (a20 : Nat) (a22 : Nat) (a23 : Nat) (n19_4 : Int32) (n19_5 : Int32) (n19_6 : Int32) (n19_7 : Int32) (a21 : Nat) (n20_1 : Int32) (f21 : Nat → Int32) (p0 : Int32) (p1 : Int32) (hp_n13_1 : rg 0 8 n13_1) (hp_n20_1 : rg 0 8 n20_1) : Met l yX10_doer wsX10_doer ({ frames := 5, cells := 0, slots := 0, locals := 119 }) (va_Pc [.ref a0, .int p0, .int p1] (roP G ct [(a0, .inr (10, [.ref a1, .ref a3, .ref a11, .ref a25, .ref a68, .ref a69, .ref a77, .ref a82, .ref a84, .ref a88, .ref a91])), (a11, .inr (4, [.ref a12, .ref a19, .ref a24, .int n11_3])), (a12, .inr (9, [.ref a13, .ref a15, .ref a16, .ref a17, .ref a18, .int n12_5, .int n12_6])), (a13, .inr (0, [.ref a14, .int n13_1])), (a16, .inl (ct 0, 8, .inl f16)), (a18, .inl (ct 0, 8, .inl f18)), (a19, .inr (2, [.ref a12, .ref a20, .ref a22, .ref a23, .int n19_4, .int n19_5, .int n19_6, .int n19_7])), (a20, .inr (0, [.ref a21, .int n20_1])), (a21, .inl (ct 0, 8, .inl f21))])) (roQ (fun r => rg (-2) 7 r ∧ (r = 0 → rg 0 7 p0) ∧ (r = (-1) → rg 0 7 p0) ∧ (¬ r = (-2) → rg 0 7 p0) ∧ (r = 0 → rg 0 5 p1) ∧ (r = (-1) → rg 0 5 p1) ∧ (¬ r = (-2) → rg 0 5 p1) ∧ (r = 0 → rg 1 8 n20_1) ∧ (r = (-1) → rg 1 8 n20_1) ∧ (¬ r = (-2) → rg 1 8 n20_1) ∧ True)) 0 0 no := by
  refine Met.ofW (cc := cX10_doer) (maxL := 3) (ret := (some .int)) (by decide) rfl ?_
  intro p e s m args below meth c s₁ B hml hv
  obtain ⟨rfl, hP, hK⟩ := hv
  have hx := B.exec
  have hb := B.bytes
  have hr := B.returns
  have hts := atoms_spec (ws := wsX10_doer) B.pre
  have hown : s.vm.findClass RX10 = some m.cls := findClass_of_methodNamed B.named
  have hlocks := B.notSynchronized
  have hS : va_S no s.heap s.heap [] := va_S.rf
  have hl := lv_entry ([.ref a0, .int p0, .int p1]) (n := 3) (Nat.le_of_ble_eq_true rfl)
  rw [lg_entry_eq]
  generalize (lg_sl ([.ref a0, .int p0, .int p1]) ++ List.replicate (3 - (lg_sl ([.ref a0, .int p0, .int p1])).length) Slot.unset).toArray = ls at hl ⊢
  have hl : lv_has ls 3 [(0, .ref a0), (1, .int p0), (2, .int p1)] := hl
  refine lv_aload_n hx hb dX10_doer_0 rfl (lv_at hl 0 rfl) ?_
  refine lv_iload_n hx hb dX10_doer_1 rfl (lv_at hl 1 rfl) ?_
  refine ro_calli (va_runV (As := [.int p0]) (rest := []) ⟨hx, hb, hml, hown, hts⟩ (a_X10_isPerson l G ct a0 a1 a3 a11 a25 a68 a69 a77 a82 a84 a88 a91 a12 a19 a24 n11_3 a20 a22 a23 n19_4 n19_5 n19_6 n19_7 a21 n20_1 p0 hp_n20_1) (cwV 1 hts gX10_doer_X10_isPerson rfl rfl rfl (by decide +kernel) ⟨Nat.le_of_ble_eq_true rfl, Nat.le_of_ble_eq_true rfl⟩) (ro_preV 10 0 hK (hP.sub [0, 1, 6, 7] rfl) rfl rfl) rfl rfl hl.1 rfl (lv_room (Nat.le_of_ble_eq_true rfl)) dX10_doer_2 ⟨Nat.zero_le _, Nat.zero_le _⟩) hS hP (fun r2 H locs wr2 hP hS => ?_)
  obtain ⟨p_1, p_2, p_3, -⟩ := wr2
  refine lv_if_eq (tgt := 15) hx hb dX10_doer_5 (by decide) (fun c5 => ?_) (fun c5 => ?_)
  · have h_4 : rg 0 0 r2 := r_eq_l_i (e := 0) (f := 0) c5 p_1 (rgn 0 (x := 0) (by decide)) (by decide)
    refine lv_bipush (v := (-2)) hx hb dX10_doer_15 (by decide) ?_
    exact W.iret (v := (-2)) hx hb hr (fun t ht hW => ⟨⟨(-2), (), rfl, ⟨(rg_w (c := (-2)) (d := 7) (rgn (-2) (x := (-2)) (by decide)) (by decide)), (fun hq => absurd hq (rne (rgn (-2) (x := (-2)) (by decide)) (y := 0) (c := 0) (by decide) (by decide))), (fun hq => absurd hq (rne (rgn (-2) (x := (-2)) (by decide)) (y := (-1)) (c := (-1)) (by decide) (by decide))), (fun hq => absurd (req (rgn (-2) (x := (-2)) (by decide)) (y := (-2)) (by decide)) hq), (fun hq => absurd hq (rne (rgn (-2) (x := (-2)) (by decide)) (y := 0) (c := 0) (by decide) (by decide))), (fun hq => absurd hq (rne (rgn (-2) (x := (-2)) (by decide)) (y := (-1)) (c := (-1)) (by decide) (by decide))), (fun hq => absurd (req (rgn (-2) (x := (-2)) (by decide)) (y := (-2)) (by decide)) hq), (fun hq => absurd hq (rne (rgn (-2) (x := (-2)) (by decide)) (y := 0) (c := 0) (by decide) (by decide))), (fun hq => absurd hq (rne (rgn (-2) (x := (-2)) (by decide)) (y := (-1)) (c := (-1)) (by decide) (by decide))), (fun hq => absurd (req (rgn (-2) (x := (-2)) (by decide)) (y := (-2)) (by decide)) hq), trivial⟩, trivial⟩, hS.F ht⟩) hS.2.2 dX10_doer_17
  · have h_5 : rg 1 1 r2 := r_ne_lo_i c5 p_1 (by decide) (by decide)
    have h_6 : rg 0 7 p0 := (p_2 (rne h_5 (y := 0) (c := 0) (by decide) (by decide)))
    have h_7 : rg 1 8 n20_1 := (p_3 (rne h_5 (y := 0) (c := 0) (by decide) (by decide)))
    refine lv_iload_n hx hb dX10_doer_8 rfl (lv_at hl 2 rfl) ?_
    refine ro_calli (va_runS (As := [.int p1]) (rest := []) ⟨hx, hb, hml, hown, hts⟩ (a_X10_isDeed l G ct p1) (va_cwS 1 hts gX10_doer_X10_isDeed rfl rfl rfl (by decide +kernel) ⟨Nat.le_of_ble_eq_true rfl, Nat.le_of_ble_eq_true rfl⟩) (ro_pre hK (hP.sub [] rfl)) rfl rfl hl.1 rfl (lv_room (Nat.le_of_ble_eq_true rfl)) dX10_doer_9 ⟨Nat.zero_le _, Nat.zero_le _⟩) hS hP (fun r9 H locs wr9 hP hS => ?_)
    obtain ⟨p_8, p_9, -⟩ := wr9
    refine lv_if_ne (tgt := 18) hx hb dX10_doer_12 (by decide) (fun c12 => ?_) (fun c12 => ?_)
    · have h_10 : rg 1 1 r9 := r_ne_lo_i c12 p_8 (by decide) (by decide)
      have h_11 : rg 0 5 p1 := (p_9 (rne h_10 (y := 0) (c := 0) (by decide) (by decide)))
      refine lv_aload_n hx hb dX10_doer_18 rfl (lv_at hl 0 rfl) ?_
      refine va_get (D := G) (ci := 10) (v := .ref a11) (C := RX10) (T := TX10) (N := 11) hx hb hts (by decide +kernel) hown hK.1 hP 0 rfl rfl 2 (by decide) (hts (.fieldLink RX10 28 "CardHolder" "play" "LCardHolder$Play;") (by decide +kernel)) (fun _ h9 => h9) rfl dX10_doer_19 ?_
      refine lv_iload_n hx hb dX10_doer_22 rfl (lv_at hl 1 rfl) ?_
      refine lv_iload_n hx hb dX10_doer_23 rfl (lv_at hl 2 rfl) ?_
      refine ro_calli (va_runV (As := [.int p0, .int p1]) (rest := []) ⟨hx, hb, hml, hown, hts⟩ (a_X4_quickestDoer l G ct a11 a12 a19 a24 n11_3 a13 a15 a16 a17 a18 n12_5 n12_6 a14 n13_1 f16 f18 a20 a22 a23 n19_4 n19_5 n19_6 n19_7 a21 n20_1 f21 p0 p1 hp_n13_1 (rg_w (c := 0) (d := 8) h_7 (by decide))) (cwV 2 hts gX10_doer_X4_quickestDoer rfl rfl rfl (by decide +kernel) ⟨Nat.le_of_ble_eq_true rfl, Nat.le_of_ble_eq_true rfl⟩) (ro_preV 4 0 hK (hP.sub [1, 2, 3, 4, 5, 6, 7, 8] rfl) rfl rfl) rfl rfl hl.1 rfl (lv_room (Nat.le_of_ble_eq_true rfl)) dX10_doer_24 ⟨Nat.zero_le _, Nat.zero_le _⟩) hS hP (fun r24 H locs wr24 hP hS => ?_)
      obtain ⟨p_12, -⟩ := wr24
      exact W.iret (v := r24) hx hb hr (fun t ht hW => ⟨⟨r24, (), rfl, ⟨(rg_w (c := (-2)) (d := 7) p_12 (by decide)), (fun _ => h_6), (fun _ => h_6), (fun _ => h_6), (fun _ => h_11), (fun _ => h_11), (fun _ => h_11), (fun _ => h_7), (fun _ => h_7), (fun _ => h_7), trivial⟩, trivial⟩, hS.F ht⟩) hS.2.2 dX10_doer_27
    · have h_13 : rg 0 0 r9 := r_eq_l_i (e := 0) (f := 0) c12 p_8 (rgn 0 (x := 0) (by decide)) (by decide)
      refine lv_bipush (v := (-2)) hx hb dX10_doer_15 (by decide) ?_
      exact W.iret (v := (-2)) hx hb hr (fun t ht hW => ⟨⟨(-2), (), rfl, ⟨(rg_w (c := (-2)) (d := 7) (rgn (-2) (x := (-2)) (by decide)) (by decide)), (fun _ => h_6), (fun _ => h_6), (fun _ => h_6), (fun hq => absurd hq (rne (rgn (-2) (x := (-2)) (by decide)) (y := 0) (c := 0) (by decide) (by decide))), (fun hq => absurd hq (rne (rgn (-2) (x := (-2)) (by decide)) (y := (-1)) (c := (-1)) (by decide) (by decide))), (fun hq => absurd (req (rgn (-2) (x := (-2)) (by decide)) (y := (-2)) (by decide)) hq), (fun _ => h_7), (fun _ => h_7), (fun _ => h_7), trivial⟩, trivial⟩, hS.F ht⟩) hS.2.2 dX10_doer_17

set_option maxHeartbeats 4000000 in
set_option maxRecDepth 100000 in
theorem a_X10_chain (l : Launch) (G : va_G) (ct : Nat → ClassId) (a0 : Nat) (a1 : Nat) (a3 : Nat) (a11 : Nat) (a25 : Nat) (a68 : Nat) (a69 : Nat) (a77 : Nat) (a82 : Nat) (a84 : Nat) (a88 : Nat) (a91 : Nat) (a12 : Nat) (a19 : Nat) (a24 : Nat) (n11_3 : Int32) (a13 : Nat) (a15 : Nat) (a16 : Nat) (a17 : Nat) (a18 : Nat) (n12_5 : Int32) (n12_6 : Int32) (a14 : Nat) (n13_1 : Int32) (f16 : Nat → Int32) (f18 : Nat → Int32) (a20 : Nat) (a22 : Nat) (a23 : Nat) (n19_4 : Int32) (n19_5 : Int32) (n19_6 : Int32) (n19_7 : Int32) (a21 : Nat) (n20_1 : Int32) (f21 : Nat → Int32) (p0 : Int32) (p1 : Int32) (hp_n13_1 : rg 0 8 n13_1) (hp_n20_1 : rg 0 8 n20_1) : Met l yX10_chain wsX10_chain ({ frames := 6, cells := 0, slots := 0, locals := 141 }) (va_Pc [.ref a0, .int p0, .int p1] (roP G ct [(a0, .inr (10, [.ref a1, .ref a3, .ref a11, .ref a25, .ref a68, .ref a69, .ref a77, .ref a82, .ref a84, .ref a88, .ref a91])), (a11, .inr (4, [.ref a12, .ref a19, .ref a24, .int n11_3])), (a12, .inr (9, [.ref a13, .ref a15, .ref a16, .ref a17, .ref a18, .int n12_5, .int n12_6])), (a13, .inr (0, [.ref a14, .int n13_1])), (a16, .inl (ct 0, 8, .inl f16)), (a18, .inl (ct 0, 8, .inl f18)), (a19, .inr (2, [.ref a12, .ref a20, .ref a22, .ref a23, .int n19_4, .int n19_5, .int n19_6, .int n19_7])), (a20, .inr (0, [.ref a21, .int n20_1])), (a21, .inl (ct 0, 8, .inl f21))])) (roQ (fun r => (r = 0 → rg 0 7 p0) ∧ (r = (-1) → rg 0 7 p0) ∧ (¬ r = (-2) → rg 0 7 p0) ∧ (r = 0 → rg 0 5 p1) ∧ (r = (-1) → rg 0 5 p1) ∧ (¬ r = (-2) → rg 0 5 p1) ∧ (r = 0 → rg 1 8 n20_1) ∧ (r = (-1) → rg 1 8 n20_1) ∧ (¬ r = (-2) → rg 1 8 n20_1) ∧ True)) 0 0 no := by
  refine Met.ofW (cc := cX10_chain) (maxL := 4) (ret := (some .int)) (by decide) rfl ?_
  intro p e s m args below meth c s₁ B hml hv
  obtain ⟨rfl, hP, hK⟩ := hv
  have hx := B.exec
  have hb := B.bytes
  have hr := B.returns
  have hts := atoms_spec (ws := wsX10_chain) B.pre
  have hown : s.vm.findClass RX10 = some m.cls := findClass_of_methodNamed B.named
  have hlocks := B.notSynchronized
  have hS : va_S no s.heap s.heap [] := va_S.rf
  have hl := lv_entry ([.ref a0, .int p0, .int p1]) (n := 4) (Nat.le_of_ble_eq_true rfl)
  rw [lg_entry_eq]
  generalize (lg_sl ([.ref a0, .int p0, .int p1]) ++ List.replicate (4 - (lg_sl ([.ref a0, .int p0, .int p1])).length) Slot.unset).toArray = ls at hl ⊢
  have hl : lv_has ls 4 [(0, .ref a0), (1, .int p0), (2, .int p1)] := hl
  refine lv_aload_n hx hb dX10_chain_0 rfl (lv_at hl 0 rfl) ?_
  refine lv_iload_n hx hb dX10_chain_1 rfl (lv_at hl 1 rfl) ?_
  refine lv_iload_n hx hb dX10_chain_2 rfl (lv_at hl 2 rfl) ?_
  refine ro_calli (va_runV (As := [.int p0, .int p1]) (rest := []) ⟨hx, hb, hml, hown, hts⟩ (a_X10_doer l G ct a0 a1 a3 a11 a25 a68 a69 a77 a82 a84 a88 a91 a12 a19 a24 n11_3 a13 a15 a16 a17 a18 n12_5 n12_6 a14 n13_1 f16 f18 a20 a22 a23 n19_4 n19_5 n19_6 n19_7 a21 n20_1 f21 p0 p1 hp_n13_1 hp_n20_1) (cwV 2 hts gX10_chain_X10_doer rfl rfl rfl (by decide +kernel) ⟨Nat.le_of_ble_eq_true rfl, Nat.le_of_ble_eq_true rfl⟩) (ro_preV 10 0 hK (hP.sub [0, 1, 2, 3, 4, 5, 6, 7, 8] rfl) rfl rfl) rfl rfl hl.1 rfl (lv_room (Nat.le_of_ble_eq_true rfl)) dX10_chain_3 ⟨Nat.zero_le _, Nat.zero_le _⟩) hS hP (fun r3 H locs wr3 hP hS => ?_)
  obtain ⟨p_1, p_2, p_3, p_4, p_5, p_6, p_7, p_8, p_9, p_10, -⟩ := wr3
  refine lv_istore_n (lv' := [(3, .int r3), (0, .ref a0), (1, .int p0), (2, .int p1)]) hx hb dX10_chain_6 rfl hl (by decide) rfl (fun ls hl => ?_)
  refine lv_iload_n hx hb dX10_chain_7 rfl (lv_at hl 0 rfl) ?_
  refine lv_if_ge (tgt := 15) hx hb dX10_chain_8 (by decide) (fun c8 => ?_) (fun c8 => ?_)
  · have h_11 : rg 0 7 r3 := r_le_r_i c8 (rgn 0 (x := 0) (by decide)) p_1
    have h_12 : rg 0 7 p0 := (p_4 (rne h_11 (y := (-2)) (c := (-2)) (by decide) (by decide)))
    have h_13 : rg 0 5 p1 := (p_7 (rne h_11 (y := (-2)) (c := (-2)) (by decide) (by decide)))
    have h_14 : rg 1 8 n20_1 := (p_10 (rne h_11 (y := (-2)) (c := (-2)) (by decide) (by decide)))
    refine lv_aload_n hx hb dX10_chain_15 rfl (lv_at hl 1 rfl) ?_
    refine va_get (D := G) (ci := 10) (v := .ref a11) (C := RX10) (T := TX10) (N := 11) hx hb hts (by decide +kernel) hown hK.1 hP 0 rfl rfl 2 (by decide) (hts (.fieldLink RX10 28 "CardHolder" "play" "LCardHolder$Play;") (by decide +kernel)) (fun _ h9 => h9) rfl dX10_chain_16 ?_
    refine lv_iload_n hx hb dX10_chain_19 rfl (lv_at hl 2 rfl) ?_
    refine lv_iload_n hx hb dX10_chain_20 rfl (lv_at hl 0 rfl) ?_
    refine ro_calli (va_runV (As := [.int p0, .int r3]) (rest := []) ⟨hx, hb, hml, hown, hts⟩ (a_X4_timeTo l G ct a11 a12 a19 a24 n11_3 a13 a15 a16 a17 a18 n12_5 n12_6 a14 n13_1 f18 a20 a22 a23 n19_4 n19_5 n19_6 n19_7 a21 n20_1 f21 p0 r3 hp_n13_1 (rg_w (c := 0) (d := 8) h_14 (by decide))) (cwV 2 hts gX10_chain_X4_timeTo rfl rfl rfl (by decide +kernel) ⟨Nat.le_of_ble_eq_true rfl, Nat.le_of_ble_eq_true rfl⟩) (ro_preV 4 0 hK (hP.sub [1, 2, 3, 5, 6, 7, 8] rfl) rfl rfl) rfl rfl hl.1 rfl (lv_room (Nat.le_of_ble_eq_true rfl)) dX10_chain_21 ⟨Nat.zero_le _, Nat.zero_le _⟩) hS hP (fun r21 H locs wr21 hP hS => ?_)
    exact W.iret (v := r21) hx hb hr (fun t ht hW => ⟨⟨r21, (), rfl, ⟨(fun _ => h_12), (fun _ => h_12), (fun _ => h_12), (fun _ => h_13), (fun _ => h_13), (fun _ => h_13), (fun _ => h_14), (fun _ => h_14), (fun _ => h_14), trivial⟩, trivial⟩, hS.F ht⟩) hS.2.2 dX10_chain_24
  · have h_15 : rg (-2) (-1) r3 := r_lt_l_i (nle_i c8) p_1 (rgn 0 (x := 0) (by decide)) (by decide)
    refine lv_iload_n hx hb dX10_chain_11 rfl (lv_at hl 0 rfl) ?_
    refine lv_goto (tgt := 24) hx hb dX10_chain_12 (by decide) ?_
    exact W.iret (v := r3) hx hb hr (fun t ht hW => ⟨⟨r3, (), rfl, ⟨(fun hq => rg_w (p_2 hq) (by decide)), (fun hq => rg_w (p_3 hq) (by decide)), (fun hq => rg_w (p_4 hq) (by decide)), (fun hq => rg_w (p_5 hq) (by decide)), (fun hq => rg_w (p_6 hq) (by decide)), (fun hq => rg_w (p_7 hq) (by decide)), (fun hq => rg_w (p_8 hq) (by decide)), (fun hq => rg_w (p_9 hq) (by decide)), (fun hq => rg_w (p_10 hq) (by decide)), trivial⟩, trivial⟩, hS.F ht⟩) hS.2.2 dX10_chain_24

set_option maxHeartbeats 4000000 in
set_option maxRecDepth 100000 in
theorem a_X10_asked (l : Launch) (G : va_G) (ct : Nat → ClassId) (a0 : Nat) (a1 : Nat) (a3 : Nat) (a11 : Nat) (a25 : Nat) (a68 : Nat) (a69 : Nat) (a77 : Nat) (a82 : Nat) (a84 : Nat) (a88 : Nat) (a91 : Nat) (a12 : Nat) (a19 : Nat) (a24 : Nat) (n11_3 : Int32) (a13 : Nat) (a15 : Nat) (a16 : Nat) (a17 : Nat) (a18 : Nat) (n12_5 : Int32) (n12_6 : Int32) (a14 : Nat) (n13_1 : Int32) (f16 : Nat → Int32) (f18 : Nat → Int32) (a20 : Nat) (a22 : Nat) (a23 : Nat) (n19_4 : Int32) (n19_5 : Int32) (n19_6 : Int32) (n19_7 : Int32) (a21 : Nat) (n20_1 : Int32) (f21 : Nat → Int32) (p0 : Int32) (p1 : Int32) (p2 : Int32) (hp_n13_1 : rg 0 8 n13_1) (hp_n20_1 : rg 0 8 n20_1) : Met l yX10_asked wsX10_asked ({ frames := 6, cells := 0, slots := 0, locals := 141 }) (va_Pc [.ref a0, .int p0, .int p1, .int p2] (roP G ct [(a0, .inr (10, [.ref a1, .ref a3, .ref a11, .ref a25, .ref a68, .ref a69, .ref a77, .ref a82, .ref a84, .ref a88, .ref a91])), (a11, .inr (4, [.ref a12, .ref a19, .ref a24, .int n11_3])), (a12, .inr (9, [.ref a13, .ref a15, .ref a16, .ref a17, .ref a18, .int n12_5, .int n12_6])), (a13, .inr (0, [.ref a14, .int n13_1])), (a16, .inl (ct 0, 8, .inl f16)), (a18, .inl (ct 0, 8, .inl f18)), (a19, .inr (2, [.ref a12, .ref a20, .ref a22, .ref a23, .int n19_4, .int n19_5, .int n19_6, .int n19_7])), (a20, .inr (0, [.ref a21, .int n20_1])), (a21, .inl (ct 0, 8, .inl f21))])) (roQ (fun r => (r = 0 → rg 0 7 p0) ∧ (r = (-1) → rg 0 7 p0) ∧ (¬ r = (-2) → rg 0 7 p0) ∧ (r = 0 → rg 0 5 p1) ∧ (r = (-1) → rg 0 5 p1) ∧ (¬ r = (-2) → rg 0 5 p1) ∧ (r = 0 → rg 0 7 p2) ∧ (r = 0 → rg 1 8 n20_1) ∧ (r = (-1) → rg 1 8 n20_1) ∧ (¬ r = (-2) → rg 1 8 n20_1) ∧ True)) 0 0 no := by
  refine Met.ofW (cc := cX10_asked) (maxL := 6) (ret := (some .int)) (by decide) rfl ?_
  intro p e s m args below meth c s₁ B hml hv
  obtain ⟨rfl, hP, hK⟩ := hv
  have hx := B.exec
  have hb := B.bytes
  have hr := B.returns
  have hts := atoms_spec (ws := wsX10_asked) B.pre
  have hown : s.vm.findClass RX10 = some m.cls := findClass_of_methodNamed B.named
  have hlocks := B.notSynchronized
  have hS : va_S no s.heap s.heap [] := va_S.rf
  have hl := lv_entry ([.ref a0, .int p0, .int p1, .int p2]) (n := 6) (Nat.le_of_ble_eq_true rfl)
  rw [lg_entry_eq]
  generalize (lg_sl ([.ref a0, .int p0, .int p1, .int p2]) ++ List.replicate (6 - (lg_sl ([.ref a0, .int p0, .int p1, .int p2])).length) Slot.unset).toArray = ls at hl ⊢
  have hl : lv_has ls 6 [(0, .ref a0), (1, .int p0), (2, .int p1), (3, .int p2)] := hl
  refine lv_aload_n hx hb dX10_asked_0 rfl (lv_at hl 0 rfl) ?_
  refine lv_iload_n hx hb dX10_asked_1 rfl (lv_at hl 1 rfl) ?_
  refine lv_iload_n hx hb dX10_asked_2 rfl (lv_at hl 2 rfl) ?_
  refine ro_calli (va_runV (As := [.int p0, .int p1]) (rest := []) ⟨hx, hb, hml, hown, hts⟩ (a_X10_doer l G ct a0 a1 a3 a11 a25 a68 a69 a77 a82 a84 a88 a91 a12 a19 a24 n11_3 a13 a15 a16 a17 a18 n12_5 n12_6 a14 n13_1 f16 f18 a20 a22 a23 n19_4 n19_5 n19_6 n19_7 a21 n20_1 f21 p0 p1 hp_n13_1 hp_n20_1) (cwV 2 hts gX10_asked_X10_doer rfl rfl rfl (by decide +kernel) ⟨Nat.le_of_ble_eq_true rfl, Nat.le_of_ble_eq_true rfl⟩) (ro_preV 10 0 hK (hP.sub [0, 1, 2, 3, 4, 5, 6, 7, 8] rfl) rfl rfl) rfl rfl hl.1 rfl (lv_room (Nat.le_of_ble_eq_true rfl)) dX10_asked_3 ⟨Nat.zero_le _, Nat.zero_le _⟩) hS hP (fun r3 H locs wr3 hP hS => ?_)
  obtain ⟨p_1, p_2, p_3, p_4, p_5, p_6, p_7, p_8, p_9, p_10, -⟩ := wr3
  refine lv_istore (lv' := [(4, .int r3), (0, .ref a0), (1, .int p0), (2, .int p1), (3, .int p2)]) hx hb dX10_asked_6 hl (by decide) rfl (fun ls hl => ?_)
  refine lv_iload hx hb dX10_asked_8 (lv_at hl 0 rfl) ?_
  refine lv_if_ge (tgt := 16) hx hb dX10_asked_10 (by decide) (fun c10 => ?_) (fun c10 => ?_)
  · have h_11 : rg 0 7 r3 := r_le_r_i c10 (rgn 0 (x := 0) (by decide)) p_1
    have h_12 : rg 0 7 p0 := (p_4 (rne h_11 (y := (-2)) (c := (-2)) (by decide) (by decide)))
    have h_13 : rg 0 5 p1 := (p_7 (rne h_11 (y := (-2)) (c := (-2)) (by decide) (by decide)))
    have h_14 : rg 1 8 n20_1 := (p_10 (rne h_11 (y := (-2)) (c := (-2)) (by decide) (by decide)))
    refine lv_aload_n hx hb dX10_asked_16 rfl (lv_at hl 1 rfl) ?_
    refine ro_callr (va_runV (As := []) (rest := []) ⟨hx, hb, hml, hown, hts⟩ (a_X10_bonds l G ct a0 a1 a3 a11 a25 a68 a69 a77 a82 a84 a88 a91 a12 a19 a24 n11_3 a20 a22 a23 n19_4 n19_5 n19_6 n19_7) (cwV 0 hts gX10_asked_X10_bonds rfl rfl rfl (by decide +kernel) ⟨Nat.le_of_ble_eq_true rfl, Nat.le_of_ble_eq_true rfl⟩) (ro_preV 10 0 hK (hP.sub [0, 1, 6] rfl) rfl rfl) rfl rfl hl.1 rfl (lv_room (Nat.le_of_ble_eq_true rfl)) dX10_asked_17 ⟨Nat.zero_le _, Nat.zero_le _⟩) hS hP (fun H locs hP hS => ?_)
    refine lv_iload_n hx hb dX10_asked_20 rfl (lv_at hl 2 rfl) ?_
    refine lv_iload hx hb dX10_asked_21 (lv_at hl 0 rfl) ?_
    refine ro_calli (va_runV (As := [.int p0, .int r3]) (rest := []) ⟨hx, hb, hml, hown, hts⟩ (a_X0_stepsTo l G ct a20 a21 n20_1 f21 p0 r3 (rg_w (c := 0) (d := 8) h_14 (by decide))) (cwV 2 hts gX10_asked_X0_stepsTo rfl rfl rfl (by decide +kernel) ⟨Nat.le_of_ble_eq_true rfl, Nat.le_of_ble_eq_true rfl⟩) (ro_preV 0 0 hK (hP.sub [7, 8] rfl) rfl rfl) rfl rfl hl.1 rfl (lv_room (Nat.le_of_ble_eq_true rfl)) dX10_asked_23 ⟨Nat.zero_le _, Nat.zero_le _⟩) hS hP (fun r23 H locs wr23 hP hS => ?_)
    obtain ⟨p_15, -⟩ := wr23
    refine lv_istore (lv' := [(5, .int r23), (4, .int r3), (0, .ref a0), (1, .int p0), (2, .int p1), (3, .int p2)]) hx hb dX10_asked_26 hl (by decide) rfl (fun ls hl => ?_)
    refine lv_iload_n hx hb dX10_asked_28 rfl (lv_at hl 5 rfl) ?_
    refine lv_if_lt (tgt := 38) hx hb dX10_asked_29 (by decide) (fun c29 => ?_) (fun c29 => ?_)
    · have h_16 : rg (-2147483648) (-1) p2 := r_lt_l_i c29 (rg_t p2) (rgn 0 (x := 0) (by decide)) (by decide)
      refine lv_iconst (v := (-1)) hx hb dX10_asked_38 (by decide) ?_
      exact W.iret (v := (-1)) hx hb hr (fun t ht hW => ⟨⟨(-1), (), rfl, ⟨(fun _ => h_12), (fun _ => h_12), (fun _ => h_12), (fun _ => h_13), (fun _ => h_13), (fun _ => h_13), (fun hq => absurd hq (rne (rgn (-1) (x := (-1)) (by decide)) (y := 0) (c := 0) (by decide) (by decide))), (fun _ => h_14), (fun _ => h_14), (fun _ => h_14), trivial⟩, trivial⟩, hS.F ht⟩) hS.2.2 dX10_asked_39
    · have h_17 : rg 0 2147483647 p2 := r_le_r_i (nlt_i c29) (rgn 0 (x := 0) (by decide)) (rg_t p2)
      refine lv_iload_n hx hb dX10_asked_32 rfl (lv_at hl 5 rfl) ?_
      refine lv_iload hx hb dX10_asked_33 (lv_at hl 0 rfl) ?_
      refine lv_icmp_lt (tgt := 40) hx hb dX10_asked_35 (by decide) (fun c35 => ?_) (fun c35 => ?_)
      · have h_18 : rg 0 7 p2 := r_lt_l_i c35 h_17 p_15 (by decide)
        have h_19 : rg 1 8 r23 := r_lt_r_i c35 h_17 p_15 (by decide)
        refine lv_aload_n hx hb dX10_asked_40 rfl (lv_at hl 2 rfl) ?_
        refine ro_callr (va_runV (As := []) (rest := []) ⟨hx, hb, hml, hown, hts⟩ (a_X10_bonds l G ct a0 a1 a3 a11 a25 a68 a69 a77 a82 a84 a88 a91 a12 a19 a24 n11_3 a20 a22 a23 n19_4 n19_5 n19_6 n19_7) (cwV 0 hts gX10_asked_X10_bonds rfl rfl rfl (by decide +kernel) ⟨Nat.le_of_ble_eq_true rfl, Nat.le_of_ble_eq_true rfl⟩) (ro_preV 10 0 hK (hP.sub [0, 1, 6] rfl) rfl rfl) rfl rfl hl.1 rfl (lv_room (Nat.le_of_ble_eq_true rfl)) dX10_asked_41 ⟨Nat.zero_le _, Nat.zero_le _⟩) hS hP (fun H locs hP hS => ?_)
        refine lv_iload hx hb dX10_asked_44 (lv_at hl 1 rfl) ?_
        refine lv_iload hx hb dX10_asked_46 (lv_at hl 0 rfl) ?_
        refine lv_iconst (v := 1) hx hb dX10_asked_48 (by decide) ?_
        refine lv_isub hx hb dX10_asked_49 ?_
        refine nm_sub (e1 := 0) (f := 7) h_19 (rgn 1 (x := 1) (by decide)) (by decide) (fun z49 hz49 ez49 => ?_)
        replace ez49 := eqc_s ez49 (c := (-1)) (by decide)
        refine lv_iload_n hx hb dX10_asked_50 rfl (lv_at hl 5 rfl) ?_
        refine lv_isub hx hb dX10_asked_51 ?_
        refine nm_sub (e1 := (-7)) (f := 7) hz49 h_18 (by decide) (fun z51 hz51 ez51 => ?_)
        refine ro_calli (va_runV (As := [.int r3, .int z51]) (rest := []) ⟨hx, hb, hml, hown, hts⟩ (a_X0_climb l G ct a20 a21 n20_1 f21 r3 z51 (rg_w (c := 0) (d := 8) h_14 (by decide))) (cwV 2 hts gX10_asked_X0_climb rfl rfl rfl (by decide +kernel) ⟨Nat.le_of_ble_eq_true rfl, Nat.le_of_ble_eq_true rfl⟩) (ro_preV 0 0 hK (hP.sub [7, 8] rfl) rfl rfl) rfl rfl hl.1 rfl (lv_room (Nat.le_of_ble_eq_true rfl)) dX10_asked_52 ⟨Nat.zero_le _, Nat.zero_le _⟩) hS hP (fun r52 H locs wr52 hP hS => ?_)
        exact W.iret (v := r52) hx hb hr (fun t ht hW => ⟨⟨r52, (), rfl, ⟨(fun _ => h_12), (fun _ => h_12), (fun _ => h_12), (fun _ => h_13), (fun _ => h_13), (fun _ => h_13), (fun _ => h_18), (fun _ => h_14), (fun _ => h_14), (fun _ => h_14), trivial⟩, trivial⟩, hS.F ht⟩) hS.2.2 dX10_asked_55
      · refine lv_iconst (v := (-1)) hx hb dX10_asked_38 (by decide) ?_
        exact W.iret (v := (-1)) hx hb hr (fun t ht hW => ⟨⟨(-1), (), rfl, ⟨(fun _ => h_12), (fun _ => h_12), (fun _ => h_12), (fun _ => h_13), (fun _ => h_13), (fun _ => h_13), (fun hq => absurd hq (rne (rgn (-1) (x := (-1)) (by decide)) (y := 0) (c := 0) (by decide) (by decide))), (fun _ => h_14), (fun _ => h_14), (fun _ => h_14), trivial⟩, trivial⟩, hS.F ht⟩) hS.2.2 dX10_asked_39
  · have h_20 : rg (-2) (-1) r3 := r_lt_l_i (nle_i c10) p_1 (rgn 0 (x := 0) (by decide)) (by decide)
    refine lv_iload hx hb dX10_asked_13 (lv_at hl 0 rfl) ?_
    exact W.iret (v := r3) hx hb hr (fun t ht hW => ⟨⟨r3, (), rfl, ⟨(fun hq => rg_w (p_2 hq) (by decide)), (fun hq => rg_w (p_3 hq) (by decide)), (fun hq => rg_w (p_4 hq) (by decide)), (fun hq => rg_w (p_5 hq) (by decide)), (fun hq => rg_w (p_6 hq) (by decide)), (fun hq => rg_w (p_7 hq) (by decide)), (fun hq => absurd hq (rne h_20 (y := 0) (c := 0) (by decide) (by decide))), (fun hq => rg_w (p_8 hq) (by decide)), (fun hq => rg_w (p_9 hq) (by decide)), (fun hq => rg_w (p_10 hq) (by decide)), trivial⟩, trivial⟩, hS.F ht⟩) hS.2.2 dX10_asked_15

set_option maxHeartbeats 4000000 in
set_option maxRecDepth 100000 in
theorem a_X10_can (l : Launch) (G : va_G) (ct : Nat → ClassId) (a0 : Nat) (a1 : Nat) (a3 : Nat) (a11 : Nat) (a25 : Nat) (a68 : Nat) (a69 : Nat) (a77 : Nat) (a82 : Nat) (a84 : Nat) (a88 : Nat) (a91 : Nat) (a12 : Nat) (a19 : Nat) (a24 : Nat) (n11_3 : Int32) (a13 : Nat) (a15 : Nat) (a16 : Nat) (a17 : Nat) (a18 : Nat) (n12_5 : Int32) (n12_6 : Int32) (a14 : Nat) (n13_1 : Int32) (f16 : Nat → Int32) (f17 : Nat → Int32) (a20 : Nat) (a22 : Nat) (a23 : Nat) (n19_4 : Int32) (n19_5 : Int32) (n19_6 : Int32) (n19_7 : Int32) (a21 : Nat) (n20_1 : Int32) (f21 : Nat → Int32) (p0 : Int32) (hp_n13_1 : rg 0 8 n13_1) (hp_n20_1 : rg 0 8 n20_1) : Met l yX10_can wsX10_can ({ frames := 4, cells := 0, slots := 0, locals := 89 }) (va_Pc [.ref a0, .int p0] (roP G ct [(a0, .inr (10, [.ref a1, .ref a3, .ref a11, .ref a25, .ref a68, .ref a69, .ref a77, .ref a82, .ref a84, .ref a88, .ref a91])), (a11, .inr (4, [.ref a12, .ref a19, .ref a24, .int n11_3])), (a12, .inr (9, [.ref a13, .ref a15, .ref a16, .ref a17, .ref a18, .int n12_5, .int n12_6])), (a13, .inr (0, [.ref a14, .int n13_1])), (a16, .inl (ct 0, 8, .inl f16)), (a17, .inl (ct 0, 8, .inl f17)), (a19, .inr (2, [.ref a12, .ref a20, .ref a22, .ref a23, .int n19_4, .int n19_5, .int n19_6, .int n19_7])), (a20, .inr (0, [.ref a21, .int n20_1])), (a21, .inl (ct 0, 8, .inl f21))])) (roQ (fun r => (r = 0 → rg 0 7 p0) ∧ (r = (-1) → rg 0 7 p0) ∧ (¬ r = (-2) → rg 0 7 p0) ∧ (r = 0 → rg 1 8 n20_1) ∧ (r = (-1) → rg 1 8 n20_1) ∧ (¬ r = (-2) → rg 1 8 n20_1) ∧ True)) 0 0 no := by
  refine Met.ofW (cc := cX10_can) (maxL := 2) (ret := (some .int)) (by decide) rfl ?_
  intro p e s m args below meth c s₁ B hml hv
  obtain ⟨rfl, hP, hK⟩ := hv
  have hx := B.exec
  have hb := B.bytes
  have hr := B.returns
  have hts := atoms_spec (ws := wsX10_can) B.pre
  have hown : s.vm.findClass RX10 = some m.cls := findClass_of_methodNamed B.named
  have hlocks := B.notSynchronized
  have hS : va_S no s.heap s.heap [] := va_S.rf
  have hl := lv_entry ([.ref a0, .int p0]) (n := 2) (Nat.le_of_ble_eq_true rfl)
  rw [lg_entry_eq]
  generalize (lg_sl ([.ref a0, .int p0]) ++ List.replicate (2 - (lg_sl ([.ref a0, .int p0])).length) Slot.unset).toArray = ls at hl ⊢
  have hl : lv_has ls 2 [(0, .ref a0), (1, .int p0)] := hl
  refine lv_aload_n hx hb dX10_can_0 rfl (lv_at hl 0 rfl) ?_
  refine lv_iload_n hx hb dX10_can_1 rfl (lv_at hl 1 rfl) ?_
  refine ro_calli (va_runV (As := [.int p0]) (rest := []) ⟨hx, hb, hml, hown, hts⟩ (a_X10_isPerson l G ct a0 a1 a3 a11 a25 a68 a69 a77 a82 a84 a88 a91 a12 a19 a24 n11_3 a20 a22 a23 n19_4 n19_5 n19_6 n19_7 a21 n20_1 p0 hp_n20_1) (cwV 1 hts gX10_can_X10_isPerson rfl rfl rfl (by decide +kernel) ⟨Nat.le_of_ble_eq_true rfl, Nat.le_of_ble_eq_true rfl⟩) (ro_preV 10 0 hK (hP.sub [0, 1, 6, 7] rfl) rfl rfl) rfl rfl hl.1 rfl (lv_room (Nat.le_of_ble_eq_true rfl)) dX10_can_2 ⟨Nat.zero_le _, Nat.zero_le _⟩) hS hP (fun r2 H locs wr2 hP hS => ?_)
  obtain ⟨p_1, p_2, p_3, -⟩ := wr2
  refine lv_if_ne (tgt := 11) hx hb dX10_can_5 (by decide) (fun c5 => ?_) (fun c5 => ?_)
  · have h_4 : rg 1 1 r2 := r_ne_lo_i c5 p_1 (by decide) (by decide)
    have h_5 : rg 0 7 p0 := (p_2 (rne h_4 (y := 0) (c := 0) (by decide) (by decide)))
    have h_6 : rg 1 8 n20_1 := (p_3 (rne h_4 (y := 0) (c := 0) (by decide) (by decide)))
    refine lv_aload_n hx hb dX10_can_11 rfl (lv_at hl 0 rfl) ?_
    refine va_get (D := G) (ci := 10) (v := .ref a11) (C := RX10) (T := TX10) (N := 11) hx hb hts (by decide +kernel) hown hK.1 hP 0 rfl rfl 2 (by decide) (hts (.fieldLink RX10 28 "CardHolder" "play" "LCardHolder$Play;") (by decide +kernel)) (fun _ h9 => h9) rfl dX10_can_12 ?_
    refine va_get (D := G) (ci := 4) (v := .ref a12) (C := RX4) (T := TX4) (N := 4) hx hb hts (by decide +kernel) hown hK.1 hP 1 rfl rfl 0 (by decide) (hts (.fieldLink RX10 49 "CardHolder$Play" "town" "LCardHolder$Town;") (by decide +kernel)) (fun _ h9 => h9) rfl dX10_can_15 ?_
    refine lv_iload_n hx hb dX10_can_18 rfl (lv_at hl 1 rfl) ?_
    refine ro_calli (va_runV (As := [.int p0]) (rest := []) ⟨hx, hb, hml, hown, hts⟩ (a_X9_wishesOf l G ct a12 a13 a15 a16 a17 a18 n12_5 n12_6 a14 n13_1 f17 p0 hp_n13_1) (cwV 1 hts gX10_can_X9_wishesOf rfl rfl rfl (by decide +kernel) ⟨Nat.le_of_ble_eq_true rfl, Nat.le_of_ble_eq_true rfl⟩) (ro_preV 9 0 hK (hP.sub [2, 3, 5] rfl) rfl rfl) rfl rfl hl.1 rfl (lv_room (Nat.le_of_ble_eq_true rfl)) dX10_can_19 ⟨Nat.zero_le _, Nat.zero_le _⟩) hS hP (fun r19 H locs wr19 hP hS => ?_)
    obtain ⟨p_7, p_8, p_9, p_10, -⟩ := wr19
    refine lv_aload_n hx hb dX10_can_22 rfl (lv_at hl 0 rfl) ?_
    refine va_get (D := G) (ci := 10) (v := .ref a11) (C := RX10) (T := TX10) (N := 11) hx hb hts (by decide +kernel) hown hK.1 hP 0 rfl rfl 2 (by decide) (hts (.fieldLink RX10 28 "CardHolder" "play" "LCardHolder$Play;") (by decide +kernel)) (fun _ h9 => h9) rfl dX10_can_23 ?_
    refine va_get (D := G) (ci := 4) (v := .ref a12) (C := RX4) (T := TX4) (N := 4) hx hb hts (by decide +kernel) hown hK.1 hP 1 rfl rfl 0 (by decide) (hts (.fieldLink RX10 49 "CardHolder$Play" "town" "LCardHolder$Town;") (by decide +kernel)) (fun _ h9 => h9) rfl dX10_can_26 ?_
    refine lv_aload_n hx hb dX10_can_29 rfl (lv_at hl 0 rfl) ?_
    refine ro_callr (va_runV (As := []) (rest := [.ref a12, .int r19]) ⟨hx, hb, hml, hown, hts⟩ (a_X10_bonds l G ct a0 a1 a3 a11 a25 a68 a69 a77 a82 a84 a88 a91 a12 a19 a24 n11_3 a20 a22 a23 n19_4 n19_5 n19_6 n19_7) (cwV 0 hts gX10_can_X10_bonds rfl rfl rfl (by decide +kernel) ⟨Nat.le_of_ble_eq_true rfl, Nat.le_of_ble_eq_true rfl⟩) (ro_preV 10 0 hK (hP.sub [0, 1, 6] rfl) rfl rfl) rfl rfl hl.1 rfl (lv_room (Nat.le_of_ble_eq_true rfl)) dX10_can_30 ⟨Nat.zero_le _, Nat.zero_le _⟩) hS hP (fun H locs hP hS => ?_)
    refine lv_iload_n hx hb dX10_can_33 rfl (lv_at hl 1 rfl) ?_
    refine ro_calli (va_runV (As := [.int p0]) (rest := [.ref a12, .int r19]) ⟨hx, hb, hml, hown, hts⟩ (a_X0_below l G ct a20 a21 n20_1 f21 p0 (rg_w (c := 0) (d := 8) h_6 (by decide))) (cwV 1 hts gX10_can_X0_below rfl rfl rfl (by decide +kernel) ⟨Nat.le_of_ble_eq_true rfl, Nat.le_of_ble_eq_true rfl⟩) (ro_preV 0 0 hK (hP.sub [7, 8] rfl) rfl rfl) rfl rfl hl.1 rfl (lv_room (Nat.le_of_ble_eq_true rfl)) dX10_can_34 ⟨Nat.zero_le _, Nat.zero_le _⟩) hS hP (fun r34 H locs wr34 hP hS => ?_)
    obtain ⟨p_11, -⟩ := wr34
    refine ro_calli (va_runV (As := [.int r34]) (rest := [.int r19]) ⟨hx, hb, hml, hown, hts⟩ (a_X9_deedsOfAll l G ct a12 a13 a15 a16 a17 a18 n12_5 n12_6 a14 n13_1 f16 r34 hp_n13_1) (cwV 1 hts gX10_can_X9_deedsOfAll rfl rfl rfl (by decide +kernel) ⟨Nat.le_of_ble_eq_true rfl, Nat.le_of_ble_eq_true rfl⟩) (ro_preV 9 0 hK (hP.sub [2, 3, 4] rfl) rfl rfl) rfl rfl hl.1 rfl (lv_room (Nat.le_of_ble_eq_true rfl)) dX10_can_37 ⟨Nat.zero_le _, Nat.zero_le _⟩) hS hP (fun r37 H locs wr37 hP hS => ?_)
    refine lv_iand hx hb dX10_can_40 ?_
    refine nm_0 (fun z40 => ?_)
    exact W.iret (v := z40) hx hb hr (fun t ht hW => ⟨⟨z40, (), rfl, ⟨(fun _ => h_5), (fun _ => h_5), (fun _ => h_5), (fun _ => h_6), (fun _ => h_6), (fun _ => h_6), trivial⟩, trivial⟩, hS.F ht⟩) hS.2.2 dX10_can_41
  · have h_12 : rg 0 0 r2 := r_eq_l_i (e := 0) (f := 0) c5 p_1 (rgn 0 (x := 0) (by decide)) (by decide)
    refine lv_bipush (v := (-2)) hx hb dX10_can_8 (by decide) ?_
    exact W.iret (v := (-2)) hx hb hr (fun t ht hW => ⟨⟨(-2), (), rfl, ⟨(fun hq => absurd hq (rne (rgn (-2) (x := (-2)) (by decide)) (y := 0) (c := 0) (by decide) (by decide))), (fun hq => absurd hq (rne (rgn (-2) (x := (-2)) (by decide)) (y := (-1)) (c := (-1)) (by decide) (by decide))), (fun hq => absurd (req (rgn (-2) (x := (-2)) (by decide)) (y := (-2)) (by decide)) hq), (fun hq => absurd hq (rne (rgn (-2) (x := (-2)) (by decide)) (y := 0) (c := 0) (by decide) (by decide))), (fun hq => absurd hq (rne (rgn (-2) (x := (-2)) (by decide)) (y := (-1)) (c := (-1)) (by decide) (by decide))), (fun hq => absurd (req (rgn (-2) (x := (-2)) (by decide)) (y := (-2)) (by decide)) hq), trivial⟩, trivial⟩, hS.F ht⟩) hS.2.2 dX10_can_10

set_option maxHeartbeats 4000000 in
set_option maxRecDepth 100000 in
theorem a_X10_why (l : Launch) (G : va_G) (ct : Nat → ClassId) (a0 : Nat) (a1 : Nat) (a3 : Nat) (a11 : Nat) (a25 : Nat) (a68 : Nat) (a69 : Nat) (a77 : Nat) (a82 : Nat) (a84 : Nat) (a88 : Nat) (a91 : Nat) (a12 : Nat) (a19 : Nat) (a24 : Nat) (n11_3 : Int32) (a13 : Nat) (a15 : Nat) (a16 : Nat) (a17 : Nat) (a18 : Nat) (n12_5 : Int32) (n12_6 : Int32) (a14 : Nat) (n13_1 : Int32) (f16 : Nat → Int32) (a20 : Nat) (a22 : Nat) (a23 : Nat) (n19_4 : Int32) (n19_5 : Int32) (n19_6 : Int32) (n19_7 : Int32) (a21 : Nat) (n20_1 : Int32) (f21 : Nat → Int32) (p0 : Int32) (p1 : Int32) (p2 : Int32) (hp_n13_1 : rg 0 8 n13_1) (hp_n20_1 : rg 0 8 n20_1) : Met l yX10_why wsX10_why ({ frames := 4, cells := 0, slots := 0, locals := 88 }) (va_Pc [.ref a0, .int p0, .int p1, .int p2] (roP G ct [(a0, .inr (10, [.ref a1, .ref a3, .ref a11, .ref a25, .ref a68, .ref a69, .ref a77, .ref a82, .ref a84, .ref a88, .ref a91])), (a11, .inr (4, [.ref a12, .ref a19, .ref a24, .int n11_3])), (a12, .inr (9, [.ref a13, .ref a15, .ref a16, .ref a17, .ref a18, .int n12_5, .int n12_6])), (a13, .inr (0, [.ref a14, .int n13_1])), (a16, .inl (ct 0, 8, .inl f16)), (a19, .inr (2, [.ref a12, .ref a20, .ref a22, .ref a23, .int n19_4, .int n19_5, .int n19_6, .int n19_7])), (a20, .inr (0, [.ref a21, .int n20_1])), (a21, .inl (ct 0, 8, .inl f21))])) (roQ (fun r => rg (-2) 3 r ∧ (r = 0 → rg 0 7 p0) ∧ (¬ r = (-2) → rg 0 7 p0) ∧ (r = 0 → rg 0 7 p1) ∧ (¬ r = (-2) → rg 0 7 p1) ∧ (r = 0 → rg 0 5 p2) ∧ (¬ r = (-2) → rg 0 5 p2) ∧ (r = 0 → rg 1 8 n20_1) ∧ (¬ r = (-2) → rg 1 8 n20_1) ∧ True)) 0 0 no := by
  refine Met.ofW (cc := cX10_why) (maxL := 4) (ret := (some .int)) (by decide) rfl ?_
  intro p e s m args below meth c s₁ B hml hv
  obtain ⟨rfl, hP, hK⟩ := hv
  have hx := B.exec
  have hb := B.bytes
  have hr := B.returns
  have hts := atoms_spec (ws := wsX10_why) B.pre
  have hown : s.vm.findClass RX10 = some m.cls := findClass_of_methodNamed B.named
  have hlocks := B.notSynchronized
  have hS : va_S no s.heap s.heap [] := va_S.rf
  have hl := lv_entry ([.ref a0, .int p0, .int p1, .int p2]) (n := 4) (Nat.le_of_ble_eq_true rfl)
  rw [lg_entry_eq]
  generalize (lg_sl ([.ref a0, .int p0, .int p1, .int p2]) ++ List.replicate (4 - (lg_sl ([.ref a0, .int p0, .int p1, .int p2])).length) Slot.unset).toArray = ls at hl ⊢
  have hl : lv_has ls 4 [(0, .ref a0), (1, .int p0), (2, .int p1), (3, .int p2)] := hl
  refine lv_aload_n hx hb dX10_why_0 rfl (lv_at hl 0 rfl) ?_
  refine lv_iload_n hx hb dX10_why_1 rfl (lv_at hl 1 rfl) ?_
  refine ro_calli (va_runV (As := [.int p0]) (rest := []) ⟨hx, hb, hml, hown, hts⟩ (a_X10_isPerson l G ct a0 a1 a3 a11 a25 a68 a69 a77 a82 a84 a88 a91 a12 a19 a24 n11_3 a20 a22 a23 n19_4 n19_5 n19_6 n19_7 a21 n20_1 p0 hp_n20_1) (cwV 1 hts gX10_why_X10_isPerson rfl rfl rfl (by decide +kernel) ⟨Nat.le_of_ble_eq_true rfl, Nat.le_of_ble_eq_true rfl⟩) (ro_preV 10 0 hK (hP.sub [0, 1, 5, 6] rfl) rfl rfl) rfl rfl hl.1 rfl (lv_room (Nat.le_of_ble_eq_true rfl)) dX10_why_2 ⟨Nat.zero_le _, Nat.zero_le _⟩) hS hP (fun r2 H locs wr2 hP hS => ?_)
  obtain ⟨p_1, p_2, p_3, -⟩ := wr2
  refine lv_if_eq (tgt := 23) hx hb dX10_why_5 (by decide) (fun c5 => ?_) (fun c5 => ?_)
  · have h_4 : rg 0 0 r2 := r_eq_l_i (e := 0) (f := 0) c5 p_1 (rgn 0 (x := 0) (by decide)) (by decide)
    refine lv_bipush (v := (-2)) hx hb dX10_why_23 (by decide) ?_
    exact W.iret (v := (-2)) hx hb hr (fun t ht hW => ⟨⟨(-2), (), rfl, ⟨(rg_w (c := (-2)) (d := 3) (rgn (-2) (x := (-2)) (by decide)) (by decide)), (fun hq => absurd hq (rne (rgn (-2) (x := (-2)) (by decide)) (y := 0) (c := 0) (by decide) (by decide))), (fun hq => absurd (req (rgn (-2) (x := (-2)) (by decide)) (y := (-2)) (by decide)) hq), (fun hq => absurd hq (rne (rgn (-2) (x := (-2)) (by decide)) (y := 0) (c := 0) (by decide) (by decide))), (fun hq => absurd (req (rgn (-2) (x := (-2)) (by decide)) (y := (-2)) (by decide)) hq), (fun hq => absurd hq (rne (rgn (-2) (x := (-2)) (by decide)) (y := 0) (c := 0) (by decide) (by decide))), (fun hq => absurd (req (rgn (-2) (x := (-2)) (by decide)) (y := (-2)) (by decide)) hq), (fun hq => absurd hq (rne (rgn (-2) (x := (-2)) (by decide)) (y := 0) (c := 0) (by decide) (by decide))), (fun hq => absurd (req (rgn (-2) (x := (-2)) (by decide)) (y := (-2)) (by decide)) hq), trivial⟩, trivial⟩, hS.F ht⟩) hS.2.2 dX10_why_25
  · have h_5 : rg 1 1 r2 := r_ne_lo_i c5 p_1 (by decide) (by decide)
    have h_6 : rg 0 7 p0 := (p_2 (rne h_5 (y := 0) (c := 0) (by decide) (by decide)))
    have h_7 : rg 1 8 n20_1 := (p_3 (rne h_5 (y := 0) (c := 0) (by decide) (by decide)))
    refine lv_aload_n hx hb dX10_why_8 rfl (lv_at hl 0 rfl) ?_
    refine lv_iload_n hx hb dX10_why_9 rfl (lv_at hl 2 rfl) ?_
    refine ro_calli (va_runV (As := [.int p1]) (rest := []) ⟨hx, hb, hml, hown, hts⟩ (a_X10_isPerson l G ct a0 a1 a3 a11 a25 a68 a69 a77 a82 a84 a88 a91 a12 a19 a24 n11_3 a20 a22 a23 n19_4 n19_5 n19_6 n19_7 a21 n20_1 p1 (rg_w (c := 0) (d := 8) h_7 (by decide))) (cwV 1 hts gX10_why_X10_isPerson rfl rfl rfl (by decide +kernel) ⟨Nat.le_of_ble_eq_true rfl, Nat.le_of_ble_eq_true rfl⟩) (ro_preV 10 0 hK (hP.sub [0, 1, 5, 6] rfl) rfl rfl) rfl rfl hl.1 rfl (lv_room (Nat.le_of_ble_eq_true rfl)) dX10_why_10 ⟨Nat.zero_le _, Nat.zero_le _⟩) hS hP (fun r10 H locs wr10 hP hS => ?_)
    obtain ⟨p_8, p_9, p_10, -⟩ := wr10
    refine lv_if_eq (tgt := 23) hx hb dX10_why_13 (by decide) (fun c13 => ?_) (fun c13 => ?_)
    · have h_11 : rg 0 0 r10 := r_eq_l_i (e := 0) (f := 0) c13 p_8 (rgn 0 (x := 0) (by decide)) (by decide)
      refine lv_bipush (v := (-2)) hx hb dX10_why_23 (by decide) ?_
      exact W.iret (v := (-2)) hx hb hr (fun t ht hW => ⟨⟨(-2), (), rfl, ⟨(rg_w (c := (-2)) (d := 3) (rgn (-2) (x := (-2)) (by decide)) (by decide)), (fun _ => h_6), (fun _ => h_6), (fun hq => absurd hq (rne (rgn (-2) (x := (-2)) (by decide)) (y := 0) (c := 0) (by decide) (by decide))), (fun hq => absurd (req (rgn (-2) (x := (-2)) (by decide)) (y := (-2)) (by decide)) hq), (fun hq => absurd hq (rne (rgn (-2) (x := (-2)) (by decide)) (y := 0) (c := 0) (by decide) (by decide))), (fun hq => absurd (req (rgn (-2) (x := (-2)) (by decide)) (y := (-2)) (by decide)) hq), (fun _ => h_7), (fun _ => h_7), trivial⟩, trivial⟩, hS.F ht⟩) hS.2.2 dX10_why_25
    · have h_12 : rg 1 1 r10 := r_ne_lo_i c13 p_8 (by decide) (by decide)
      have h_13 : rg 0 7 p1 := (p_9 (rne h_12 (y := 0) (c := 0) (by decide) (by decide)))
      refine lv_iload_n hx hb dX10_why_16 rfl (lv_at hl 3 rfl) ?_
      refine ro_calli (va_runS (As := [.int p2]) (rest := []) ⟨hx, hb, hml, hown, hts⟩ (a_X10_isDeed l G ct p2) (va_cwS 1 hts gX10_why_X10_isDeed rfl rfl rfl (by decide +kernel) ⟨Nat.le_of_ble_eq_true rfl, Nat.le_of_ble_eq_true rfl⟩) (ro_pre hK (hP.sub [] rfl)) rfl rfl hl.1 rfl (lv_room (Nat.le_of_ble_eq_true rfl)) dX10_why_17 ⟨Nat.zero_le _, Nat.zero_le _⟩) hS hP (fun r17 H locs wr17 hP hS => ?_)
      obtain ⟨p_14, p_15, -⟩ := wr17
      refine lv_if_ne (tgt := 26) hx hb dX10_why_20 (by decide) (fun c20 => ?_) (fun c20 => ?_)
      · have h_16 : rg 1 1 r17 := r_ne_lo_i c20 p_14 (by decide) (by decide)
        have h_17 : rg 0 5 p2 := (p_15 (rne h_16 (y := 0) (c := 0) (by decide) (by decide)))
        refine lv_aload_n hx hb dX10_why_26 rfl (lv_at hl 0 rfl) ?_
        refine va_get (D := G) (ci := 10) (v := .ref a11) (C := RX10) (T := TX10) (N := 11) hx hb hts (by decide +kernel) hown hK.1 hP 0 rfl rfl 2 (by decide) (hts (.fieldLink RX10 28 "CardHolder" "play" "LCardHolder$Play;") (by decide +kernel)) (fun _ h9 => h9) rfl dX10_why_27 ?_
        refine va_get (D := G) (ci := 4) (v := .ref a19) (C := RX4) (T := TX4) (N := 4) hx hb hts (by decide +kernel) hown hK.1 hP 1 rfl rfl 1 (by decide) (hts (.fieldLink RX10 147 "CardHolder$Play" "hands" "LCardHolder$Hands;") (by decide +kernel)) (fun _ h9 => h9) rfl dX10_why_30 ?_
        refine lv_iload_n hx hb dX10_why_33 rfl (lv_at hl 1 rfl) ?_
        refine lv_iload_n hx hb dX10_why_34 rfl (lv_at hl 2 rfl) ?_
        refine lv_iload_n hx hb dX10_why_35 rfl (lv_at hl 3 rfl) ?_
        refine ro_calli (va_runV (As := [.int p0, .int p1, .int p2]) (rest := []) ⟨hx, hb, hml, hown, hts⟩ (a_X2_refusal l G ct a12 a13 a15 a16 a17 a18 n12_5 n12_6 a14 n13_1 f16 a19 a20 a22 a23 n19_4 n19_5 n19_6 n19_7 a21 n20_1 f21 p0 p1 p2 hp_n13_1 (rg_w (c := 0) (d := 8) h_7 (by decide))) (cwV 3 hts gX10_why_X2_refusal rfl rfl rfl (by decide +kernel) ⟨Nat.le_of_ble_eq_true rfl, Nat.le_of_ble_eq_true rfl⟩) (ro_preV 2 3 hK (hP.sub [2, 3, 4, 5, 6, 7] rfl) rfl rfl) rfl rfl hl.1 rfl (lv_room (Nat.le_of_ble_eq_true rfl)) dX10_why_36 ⟨Nat.zero_le _, Nat.zero_le _⟩) hS hP (fun r36 H locs wr36 hP hS => ?_)
        obtain ⟨p_18, -⟩ := wr36
        exact W.iret (v := r36) hx hb hr (fun t ht hW => ⟨⟨r36, (), rfl, ⟨(rg_w (c := (-2)) (d := 3) p_18 (by decide)), (fun _ => h_6), (fun _ => h_6), (fun _ => h_13), (fun _ => h_13), (fun _ => h_17), (fun _ => h_17), (fun _ => h_7), (fun _ => h_7), trivial⟩, trivial⟩, hS.F ht⟩) hS.2.2 dX10_why_39
      · have h_19 : rg 0 0 r17 := r_eq_l_i (e := 0) (f := 0) c20 p_14 (rgn 0 (x := 0) (by decide)) (by decide)
        refine lv_bipush (v := (-2)) hx hb dX10_why_23 (by decide) ?_
        exact W.iret (v := (-2)) hx hb hr (fun t ht hW => ⟨⟨(-2), (), rfl, ⟨(rg_w (c := (-2)) (d := 3) (rgn (-2) (x := (-2)) (by decide)) (by decide)), (fun _ => h_6), (fun _ => h_6), (fun _ => h_13), (fun _ => h_13), (fun hq => absurd hq (rne (rgn (-2) (x := (-2)) (by decide)) (y := 0) (c := 0) (by decide) (by decide))), (fun hq => absurd (req (rgn (-2) (x := (-2)) (by decide)) (y := (-2)) (by decide)) hq), (fun _ => h_7), (fun _ => h_7), trivial⟩, trivial⟩, hS.F ht⟩) hS.2.2 dX10_why_25

set_option maxHeartbeats 4000000 in
set_option maxRecDepth 100000 in
theorem a_X10_ask (l : Launch) (G : va_G) (ct : Nat → ClassId) (a0 : Nat) (a1 : Nat) (a3 : Nat) (a11 : Nat) (a25 : Nat) (a68 : Nat) (a69 : Nat) (a77 : Nat) (a82 : Nat) (a84 : Nat) (a88 : Nat) (a91 : Nat) (a12 : Nat) (a19 : Nat) (a24 : Nat) (n11_3 : Int32) (a13 : Nat) (a15 : Nat) (a16 : Nat) (a17 : Nat) (a18 : Nat) (n12_5 : Int32) (n12_6 : Int32) (a14 : Nat) (n13_1 : Int32) (f16 : Nat → Int32) (f18 : Nat → Int32) (a20 : Nat) (a22 : Nat) (a23 : Nat) (n19_4 : Int32) (n19_5 : Int32) (n19_6 : Int32) (n19_7 : Int32) (a21 : Nat) (n20_1 : Int32) (f21 : Nat → Int32) (f22 : Nat → Int32) (f23 : Nat → Int32) (f24 : Nat → Int32) (p0 : Int32) (p1 : Int32) (p2 : Int32) (hp_n13_1 : rg 0 8 n13_1) (hp_n20_1 : rg 0 8 n20_1) : Met l yX10_ask wsX10_ask ({ frames := 5, cells := 0, slots := 0, locals := 114 }) (va_Pc [.ref a0, .int p0, .int p1, .int p2] (wrP G ct [(a0, .inr (10, [.ref a1, .ref a3, .ref a11, .ref a25, .ref a68, .ref a69, .ref a77, .ref a82, .ref a84, .ref a88, .ref a91])), (a11, .inr (4, [.ref a12, .ref a19, .ref a24, .int n11_3])), (a12, .inr (9, [.ref a13, .ref a15, .ref a16, .ref a17, .ref a18, .int n12_5, .int n12_6])), (a13, .inr (0, [.ref a14, .int n13_1])), (a16, .inl (ct 0, 8, .inl f16)), (a18, .inl (ct 0, 8, .inl f18)), (a19, .inr (2, [.ref a12, .ref a20, .ref a22, .ref a23, .int n19_4, .int n19_5, .int n19_6, .int n19_7])), (a20, .inr (0, [.ref a21, .int n20_1])), (a21, .inl (ct 0, 8, .inl f21)), (a22, .inl (ct 0, 8, .inl f22)), (a23, .inl (ct 0, 8, .inl f23)), (a24, .inl (ct 0, 40, .inl f24))])) (va_Qi (fun (r : Int32) (u : SU) => (r = 0 → rg 0 7 p0) ∧ (r = (-1) → rg 0 7 p0) ∧ (¬ r = (-2) → rg 0 7 p0) ∧ (r = 0 → rg 0 7 p1) ∧ (r = (-1) → rg 0 7 p1) ∧ (¬ r = (-2) → rg 0 7 p1) ∧ (r = 0 → rg 0 5 p2) ∧ (r = (-1) → rg 0 5 p2) ∧ (¬ r = (-2) → rg 0 5 p2) ∧ (r = 0 → rg 1 8 n20_1) ∧ (r = (-1) → rg 1 8 n20_1) ∧ (¬ r = (-2) → rg 1 8 n20_1) ∧ True) (fun u t => va_P G vwCl ((fun u : SU => [(a0, .inr (10, [.ref a1, .ref a3, .ref a11, .ref a25, .ref a68, .ref a69, .ref a77, .ref a82, .ref a84, .ref a88, .ref a91])), (a11, .inr (4, [.ref a12, .ref a19, .ref a24, .int (u.1 0)])), (a12, .inr (9, [.ref a13, .ref a15, .ref a16, .ref a17, .ref a18, .int n12_5, .int n12_6])), (a13, .inr (0, [.ref a14, .int n13_1])), (a16, .inl (ct 0, 8, .inl f16)), (a18, .inl (ct 0, 8, .inl f18)), (a19, .inr (2, [.ref a12, .ref a20, .ref a22, .ref a23, .int (u.1 1), .int (u.1 2), .int (u.1 3), .int (u.1 4)])), (a20, .inr (0, [.ref a21, .int n20_1])), (a21, .inl (ct 0, 8, .inl (u.2.1 0))), (a22, .inl (ct 0, 8, .inl (u.2.1 1))), (a23, .inl (ct 0, 8, .inl (u.2.1 2))), (a24, .inl (ct 0, 40, .inl (u.2.1 3)))]) u) t.heap) (aset [(a0, .inr (10, [.ref a1, .ref a3, .ref a11, .ref a25, .ref a68, .ref a69, .ref a77, .ref a82, .ref a84, .ref a88, .ref a91])), (a11, .inr (4, [.ref a12, .ref a19, .ref a24, .int n11_3])), (a12, .inr (9, [.ref a13, .ref a15, .ref a16, .ref a17, .ref a18, .int n12_5, .int n12_6])), (a13, .inr (0, [.ref a14, .int n13_1])), (a16, .inl (ct 0, 8, .inl f16)), (a18, .inl (ct 0, 8, .inl f18)), (a19, .inr (2, [.ref a12, .ref a20, .ref a22, .ref a23, .int n19_4, .int n19_5, .int n19_6, .int n19_7])), (a20, .inr (0, [.ref a21, .int n20_1])), (a21, .inl (ct 0, 8, .inl f21)), (a22, .inl (ct 0, 8, .inl f22)), (a23, .inl (ct 0, 8, .inl f23)), (a24, .inl (ct 0, 40, .inl f24))])) 0 0 (aset [(a0, .inr (10, [.ref a1, .ref a3, .ref a11, .ref a25, .ref a68, .ref a69, .ref a77, .ref a82, .ref a84, .ref a88, .ref a91])), (a11, .inr (4, [.ref a12, .ref a19, .ref a24, .int n11_3])), (a12, .inr (9, [.ref a13, .ref a15, .ref a16, .ref a17, .ref a18, .int n12_5, .int n12_6])), (a13, .inr (0, [.ref a14, .int n13_1])), (a16, .inl (ct 0, 8, .inl f16)), (a18, .inl (ct 0, 8, .inl f18)), (a19, .inr (2, [.ref a12, .ref a20, .ref a22, .ref a23, .int n19_4, .int n19_5, .int n19_6, .int n19_7])), (a20, .inr (0, [.ref a21, .int n20_1])), (a21, .inl (ct 0, 8, .inl f21)), (a22, .inl (ct 0, 8, .inl f22)), (a23, .inl (ct 0, 8, .inl f23)), (a24, .inl (ct 0, 40, .inl f24))]) := by
  refine Met.ofW (cc := cX10_ask) (maxL := 5) (ret := (some .int)) (by decide) rfl ?_
  intro p e s m args below meth c s₁ B hml hv
  obtain ⟨rfl, hP, hK, hD0⟩ := hv
  have hx := B.exec
  have hb := B.bytes
  have hr := B.returns
  have hts := atoms_spec (ws := wsX10_ask) B.pre
  have hown : s.vm.findClass RX10 = some m.cls := findClass_of_methodNamed B.named
  have hlocks := B.notSynchronized
  have hD := hD0.aself
  generalize hAe : aset [(a0, .inr (10, [.ref a1, .ref a3, .ref a11, .ref a25, .ref a68, .ref a69, .ref a77, .ref a82, .ref a84, .ref a88, .ref a91])), (a11, .inr (4, [.ref a12, .ref a19, .ref a24, .int n11_3])), (a12, .inr (9, [.ref a13, .ref a15, .ref a16, .ref a17, .ref a18, .int n12_5, .int n12_6])), (a13, .inr (0, [.ref a14, .int n13_1])), (a16, .inl (ct 0, 8, .inl f16)), (a18, .inl (ct 0, 8, .inl f18)), (a19, .inr (2, [.ref a12, .ref a20, .ref a22, .ref a23, .int n19_4, .int n19_5, .int n19_6, .int n19_7])), (a20, .inr (0, [.ref a21, .int n20_1])), (a21, .inl (ct 0, 8, .inl f21)), (a22, .inl (ct 0, 8, .inl f22)), (a23, .inl (ct 0, 8, .inl f23)), (a24, .inl (ct 0, 40, .inl f24))] = A at hD ⊢
  have hS : va_S A s.heap s.heap [] := va_S.rf
  have hl := lv_entry ([.ref a0, .int p0, .int p1, .int p2]) (n := 5) (Nat.le_of_ble_eq_true rfl)
  rw [lg_entry_eq]
  generalize (lg_sl ([.ref a0, .int p0, .int p1, .int p2]) ++ List.replicate (5 - (lg_sl ([.ref a0, .int p0, .int p1, .int p2])).length) Slot.unset).toArray = ls at hl ⊢
  have hl : lv_has ls 5 [(0, .ref a0), (1, .int p0), (2, .int p1), (3, .int p2)] := hl
  refine lv_aload_n hx hb dX10_ask_0 rfl (lv_at hl 0 rfl) ?_
  refine lv_iload_n hx hb dX10_ask_1 rfl (lv_at hl 1 rfl) ?_
  refine lv_iload_n hx hb dX10_ask_2 rfl (lv_at hl 2 rfl) ?_
  refine lv_iload_n hx hb dX10_ask_3 rfl (lv_at hl 3 rfl) ?_
  refine ro_calli (va_runV (As := [.int p0, .int p1, .int p2]) (rest := []) ⟨hx, hb, hml, hown, hts⟩ (a_X10_why l G ct a0 a1 a3 a11 a25 a68 a69 a77 a82 a84 a88 a91 a12 a19 a24 n11_3 a13 a15 a16 a17 a18 n12_5 n12_6 a14 n13_1 f16 a20 a22 a23 n19_4 n19_5 n19_6 n19_7 a21 n20_1 f21 p0 p1 p2 hp_n13_1 hp_n20_1) (cwV 3 hts gX10_ask_X10_why rfl rfl rfl (by decide +kernel) ⟨Nat.le_of_ble_eq_true rfl, Nat.le_of_ble_eq_true rfl⟩) (ro_preV 10 0 hK (hP.sub [0, 1, 2, 3, 4, 6, 7, 8] rfl) rfl rfl) rfl rfl hl.1 rfl (lv_room (Nat.le_of_ble_eq_true rfl)) dX10_ask_4 ⟨Nat.zero_le _, Nat.zero_le _⟩) hS hP (fun r4 H locs wr4 hP hS => ?_)
  obtain ⟨p_1, p_2, p_3, p_4, p_5, p_6, p_7, p_8, p_9, -⟩ := wr4
  refine lv_istore (lv' := [(4, .int r4), (0, .ref a0), (1, .int p0), (2, .int p1), (3, .int p2)]) hx hb dX10_ask_7 hl (by decide) rfl (fun ls hl => ?_)
  refine lv_iload hx hb dX10_ask_9 (lv_at hl 0 rfl) ?_
  refine lv_bipush (v := (-2)) hx hb dX10_ask_11 (by decide) ?_
  refine lv_icmp_ne (tgt := 19) hx hb dX10_ask_13 (by decide) (fun c13 => ?_) (fun c13 => ?_)
  · have h_10 : rg (-1) 3 r4 := r_ne_lo_i c13 p_1 (by decide) (by decide)
    have h_11 : rg 0 7 p0 := (p_3 (rne h_10 (y := (-2)) (c := (-2)) (by decide) (by decide)))
    have h_12 : rg 0 7 p1 := (p_5 (rne h_10 (y := (-2)) (c := (-2)) (by decide) (by decide)))
    have h_13 : rg 0 5 p2 := (p_7 (rne h_10 (y := (-2)) (c := (-2)) (by decide) (by decide)))
    have h_14 : rg 1 8 n20_1 := (p_9 (rne h_10 (y := (-2)) (c := (-2)) (by decide) (by decide)))
    refine lv_iload hx hb dX10_ask_19 (lv_at hl 0 rfl) ?_
    refine lv_if_ne (tgt := 34) hx hb dX10_ask_21 (by decide) (fun c21 => ?_) (fun c21 => ?_)
    · refine lv_bipush (v := (-5)) hx hb dX10_ask_34 (by decide) ?_
      exact W.iret (v := (-5)) hx hb hr (fun t ht hW => ⟨⟨(-5), (fun k => ([n11_3, n19_4, n19_5, n19_6, n19_7] : List Int32).getD k 0, fun k => ([f21, f22, f23, f24] : List (Nat → Int32)).getD k (fun _ => 0), fun k => ([] : List (Nat → Int64)).getD k (fun _ => 0)), rfl, ⟨(fun _ => h_11), (fun _ => h_11), (fun _ => h_11), (fun _ => h_12), (fun _ => h_12), (fun _ => h_12), (fun _ => h_13), (fun _ => h_13), (fun _ => h_13), (fun _ => h_14), (fun _ => h_14), (fun _ => h_14), trivial⟩, hp_at ht hP⟩, hS.F ht⟩) hS.2.2 dX10_ask_36
    · have h_15 : rg 0 0 r4 := r_eq_l_i (e := 0) (f := 0) c21 h_10 (rgn 0 (x := 0) (by decide)) (by decide)
      refine lv_aload_n hx hb dX10_ask_24 rfl (lv_at hl 1 rfl) ?_
      refine va_get (D := G) (ci := 10) (v := .ref a11) (C := RX10) (T := TX10) (N := 11) hx hb hts (by decide +kernel) hown hK.1 hP 0 rfl rfl 2 (by decide) (hts (.fieldLink RX10 28 "CardHolder" "play" "LCardHolder$Play;") (by decide +kernel)) (fun _ h9 => h9) rfl dX10_ask_25 ?_
      refine ro_calli (va_runV (As := []) (rest := []) ⟨hx, hb, hml, hown, hts⟩ (a_X4_hasRoom l G ct a11 a12 a19 a24 n11_3) (cwV 0 hts gX10_ask_X4_hasRoom rfl rfl rfl (by decide +kernel) ⟨Nat.le_of_ble_eq_true rfl, Nat.le_of_ble_eq_true rfl⟩) (ro_preV 4 0 hK (hP.sub [1] rfl) rfl rfl) rfl rfl hl.1 rfl (lv_room (Nat.le_of_ble_eq_true rfl)) dX10_ask_28 ⟨Nat.zero_le _, Nat.zero_le _⟩) hS hP (fun r28 H locs wr28 hP hS => ?_)
      obtain ⟨p_16, p_17, p_18, -⟩ := wr28
      refine lv_if_ne (tgt := 37) hx hb dX10_ask_31 (by decide) (fun c31 => ?_) (fun c31 => ?_)
      · have h_19 : rg 1 1 r28 := r_ne_lo_i c31 p_16 (by decide) (by decide)
        have h_20 : rg (-2147483648) 39 n11_3 := (p_17 (rne h_19 (y := 0) (c := 0) (by decide) (by decide)))
        refine lv_aload_n hx hb dX10_ask_37 rfl (lv_at hl 1 rfl) ?_
        refine va_get (D := G) (ci := 10) (v := .ref a11) (C := RX10) (T := TX10) (N := 11) hx hb hts (by decide +kernel) hown hK.1 hP 0 rfl rfl 2 (by decide) (hts (.fieldLink RX10 28 "CardHolder" "play" "LCardHolder$Play;") (by decide +kernel)) (fun _ h9 => h9) rfl dX10_ask_38 ?_
        refine lv_iconst (v := 0) hx hb dX10_ask_41 (by decide) ?_
        refine lv_iload_n hx hb dX10_ask_42 rfl (lv_at hl 2 rfl) ?_
        refine lv_iload_n hx hb dX10_ask_43 rfl (lv_at hl 3 rfl) ?_
        refine lv_iconst (v := 0) hx hb dX10_ask_44 (by decide) ?_
        refine lv_iconst (v := 0) hx hb dX10_ask_45 (by decide) ?_
        refine wj_callv (wr := [(a0, .inr (10, [.ref a1, .ref a3, .ref a11, .ref a25, .ref a68, .ref a69, .ref a77, .ref a82, .ref a84, .ref a88, .ref a91])), (a16, .inl (ct 0, 8, .inl f16))]) (w1 := (fun u : SU => [(a11, .inr (4, [.ref a12, .ref a19, .ref a24, .int (u.1 0)])), (a12, .inr (9, [.ref a13, .ref a15, .ref a16, .ref a17, .ref a18, .int n12_5, .int n12_6])), (a13, .inr (0, [.ref a14, .int n13_1])), (a18, .inl (ct 0, 8, .inl f18)), (a19, .inr (2, [.ref a12, .ref a20, .ref a22, .ref a23, .int (u.1 1), .int (u.1 2), .int (u.1 3), .int (u.1 4)])), (a20, .inr (0, [.ref a21, .int n20_1])), (a21, .inl (ct 0, 8, .inl (u.2.1 0))), (a22, .inl (ct 0, 8, .inl (u.2.1 1))), (a23, .inl (ct 0, 8, .inl (u.2.1 2))), (a24, .inl (ct 0, 40, .inl (u.2.1 3)))])) (va_runV (As := [.int 0, .int p0, .int p1, .int 0, .int 0]) (rest := []) ⟨hx, hb, hml, hown, hts⟩ (a_X4_act l G ct a11 a12 a19 a24 n11_3 a13 a15 a16 a17 a18 n12_5 n12_6 a14 n13_1 f18 a20 a22 a23 n19_4 n19_5 n19_6 n19_7 a21 n20_1 f21 f22 f23 f24 (0 : Int32) p0 p1 (0 : Int32) (0 : Int32) hp_n13_1 (rg_w (c := 0) (d := 8) h_14 (by decide))) (cwV 5 hts gX10_ask_X4_act rfl rfl rfl (by decide +kernel) ⟨Nat.le_of_ble_eq_true rfl, Nat.le_of_ble_eq_true rfl⟩) (wr_preV 4 0 hK (hP.sub [1, 2, 3, 5, 6, 7, 8, 9, 10, 11] rfl) (hD.sub [1, 2, 3, 5, 6, 7, 8, 9, 10, 11] (by decide) rfl) rfl rfl) rfl rfl hl.1 rfl (lv_room (Nat.le_of_ble_eq_true rfl)) dX10_ask_46 ⟨Nat.zero_le _, Nat.zero_le _⟩) hS hP hD [1, 2, 3, 5, 6, 7, 8, 9, 10, 11] [0, 4] rfl rfl (by decide) (fun _ => rfl) (fun ur46 H locs wr46 hP hD hS => ?_)
        have hP : va_P G vwCl [(a0, .inr (10, [.ref a1, .ref a3, .ref a11, .ref a25, .ref a68, .ref a69, .ref a77, .ref a82, .ref a84, .ref a88, .ref a91])), (a11, .inr (4, [.ref a12, .ref a19, .ref a24, .int (ur46.1 0)])), (a12, .inr (9, [.ref a13, .ref a15, .ref a16, .ref a17, .ref a18, .int n12_5, .int n12_6])), (a13, .inr (0, [.ref a14, .int n13_1])), (a16, .inl (ct 0, 8, .inl f16)), (a18, .inl (ct 0, 8, .inl f18)), (a19, .inr (2, [.ref a12, .ref a20, .ref a22, .ref a23, .int (ur46.1 1), .int (ur46.1 2), .int (ur46.1 3), .int (ur46.1 4)])), (a20, .inr (0, [.ref a21, .int n20_1])), (a21, .inl (ct 0, 8, .inl (ur46.2.1 0))), (a22, .inl (ct 0, 8, .inl (ur46.2.1 1))), (a23, .inl (ct 0, 8, .inl (ur46.2.1 2))), (a24, .inl (ct 0, 40, .inl (ur46.2.1 3)))] H := hP.sub [0, 2, 3, 4, 1, 5, 6, 7, 8, 9, 10, 11] rfl
        have hD : va_D A [(a0, .inr (10, [.ref a1, .ref a3, .ref a11, .ref a25, .ref a68, .ref a69, .ref a77, .ref a82, .ref a84, .ref a88, .ref a91])), (a11, .inr (4, [.ref a12, .ref a19, .ref a24, .int (ur46.1 0)])), (a12, .inr (9, [.ref a13, .ref a15, .ref a16, .ref a17, .ref a18, .int n12_5, .int n12_6])), (a13, .inr (0, [.ref a14, .int n13_1])), (a16, .inl (ct 0, 8, .inl f16)), (a18, .inl (ct 0, 8, .inl f18)), (a19, .inr (2, [.ref a12, .ref a20, .ref a22, .ref a23, .int (ur46.1 1), .int (ur46.1 2), .int (ur46.1 3), .int (ur46.1 4)])), (a20, .inr (0, [.ref a21, .int n20_1])), (a21, .inl (ct 0, 8, .inl (ur46.2.1 0))), (a22, .inl (ct 0, 8, .inl (ur46.2.1 1))), (a23, .inl (ct 0, 8, .inl (ur46.2.1 2))), (a24, .inl (ct 0, 40, .inl (ur46.2.1 3)))] := hD.sub [0, 2, 3, 4, 1, 5, 6, 7, 8, 9, 10, 11] (by decide) rfl
        refine lv_aload_n hx hb dX10_ask_49 rfl (lv_at hl 1 rfl) ?_
        refine va_get (D := G) (ci := 10) (v := .ref a11) (C := RX10) (T := TX10) (N := 11) hx hb hts (by decide +kernel) hown hK.1 hP 0 rfl rfl 2 (by decide) (hts (.fieldLink RX10 28 "CardHolder" "play" "LCardHolder$Play;") (by decide +kernel)) (fun _ h9 => h9) rfl dX10_ask_50 ?_
        refine va_get (D := G) (ci := 4) (v := .ref a19) (C := RX4) (T := TX4) (N := 4) hx hb hts (by decide +kernel) hown hK.1 hP 1 rfl rfl 1 (by decide) (hts (.fieldLink RX10 147 "CardHolder$Play" "hands" "LCardHolder$Hands;") (by decide +kernel)) (fun _ h9 => h9) rfl dX10_ask_53 ?_
        refine lv_iload_n hx hb dX10_ask_56 rfl (lv_at hl 3 rfl) ?_
        refine ro_calli (va_runV (As := [.int p1]) (rest := []) ⟨hx, hb, hml, hown, hts⟩ (a_X2_leftOf l G ct a12 a13 a15 a16 a17 a18 n12_5 n12_6 a14 n13_1 f18 a19 a20 a22 a23 (ur46.1 1) (ur46.1 2) (ur46.1 3) (ur46.1 4) a21 n20_1 (ur46.2.1 0) (ur46.2.1 1) p1 hp_n13_1 (rg_w (c := 0) (d := 8) h_14 (by decide))) (cwV 1 hts gX10_ask_X2_leftOf rfl rfl rfl (by decide +kernel) ⟨Nat.le_of_ble_eq_true rfl, Nat.le_of_ble_eq_true rfl⟩) (ro_preV 2 3 hK (hP.sub [2, 3, 5, 6, 7, 8, 9] rfl) rfl rfl) rfl rfl hl.1 rfl (lv_room (Nat.le_of_ble_eq_true rfl)) dX10_ask_57 ⟨Nat.zero_le _, Nat.zero_le _⟩) hS hP (fun r57 H locs wr57 hP hS => ?_)
        obtain ⟨p_21, p_22, p_23, p_24, -⟩ := wr57
        exact W.iret (v := r57) hx hb hr (fun t ht hW => ⟨⟨r57, (fun k => ([ur46.1 0, ur46.1 1, ur46.1 2, ur46.1 3, ur46.1 4] : List Int32).getD k 0, fun k => ([ur46.2.1 0, ur46.2.1 1, ur46.2.1 2, ur46.2.1 3] : List (Nat → Int32)).getD k (fun _ => 0), fun k => ([] : List (Nat → Int64)).getD k (fun _ => 0)), rfl, ⟨(fun _ => h_11), (fun _ => h_11), (fun _ => h_11), (fun _ => h_12), (fun _ => h_12), (fun _ => h_12), (fun _ => h_13), (fun _ => h_13), (fun _ => h_13), (fun _ => h_14), (fun _ => h_14), (fun _ => h_14), trivial⟩, hp_at ht hP⟩, hS.F ht⟩) hS.2.2 dX10_ask_60
      · have h_25 : rg 0 0 r28 := r_eq_l_i (e := 0) (f := 0) c31 p_16 (rgn 0 (x := 0) (by decide)) (by decide)
        have h_26 : rg 40 2147483647 n11_3 := (p_18 (req h_25 (y := 0) (by decide)))
        refine lv_bipush (v := (-5)) hx hb dX10_ask_34 (by decide) ?_
        exact W.iret (v := (-5)) hx hb hr (fun t ht hW => ⟨⟨(-5), (fun k => ([n11_3, n19_4, n19_5, n19_6, n19_7] : List Int32).getD k 0, fun k => ([f21, f22, f23, f24] : List (Nat → Int32)).getD k (fun _ => 0), fun k => ([] : List (Nat → Int64)).getD k (fun _ => 0)), rfl, ⟨(fun _ => h_11), (fun _ => h_11), (fun _ => h_11), (fun _ => h_12), (fun _ => h_12), (fun _ => h_12), (fun _ => h_13), (fun _ => h_13), (fun _ => h_13), (fun _ => h_14), (fun _ => h_14), (fun _ => h_14), trivial⟩, hp_at ht hP⟩, hS.F ht⟩) hS.2.2 dX10_ask_36
  · have h_27 : rg (-2) (-2) r4 := r_eq_l_i (e := (-2)) (f := (-2)) c13 p_1 (rgn (-2) (x := (-2)) (by decide)) (by decide)
    refine lv_bipush (v := (-2)) hx hb dX10_ask_16 (by decide) ?_
    exact W.iret (v := (-2)) hx hb hr (fun t ht hW => ⟨⟨(-2), (fun k => ([n11_3, n19_4, n19_5, n19_6, n19_7] : List Int32).getD k 0, fun k => ([f21, f22, f23, f24] : List (Nat → Int32)).getD k (fun _ => 0), fun k => ([] : List (Nat → Int64)).getD k (fun _ => 0)), rfl, ⟨(fun hq => absurd hq (rne (rgn (-2) (x := (-2)) (by decide)) (y := 0) (c := 0) (by decide) (by decide))), (fun hq => absurd hq (rne (rgn (-2) (x := (-2)) (by decide)) (y := (-1)) (c := (-1)) (by decide) (by decide))), (fun hq => absurd (req (rgn (-2) (x := (-2)) (by decide)) (y := (-2)) (by decide)) hq), (fun hq => absurd hq (rne (rgn (-2) (x := (-2)) (by decide)) (y := 0) (c := 0) (by decide) (by decide))), (fun hq => absurd hq (rne (rgn (-2) (x := (-2)) (by decide)) (y := (-1)) (c := (-1)) (by decide) (by decide))), (fun hq => absurd (req (rgn (-2) (x := (-2)) (by decide)) (y := (-2)) (by decide)) hq), (fun hq => absurd hq (rne (rgn (-2) (x := (-2)) (by decide)) (y := 0) (c := 0) (by decide) (by decide))), (fun hq => absurd hq (rne (rgn (-2) (x := (-2)) (by decide)) (y := (-1)) (c := (-1)) (by decide) (by decide))), (fun hq => absurd (req (rgn (-2) (x := (-2)) (by decide)) (y := (-2)) (by decide)) hq), (fun hq => absurd hq (rne (rgn (-2) (x := (-2)) (by decide)) (y := 0) (c := 0) (by decide) (by decide))), (fun hq => absurd hq (rne (rgn (-2) (x := (-2)) (by decide)) (y := (-1)) (c := (-1)) (by decide) (by decide))), (fun hq => absurd (req (rgn (-2) (x := (-2)) (by decide)) (y := (-2)) (by decide)) hq), trivial⟩, hp_at ht hP⟩, hS.F ht⟩) hS.2.2 dX10_ask_18

set_option maxHeartbeats 4000000 in
set_option maxRecDepth 100000 in
theorem a_X10_give (l : Launch) (G : va_G) (ct : Nat → ClassId) (a0 : Nat) (a1 : Nat) (a3 : Nat) (a11 : Nat) (a25 : Nat) (a68 : Nat) (a69 : Nat) (a77 : Nat) (a82 : Nat) (a84 : Nat) (a88 : Nat) (a91 : Nat) (a12 : Nat) (a19 : Nat) (a24 : Nat) (n11_3 : Int32) (a13 : Nat) (a15 : Nat) (a16 : Nat) (a17 : Nat) (a18 : Nat) (n12_5 : Int32) (n12_6 : Int32) (a14 : Nat) (n13_1 : Int32) (f18 : Nat → Int32) (a20 : Nat) (a22 : Nat) (a23 : Nat) (n19_4 : Int32) (n19_5 : Int32) (n19_6 : Int32) (n19_7 : Int32) (a21 : Nat) (n20_1 : Int32) (f21 : Nat → Int32) (f22 : Nat → Int32) (f23 : Nat → Int32) (f24 : Nat → Int32) (p0 : Int32) (p1 : Int32) (p2 : Int32) (p3 : Int32) (hp_n13_1 : rg 0 8 n13_1) (hp_n20_1 : rg 0 8 n20_1) : Met l yX10_give wsX10_give ({ frames := 5, cells := 0, slots := 0, locals := 114 }) (va_Pc [.ref a0, .int p0, .int p1, .int p2, .int p3] (wrP G ct [(a0, .inr (10, [.ref a1, .ref a3, .ref a11, .ref a25, .ref a68, .ref a69, .ref a77, .ref a82, .ref a84, .ref a88, .ref a91])), (a11, .inr (4, [.ref a12, .ref a19, .ref a24, .int n11_3])), (a12, .inr (9, [.ref a13, .ref a15, .ref a16, .ref a17, .ref a18, .int n12_5, .int n12_6])), (a13, .inr (0, [.ref a14, .int n13_1])), (a18, .inl (ct 0, 8, .inl f18)), (a19, .inr (2, [.ref a12, .ref a20, .ref a22, .ref a23, .int n19_4, .int n19_5, .int n19_6, .int n19_7])), (a20, .inr (0, [.ref a21, .int n20_1])), (a21, .inl (ct 0, 8, .inl f21)), (a22, .inl (ct 0, 8, .inl f22)), (a23, .inl (ct 0, 8, .inl f23)), (a24, .inl (ct 0, 40, .inl f24))])) (va_Qi (fun (r : Int32) (u : SU) => rg (-5) 0 r ∧ (r = 0 → rg 0 7 p0) ∧ (¬ r = (-2) → rg 0 7 p0) ∧ (r = 0 → rg 0 7 p1) ∧ (¬ r = (-2) → rg 0 7 p1) ∧ (r = 0 → rg 0 7 p2) ∧ (¬ r = (-2) → rg 0 7 p2) ∧ (r = 0 → rg 0 7 p3) ∧ (¬ r = (-2) → rg 0 7 p3) ∧ (r = 0 → rg 1 8 n20_1) ∧ (¬ r = (-2) → rg 1 8 n20_1) ∧ True) (fun u t => va_P G vwCl ((fun u : SU => [(a0, .inr (10, [.ref a1, .ref a3, .ref a11, .ref a25, .ref a68, .ref a69, .ref a77, .ref a82, .ref a84, .ref a88, .ref a91])), (a11, .inr (4, [.ref a12, .ref a19, .ref a24, .int (u.1 0)])), (a12, .inr (9, [.ref a13, .ref a15, .ref a16, .ref a17, .ref a18, .int n12_5, .int n12_6])), (a13, .inr (0, [.ref a14, .int n13_1])), (a18, .inl (ct 0, 8, .inl f18)), (a19, .inr (2, [.ref a12, .ref a20, .ref a22, .ref a23, .int (u.1 1), .int (u.1 2), .int (u.1 3), .int (u.1 4)])), (a20, .inr (0, [.ref a21, .int n20_1])), (a21, .inl (ct 0, 8, .inl (u.2.1 0))), (a22, .inl (ct 0, 8, .inl (u.2.1 1))), (a23, .inl (ct 0, 8, .inl (u.2.1 2))), (a24, .inl (ct 0, 40, .inl (u.2.1 3)))]) u) t.heap) (aset [(a0, .inr (10, [.ref a1, .ref a3, .ref a11, .ref a25, .ref a68, .ref a69, .ref a77, .ref a82, .ref a84, .ref a88, .ref a91])), (a11, .inr (4, [.ref a12, .ref a19, .ref a24, .int n11_3])), (a12, .inr (9, [.ref a13, .ref a15, .ref a16, .ref a17, .ref a18, .int n12_5, .int n12_6])), (a13, .inr (0, [.ref a14, .int n13_1])), (a18, .inl (ct 0, 8, .inl f18)), (a19, .inr (2, [.ref a12, .ref a20, .ref a22, .ref a23, .int n19_4, .int n19_5, .int n19_6, .int n19_7])), (a20, .inr (0, [.ref a21, .int n20_1])), (a21, .inl (ct 0, 8, .inl f21)), (a22, .inl (ct 0, 8, .inl f22)), (a23, .inl (ct 0, 8, .inl f23)), (a24, .inl (ct 0, 40, .inl f24))])) 0 0 (aset [(a0, .inr (10, [.ref a1, .ref a3, .ref a11, .ref a25, .ref a68, .ref a69, .ref a77, .ref a82, .ref a84, .ref a88, .ref a91])), (a11, .inr (4, [.ref a12, .ref a19, .ref a24, .int n11_3])), (a12, .inr (9, [.ref a13, .ref a15, .ref a16, .ref a17, .ref a18, .int n12_5, .int n12_6])), (a13, .inr (0, [.ref a14, .int n13_1])), (a18, .inl (ct 0, 8, .inl f18)), (a19, .inr (2, [.ref a12, .ref a20, .ref a22, .ref a23, .int n19_4, .int n19_5, .int n19_6, .int n19_7])), (a20, .inr (0, [.ref a21, .int n20_1])), (a21, .inl (ct 0, 8, .inl f21)), (a22, .inl (ct 0, 8, .inl f22)), (a23, .inl (ct 0, 8, .inl f23)), (a24, .inl (ct 0, 40, .inl f24))]) := by
  refine Met.ofW (cc := cX10_give) (maxL := 6) (ret := (some .int)) (by decide) rfl ?_
  intro p e s m args below meth c s₁ B hml hv
  obtain ⟨rfl, hP, hK, hD0⟩ := hv
  have hx := B.exec
  have hb := B.bytes
  have hr := B.returns
  have hts := atoms_spec (ws := wsX10_give) B.pre
  have hown : s.vm.findClass RX10 = some m.cls := findClass_of_methodNamed B.named
  have hlocks := B.notSynchronized
  have hD := hD0.aself
  generalize hAe : aset [(a0, .inr (10, [.ref a1, .ref a3, .ref a11, .ref a25, .ref a68, .ref a69, .ref a77, .ref a82, .ref a84, .ref a88, .ref a91])), (a11, .inr (4, [.ref a12, .ref a19, .ref a24, .int n11_3])), (a12, .inr (9, [.ref a13, .ref a15, .ref a16, .ref a17, .ref a18, .int n12_5, .int n12_6])), (a13, .inr (0, [.ref a14, .int n13_1])), (a18, .inl (ct 0, 8, .inl f18)), (a19, .inr (2, [.ref a12, .ref a20, .ref a22, .ref a23, .int n19_4, .int n19_5, .int n19_6, .int n19_7])), (a20, .inr (0, [.ref a21, .int n20_1])), (a21, .inl (ct 0, 8, .inl f21)), (a22, .inl (ct 0, 8, .inl f22)), (a23, .inl (ct 0, 8, .inl f23)), (a24, .inl (ct 0, 40, .inl f24))] = A at hD ⊢
  have hS : va_S A s.heap s.heap [] := va_S.rf
  have hl := lv_entry ([.ref a0, .int p0, .int p1, .int p2, .int p3]) (n := 6) (Nat.le_of_ble_eq_true rfl)
  rw [lg_entry_eq]
  generalize (lg_sl ([.ref a0, .int p0, .int p1, .int p2, .int p3]) ++ List.replicate (6 - (lg_sl ([.ref a0, .int p0, .int p1, .int p2, .int p3])).length) Slot.unset).toArray = ls at hl ⊢
  have hl : lv_has ls 6 [(0, .ref a0), (1, .int p0), (2, .int p1), (3, .int p2), (4, .int p3)] := hl
  refine lv_aload_n hx hb dX10_give_0 rfl (lv_at hl 0 rfl) ?_
  refine lv_iload_n hx hb dX10_give_1 rfl (lv_at hl 1 rfl) ?_
  refine ro_calli (va_runV (As := [.int p0]) (rest := []) ⟨hx, hb, hml, hown, hts⟩ (a_X10_isPerson l G ct a0 a1 a3 a11 a25 a68 a69 a77 a82 a84 a88 a91 a12 a19 a24 n11_3 a20 a22 a23 n19_4 n19_5 n19_6 n19_7 a21 n20_1 p0 hp_n20_1) (cwV 1 hts gX10_give_X10_isPerson rfl rfl rfl (by decide +kernel) ⟨Nat.le_of_ble_eq_true rfl, Nat.le_of_ble_eq_true rfl⟩) (ro_preV 10 0 hK (hP.sub [0, 1, 5, 6] rfl) rfl rfl) rfl rfl hl.1 rfl (lv_room (Nat.le_of_ble_eq_true rfl)) dX10_give_2 ⟨Nat.zero_le _, Nat.zero_le _⟩) hS hP (fun r2 H locs wr2 hP hS => ?_)
  obtain ⟨p_1, p_2, p_3, -⟩ := wr2
  refine lv_if_eq (tgt := 33) hx hb dX10_give_5 (by decide) (fun c5 => ?_) (fun c5 => ?_)
  · have h_4 : rg 0 0 r2 := r_eq_l_i (e := 0) (f := 0) c5 p_1 (rgn 0 (x := 0) (by decide)) (by decide)
    refine lv_bipush (v := (-2)) hx hb dX10_give_33 (by decide) ?_
    exact W.iret (v := (-2)) hx hb hr (fun t ht hW => ⟨⟨(-2), (fun k => ([n11_3, n19_4, n19_5, n19_6, n19_7] : List Int32).getD k 0, fun k => ([f21, f22, f23, f24] : List (Nat → Int32)).getD k (fun _ => 0), fun k => ([] : List (Nat → Int64)).getD k (fun _ => 0)), rfl, ⟨(rg_w (c := (-5)) (d := 0) (rgn (-2) (x := (-2)) (by decide)) (by decide)), (fun hq => absurd hq (rne (rgn (-2) (x := (-2)) (by decide)) (y := 0) (c := 0) (by decide) (by decide))), (fun hq => absurd (req (rgn (-2) (x := (-2)) (by decide)) (y := (-2)) (by decide)) hq), (fun hq => absurd hq (rne (rgn (-2) (x := (-2)) (by decide)) (y := 0) (c := 0) (by decide) (by decide))), (fun hq => absurd (req (rgn (-2) (x := (-2)) (by decide)) (y := (-2)) (by decide)) hq), (fun hq => absurd hq (rne (rgn (-2) (x := (-2)) (by decide)) (y := 0) (c := 0) (by decide) (by decide))), (fun hq => absurd (req (rgn (-2) (x := (-2)) (by decide)) (y := (-2)) (by decide)) hq), (fun hq => absurd hq (rne (rgn (-2) (x := (-2)) (by decide)) (y := 0) (c := 0) (by decide) (by decide))), (fun hq => absurd (req (rgn (-2) (x := (-2)) (by decide)) (y := (-2)) (by decide)) hq), (fun hq => absurd hq (rne (rgn (-2) (x := (-2)) (by decide)) (y := 0) (c := 0) (by decide) (by decide))), (fun hq => absurd (req (rgn (-2) (x := (-2)) (by decide)) (y := (-2)) (by decide)) hq), trivial⟩, hp_at ht hP⟩, hS.F ht⟩) hS.2.2 dX10_give_35
  · have h_5 : rg 1 1 r2 := r_ne_lo_i c5 p_1 (by decide) (by decide)
    have h_6 : rg 0 7 p0 := (p_2 (rne h_5 (y := 0) (c := 0) (by decide) (by decide)))
    have h_7 : rg 1 8 n20_1 := (p_3 (rne h_5 (y := 0) (c := 0) (by decide) (by decide)))
    refine lv_aload_n hx hb dX10_give_8 rfl (lv_at hl 0 rfl) ?_
    refine lv_iload_n hx hb dX10_give_9 rfl (lv_at hl 2 rfl) ?_
    refine ro_calli (va_runV (As := [.int p1]) (rest := []) ⟨hx, hb, hml, hown, hts⟩ (a_X10_isPerson l G ct a0 a1 a3 a11 a25 a68 a69 a77 a82 a84 a88 a91 a12 a19 a24 n11_3 a20 a22 a23 n19_4 n19_5 n19_6 n19_7 a21 n20_1 p1 (rg_w (c := 0) (d := 8) h_7 (by decide))) (cwV 1 hts gX10_give_X10_isPerson rfl rfl rfl (by decide +kernel) ⟨Nat.le_of_ble_eq_true rfl, Nat.le_of_ble_eq_true rfl⟩) (ro_preV 10 0 hK (hP.sub [0, 1, 5, 6] rfl) rfl rfl) rfl rfl hl.1 rfl (lv_room (Nat.le_of_ble_eq_true rfl)) dX10_give_10 ⟨Nat.zero_le _, Nat.zero_le _⟩) hS hP (fun r10 H locs wr10 hP hS => ?_)
    obtain ⟨p_8, p_9, p_10, -⟩ := wr10
    refine lv_if_eq (tgt := 33) hx hb dX10_give_13 (by decide) (fun c13 => ?_) (fun c13 => ?_)
    · have h_11 : rg 0 0 r10 := r_eq_l_i (e := 0) (f := 0) c13 p_8 (rgn 0 (x := 0) (by decide)) (by decide)
      refine lv_bipush (v := (-2)) hx hb dX10_give_33 (by decide) ?_
      exact W.iret (v := (-2)) hx hb hr (fun t ht hW => ⟨⟨(-2), (fun k => ([n11_3, n19_4, n19_5, n19_6, n19_7] : List Int32).getD k 0, fun k => ([f21, f22, f23, f24] : List (Nat → Int32)).getD k (fun _ => 0), fun k => ([] : List (Nat → Int64)).getD k (fun _ => 0)), rfl, ⟨(rg_w (c := (-5)) (d := 0) (rgn (-2) (x := (-2)) (by decide)) (by decide)), (fun _ => h_6), (fun _ => h_6), (fun hq => absurd hq (rne (rgn (-2) (x := (-2)) (by decide)) (y := 0) (c := 0) (by decide) (by decide))), (fun hq => absurd (req (rgn (-2) (x := (-2)) (by decide)) (y := (-2)) (by decide)) hq), (fun hq => absurd hq (rne (rgn (-2) (x := (-2)) (by decide)) (y := 0) (c := 0) (by decide) (by decide))), (fun hq => absurd (req (rgn (-2) (x := (-2)) (by decide)) (y := (-2)) (by decide)) hq), (fun hq => absurd hq (rne (rgn (-2) (x := (-2)) (by decide)) (y := 0) (c := 0) (by decide) (by decide))), (fun hq => absurd (req (rgn (-2) (x := (-2)) (by decide)) (y := (-2)) (by decide)) hq), (fun _ => h_7), (fun _ => h_7), trivial⟩, hp_at ht hP⟩, hS.F ht⟩) hS.2.2 dX10_give_35
    · have h_12 : rg 1 1 r10 := r_ne_lo_i c13 p_8 (by decide) (by decide)
      have h_13 : rg 0 7 p1 := (p_9 (rne h_12 (y := 0) (c := 0) (by decide) (by decide)))
      refine lv_aload_n hx hb dX10_give_16 rfl (lv_at hl 0 rfl) ?_
      refine lv_iload_n hx hb dX10_give_17 rfl (lv_at hl 3 rfl) ?_
      refine ro_calli (va_runV (As := [.int p2]) (rest := []) ⟨hx, hb, hml, hown, hts⟩ (a_X10_isPerson l G ct a0 a1 a3 a11 a25 a68 a69 a77 a82 a84 a88 a91 a12 a19 a24 n11_3 a20 a22 a23 n19_4 n19_5 n19_6 n19_7 a21 n20_1 p2 (rg_w (c := 0) (d := 8) h_7 (by decide))) (cwV 1 hts gX10_give_X10_isPerson rfl rfl rfl (by decide +kernel) ⟨Nat.le_of_ble_eq_true rfl, Nat.le_of_ble_eq_true rfl⟩) (ro_preV 10 0 hK (hP.sub [0, 1, 5, 6] rfl) rfl rfl) rfl rfl hl.1 rfl (lv_room (Nat.le_of_ble_eq_true rfl)) dX10_give_18 ⟨Nat.zero_le _, Nat.zero_le _⟩) hS hP (fun r18 H locs wr18 hP hS => ?_)
      obtain ⟨p_14, p_15, p_16, -⟩ := wr18
      refine lv_if_eq (tgt := 33) hx hb dX10_give_21 (by decide) (fun c21 => ?_) (fun c21 => ?_)
      · have h_17 : rg 0 0 r18 := r_eq_l_i (e := 0) (f := 0) c21 p_14 (rgn 0 (x := 0) (by decide)) (by decide)
        refine lv_bipush (v := (-2)) hx hb dX10_give_33 (by decide) ?_
        exact W.iret (v := (-2)) hx hb hr (fun t ht hW => ⟨⟨(-2), (fun k => ([n11_3, n19_4, n19_5, n19_6, n19_7] : List Int32).getD k 0, fun k => ([f21, f22, f23, f24] : List (Nat → Int32)).getD k (fun _ => 0), fun k => ([] : List (Nat → Int64)).getD k (fun _ => 0)), rfl, ⟨(rg_w (c := (-5)) (d := 0) (rgn (-2) (x := (-2)) (by decide)) (by decide)), (fun _ => h_6), (fun _ => h_6), (fun _ => h_13), (fun _ => h_13), (fun hq => absurd hq (rne (rgn (-2) (x := (-2)) (by decide)) (y := 0) (c := 0) (by decide) (by decide))), (fun hq => absurd (req (rgn (-2) (x := (-2)) (by decide)) (y := (-2)) (by decide)) hq), (fun hq => absurd hq (rne (rgn (-2) (x := (-2)) (by decide)) (y := 0) (c := 0) (by decide) (by decide))), (fun hq => absurd (req (rgn (-2) (x := (-2)) (by decide)) (y := (-2)) (by decide)) hq), (fun _ => h_7), (fun _ => h_7), trivial⟩, hp_at ht hP⟩, hS.F ht⟩) hS.2.2 dX10_give_35
      · have h_18 : rg 1 1 r18 := r_ne_lo_i c21 p_14 (by decide) (by decide)
        have h_19 : rg 0 7 p2 := (p_15 (rne h_18 (y := 0) (c := 0) (by decide) (by decide)))
        refine lv_aload_n hx hb dX10_give_24 rfl (lv_at hl 0 rfl) ?_
        refine lv_iload hx hb dX10_give_25 (lv_at hl 4 rfl) ?_
        refine ro_calli (va_runV (As := [.int p3]) (rest := []) ⟨hx, hb, hml, hown, hts⟩ (a_X10_isPerson l G ct a0 a1 a3 a11 a25 a68 a69 a77 a82 a84 a88 a91 a12 a19 a24 n11_3 a20 a22 a23 n19_4 n19_5 n19_6 n19_7 a21 n20_1 p3 (rg_w (c := 0) (d := 8) h_7 (by decide))) (cwV 1 hts gX10_give_X10_isPerson rfl rfl rfl (by decide +kernel) ⟨Nat.le_of_ble_eq_true rfl, Nat.le_of_ble_eq_true rfl⟩) (ro_preV 10 0 hK (hP.sub [0, 1, 5, 6] rfl) rfl rfl) rfl rfl hl.1 rfl (lv_room (Nat.le_of_ble_eq_true rfl)) dX10_give_27 ⟨Nat.zero_le _, Nat.zero_le _⟩) hS hP (fun r27 H locs wr27 hP hS => ?_)
        obtain ⟨p_20, p_21, p_22, -⟩ := wr27
        refine lv_if_ne (tgt := 36) hx hb dX10_give_30 (by decide) (fun c30 => ?_) (fun c30 => ?_)
        · have h_23 : rg 1 1 r27 := r_ne_lo_i c30 p_20 (by decide) (by decide)
          have h_24 : rg 0 7 p3 := (p_21 (rne h_23 (y := 0) (c := 0) (by decide) (by decide)))
          refine lv_aload_n hx hb dX10_give_36 rfl (lv_at hl 0 rfl) ?_
          refine va_get (D := G) (ci := 10) (v := .ref a11) (C := RX10) (T := TX10) (N := 11) hx hb hts (by decide +kernel) hown hK.1 hP 0 rfl rfl 2 (by decide) (hts (.fieldLink RX10 28 "CardHolder" "play" "LCardHolder$Play;") (by decide +kernel)) (fun _ h9 => h9) rfl dX10_give_37 ?_
          refine va_get (D := G) (ci := 4) (v := .ref a19) (C := RX4) (T := TX4) (N := 4) hx hb hts (by decide +kernel) hown hK.1 hP 1 rfl rfl 1 (by decide) (hts (.fieldLink RX10 147 "CardHolder$Play" "hands" "LCardHolder$Hands;") (by decide +kernel)) (fun _ h9 => h9) rfl dX10_give_40 ?_
          refine lv_iload_n hx hb dX10_give_43 rfl (lv_at hl 1 rfl) ?_
          refine lv_iload_n hx hb dX10_give_44 rfl (lv_at hl 2 rfl) ?_
          refine ro_calli (va_runV (As := [.int p0, .int p1]) (rest := []) ⟨hx, hb, hml, hown, hts⟩ (a_X2_refusalToCome l G ct a19 a12 a20 a22 a23 n19_4 n19_5 n19_6 n19_7 a21 n20_1 f21 p0 p1 (rg_w (c := 0) (d := 8) h_7 (by decide))) (cwV 2 hts gX10_give_X2_refusalToCome rfl rfl rfl (by decide +kernel) ⟨Nat.le_of_ble_eq_true rfl, Nat.le_of_ble_eq_true rfl⟩) (ro_preV 2 0 hK (hP.sub [5, 6, 7] rfl) rfl rfl) rfl rfl hl.1 rfl (lv_room (Nat.le_of_ble_eq_true rfl)) dX10_give_45 ⟨Nat.zero_le _, Nat.zero_le _⟩) hS hP (fun r45 H locs wr45 hP hS => ?_)
          obtain ⟨p_25, -⟩ := wr45
          have j56 : ∀ (y56_0 : Int32) (H : Heap) (locs : List Loc) (ls : Array Slot), rg 0 1 y56_0 → va_P G vwCl [(a0, .inr (10, [.ref a1, .ref a3, .ref a11, .ref a25, .ref a68, .ref a69, .ref a77, .ref a82, .ref a84, .ref a88, .ref a91])), (a11, .inr (4, [.ref a12, .ref a19, .ref a24, .int n11_3])), (a12, .inr (9, [.ref a13, .ref a15, .ref a16, .ref a17, .ref a18, .int n12_5, .int n12_6])), (a13, .inr (0, [.ref a14, .int n13_1])), (a18, .inl (ct 0, 8, .inl f18)), (a19, .inr (2, [.ref a12, .ref a20, .ref a22, .ref a23, .int n19_4, .int n19_5, .int n19_6, .int n19_7])), (a20, .inr (0, [.ref a21, .int n20_1])), (a21, .inl (ct 0, 8, .inl f21)), (a22, .inl (ct 0, 8, .inl f22)), (a23, .inl (ct 0, 8, .inl f23)), (a24, .inl (ct 0, 40, .inl f24))] H → va_D A [(a0, .inr (10, [.ref a1, .ref a3, .ref a11, .ref a25, .ref a68, .ref a69, .ref a77, .ref a82, .ref a84, .ref a88, .ref a91])), (a11, .inr (4, [.ref a12, .ref a19, .ref a24, .int n11_3])), (a12, .inr (9, [.ref a13, .ref a15, .ref a16, .ref a17, .ref a18, .int n12_5, .int n12_6])), (a13, .inr (0, [.ref a14, .int n13_1])), (a18, .inl (ct 0, 8, .inl f18)), (a19, .inr (2, [.ref a12, .ref a20, .ref a22, .ref a23, .int n19_4, .int n19_5, .int n19_6, .int n19_7])), (a20, .inr (0, [.ref a21, .int n20_1])), (a21, .inl (ct 0, 8, .inl f21)), (a22, .inl (ct 0, 8, .inl f22)), (a23, .inl (ct 0, 8, .inl f23)), (a24, .inl (ct 0, 40, .inl f24))] → va_S A s.heap H locs → lv_has ls 6 [(0, .ref a0), (1, .int p0), (2, .int p1), (3, .int p2), (4, .int p3)] → W p l e (headSpec wsX10_give ({ frames := 5, cells := 0, slots := 0, locals := 114 })).room s m ([.ref a0, .int p0, .int p1, .int p2, .int p3] : List Value).toArray below meth c H locs 0 0 (MQ below (va_Qi (fun (r : Int32) (u : SU) => rg (-5) 0 r ∧ (r = 0 → rg 0 7 p0) ∧ (¬ r = (-2) → rg 0 7 p0) ∧ (r = 0 → rg 0 7 p1) ∧ (¬ r = (-2) → rg 0 7 p1) ∧ (r = 0 → rg 0 7 p2) ∧ (¬ r = (-2) → rg 0 7 p2) ∧ (r = 0 → rg 0 7 p3) ∧ (¬ r = (-2) → rg 0 7 p3) ∧ (r = 0 → rg 1 8 n20_1) ∧ (¬ r = (-2) → rg 1 8 n20_1) ∧ True) (fun u t => va_P G vwCl ((fun u : SU => [(a0, .inr (10, [.ref a1, .ref a3, .ref a11, .ref a25, .ref a68, .ref a69, .ref a77, .ref a82, .ref a84, .ref a88, .ref a91])), (a11, .inr (4, [.ref a12, .ref a19, .ref a24, .int (u.1 0)])), (a12, .inr (9, [.ref a13, .ref a15, .ref a16, .ref a17, .ref a18, .int n12_5, .int n12_6])), (a13, .inr (0, [.ref a14, .int n13_1])), (a18, .inl (ct 0, 8, .inl f18)), (a19, .inr (2, [.ref a12, .ref a20, .ref a22, .ref a23, .int (u.1 1), .int (u.1 2), .int (u.1 3), .int (u.1 4)])), (a20, .inr (0, [.ref a21, .int n20_1])), (a21, .inl (ct 0, 8, .inl (u.2.1 0))), (a22, .inl (ct 0, 8, .inl (u.2.1 1))), (a23, .inl (ct 0, 8, .inl (u.2.1 2))), (a24, .inl (ct 0, 40, .inl (u.2.1 3)))]) u) t.heap) A) ([.ref a0, .int p0, .int p1, .int p2, .int p3] : List Value).toArray s 0 0 A) (F0 m 56 ls [.int y56_0]) := by
            intro y56_0 H locs ls hy56_0 hP hD hS hl
            refine lv_istore (lv' := [(5, .int y56_0), (0, .ref a0), (1, .int p0), (2, .int p1), (3, .int p2), (4, .int p3)]) hx hb dX10_give_56 hl (by decide) rfl (fun ls hl => ?_)
            refine lv_iload hx hb dX10_give_58 (lv_at hl 0 rfl) ?_
            refine lv_if_ne (tgt := 85) hx hb dX10_give_60 (by decide) (fun c60 => ?_) (fun c60 => ?_)
            · have h_26 : rg 1 1 y56_0 := r_ne_lo_i c60 hy56_0 (by decide) (by decide)
              refine lv_bipush (v := (-5)) hx hb dX10_give_85 (by decide) ?_
              exact W.iret (v := (-5)) hx hb hr (fun t ht hW => ⟨⟨(-5), (fun k => ([n11_3, n19_4, n19_5, n19_6, n19_7] : List Int32).getD k 0, fun k => ([f21, f22, f23, f24] : List (Nat → Int32)).getD k (fun _ => 0), fun k => ([] : List (Nat → Int64)).getD k (fun _ => 0)), rfl, ⟨(rg_w (c := (-5)) (d := 0) (rgn (-5) (x := (-5)) (by decide)) (by decide)), (fun _ => h_6), (fun _ => h_6), (fun _ => h_13), (fun _ => h_13), (fun _ => h_19), (fun _ => h_19), (fun _ => h_24), (fun _ => h_24), (fun _ => h_7), (fun _ => h_7), trivial⟩, hp_at ht hP⟩, hS.F ht⟩) hS.2.2 dX10_give_87
            · have h_27 : rg 0 0 y56_0 := r_eq_l_i (e := 0) (f := 0) c60 hy56_0 (rgn 0 (x := 0) (by decide)) (by decide)
              refine lv_aload_n hx hb dX10_give_63 rfl (lv_at hl 1 rfl) ?_
              refine ro_callr (va_runV (As := []) (rest := []) ⟨hx, hb, hml, hown, hts⟩ (a_X10_bonds l G ct a0 a1 a3 a11 a25 a68 a69 a77 a82 a84 a88 a91 a12 a19 a24 n11_3 a20 a22 a23 n19_4 n19_5 n19_6 n19_7) (cwV 0 hts gX10_give_X10_bonds rfl rfl rfl (by decide +kernel) ⟨Nat.le_of_ble_eq_true rfl, Nat.le_of_ble_eq_true rfl⟩) (ro_preV 10 0 hK (hP.sub [0, 1, 5] rfl) rfl rfl) rfl rfl hl.1 rfl (lv_room (Nat.le_of_ble_eq_true rfl)) dX10_give_64 ⟨Nat.zero_le _, Nat.zero_le _⟩) hS hP (fun H locs hP hS => ?_)
              refine lv_iload_n hx hb dX10_give_67 rfl (lv_at hl 4 rfl) ?_
              refine ro_calli (va_runV (As := [.int p2]) (rest := []) ⟨hx, hb, hml, hown, hts⟩ (a_X0_holderOf l G ct a20 a21 n20_1 f21 p2 (rg_w (c := 0) (d := 8) h_7 (by decide))) (cwV 1 hts gX10_give_X0_holderOf rfl rfl rfl (by decide +kernel) ⟨Nat.le_of_ble_eq_true rfl, Nat.le_of_ble_eq_true rfl⟩) (ro_preV 0 0 hK (hP.sub [6, 7] rfl) rfl rfl) rfl rfl hl.1 rfl (lv_room (Nat.le_of_ble_eq_true rfl)) dX10_give_68 ⟨Nat.zero_le _, Nat.zero_le _⟩) hS hP (fun r68 H locs wr68 hP hS => ?_)
              obtain ⟨p_28, p_29, p_30, p_31, -⟩ := wr68
              refine lv_iload_n hx hb dX10_give_71 rfl (lv_at hl 3 rfl) ?_
              refine lv_icmp_ne (tgt := 85) hx hb dX10_give_72 (by decide) (fun c72 => ?_) (fun c72 => ?_)
              · refine lv_bipush (v := (-5)) hx hb dX10_give_85 (by decide) ?_
                exact W.iret (v := (-5)) hx hb hr (fun t ht hW => ⟨⟨(-5), (fun k => ([n11_3, n19_4, n19_5, n19_6, n19_7] : List Int32).getD k 0, fun k => ([f21, f22, f23, f24] : List (Nat → Int32)).getD k (fun _ => 0), fun k => ([] : List (Nat → Int64)).getD k (fun _ => 0)), rfl, ⟨(rg_w (c := (-5)) (d := 0) (rgn (-5) (x := (-5)) (by decide)) (by decide)), (fun _ => h_6), (fun _ => h_6), (fun _ => h_13), (fun _ => h_13), (fun _ => h_19), (fun _ => h_19), (fun _ => h_24), (fun _ => h_24), (fun _ => h_7), (fun _ => h_7), trivial⟩, hp_at ht hP⟩, hS.F ht⟩) hS.2.2 dX10_give_87
              · have h_32 : rg 0 7 r68 := r_eq_l_i (e := 0) (f := 7) c72 (rg_t r68) h_13 (by decide)
                refine lv_aload_n hx hb dX10_give_75 rfl (lv_at hl 1 rfl) ?_
                refine va_get (D := G) (ci := 10) (v := .ref a11) (C := RX10) (T := TX10) (N := 11) hx hb hts (by decide +kernel) hown hK.1 hP 0 rfl rfl 2 (by decide) (hts (.fieldLink RX10 28 "CardHolder" "play" "LCardHolder$Play;") (by decide +kernel)) (fun _ h9 => h9) rfl dX10_give_76 ?_
                refine ro_calli (va_runV (As := []) (rest := []) ⟨hx, hb, hml, hown, hts⟩ (a_X4_hasRoom l G ct a11 a12 a19 a24 n11_3) (cwV 0 hts gX10_give_X4_hasRoom rfl rfl rfl (by decide +kernel) ⟨Nat.le_of_ble_eq_true rfl, Nat.le_of_ble_eq_true rfl⟩) (ro_preV 4 0 hK (hP.sub [1] rfl) rfl rfl) rfl rfl hl.1 rfl (lv_room (Nat.le_of_ble_eq_true rfl)) dX10_give_79 ⟨Nat.zero_le _, Nat.zero_le _⟩) hS hP (fun r79 H locs wr79 hP hS => ?_)
                obtain ⟨p_33, p_34, p_35, -⟩ := wr79
                refine lv_if_ne (tgt := 88) hx hb dX10_give_82 (by decide) (fun c82 => ?_) (fun c82 => ?_)
                · have h_36 : rg 1 1 r79 := r_ne_lo_i c82 p_33 (by decide) (by decide)
                  have h_37 : rg (-2147483648) 39 n11_3 := (p_34 (rne h_36 (y := 0) (c := 0) (by decide) (by decide)))
                  refine lv_aload_n hx hb dX10_give_88 rfl (lv_at hl 1 rfl) ?_
                  refine va_get (D := G) (ci := 10) (v := .ref a11) (C := RX10) (T := TX10) (N := 11) hx hb hts (by decide +kernel) hown hK.1 hP 0 rfl rfl 2 (by decide) (hts (.fieldLink RX10 28 "CardHolder" "play" "LCardHolder$Play;") (by decide +kernel)) (fun _ h9 => h9) rfl dX10_give_89 ?_
                  refine lv_iconst (v := 1) hx hb dX10_give_92 (by decide) ?_
                  refine lv_iload_n hx hb dX10_give_93 rfl (lv_at hl 2 rfl) ?_
                  refine lv_iload_n hx hb dX10_give_94 rfl (lv_at hl 3 rfl) ?_
                  refine lv_iload_n hx hb dX10_give_95 rfl (lv_at hl 4 rfl) ?_
                  refine lv_iload hx hb dX10_give_96 (lv_at hl 5 rfl) ?_
                  refine wj_callv (wr := [(a0, .inr (10, [.ref a1, .ref a3, .ref a11, .ref a25, .ref a68, .ref a69, .ref a77, .ref a82, .ref a84, .ref a88, .ref a91]))]) (w1 := (fun u : SU => [(a11, .inr (4, [.ref a12, .ref a19, .ref a24, .int (u.1 0)])), (a12, .inr (9, [.ref a13, .ref a15, .ref a16, .ref a17, .ref a18, .int n12_5, .int n12_6])), (a13, .inr (0, [.ref a14, .int n13_1])), (a18, .inl (ct 0, 8, .inl f18)), (a19, .inr (2, [.ref a12, .ref a20, .ref a22, .ref a23, .int (u.1 1), .int (u.1 2), .int (u.1 3), .int (u.1 4)])), (a20, .inr (0, [.ref a21, .int n20_1])), (a21, .inl (ct 0, 8, .inl (u.2.1 0))), (a22, .inl (ct 0, 8, .inl (u.2.1 1))), (a23, .inl (ct 0, 8, .inl (u.2.1 2))), (a24, .inl (ct 0, 40, .inl (u.2.1 3)))])) (va_runV (As := [.int 1, .int p0, .int p1, .int p2, .int p3]) (rest := []) ⟨hx, hb, hml, hown, hts⟩ (a_X4_act l G ct a11 a12 a19 a24 n11_3 a13 a15 a16 a17 a18 n12_5 n12_6 a14 n13_1 f18 a20 a22 a23 n19_4 n19_5 n19_6 n19_7 a21 n20_1 f21 f22 f23 f24 (1 : Int32) p0 p1 p2 p3 hp_n13_1 (rg_w (c := 0) (d := 8) h_7 (by decide))) (cwV 5 hts gX10_give_X4_act rfl rfl rfl (by decide +kernel) ⟨Nat.le_of_ble_eq_true rfl, Nat.le_of_ble_eq_true rfl⟩) (wr_preV 4 0 hK (hP.sub [1, 2, 3, 4, 5, 6, 7, 8, 9, 10] rfl) (hD.sub [1, 2, 3, 4, 5, 6, 7, 8, 9, 10] (by decide) rfl) rfl rfl) rfl rfl hl.1 rfl (lv_room (Nat.le_of_ble_eq_true rfl)) dX10_give_98 ⟨Nat.zero_le _, Nat.zero_le _⟩) hS hP hD [1, 2, 3, 4, 5, 6, 7, 8, 9, 10] [0] rfl rfl (by decide) (fun _ => rfl) (fun ur98 H locs wr98 hP hD hS => ?_)
                  have hP : va_P G vwCl [(a0, .inr (10, [.ref a1, .ref a3, .ref a11, .ref a25, .ref a68, .ref a69, .ref a77, .ref a82, .ref a84, .ref a88, .ref a91])), (a11, .inr (4, [.ref a12, .ref a19, .ref a24, .int (ur98.1 0)])), (a12, .inr (9, [.ref a13, .ref a15, .ref a16, .ref a17, .ref a18, .int n12_5, .int n12_6])), (a13, .inr (0, [.ref a14, .int n13_1])), (a18, .inl (ct 0, 8, .inl f18)), (a19, .inr (2, [.ref a12, .ref a20, .ref a22, .ref a23, .int (ur98.1 1), .int (ur98.1 2), .int (ur98.1 3), .int (ur98.1 4)])), (a20, .inr (0, [.ref a21, .int n20_1])), (a21, .inl (ct 0, 8, .inl (ur98.2.1 0))), (a22, .inl (ct 0, 8, .inl (ur98.2.1 1))), (a23, .inl (ct 0, 8, .inl (ur98.2.1 2))), (a24, .inl (ct 0, 40, .inl (ur98.2.1 3)))] H := hP.sub [0, 1, 2, 3, 4, 5, 6, 7, 8, 9, 10] rfl
                  have hD : va_D A [(a0, .inr (10, [.ref a1, .ref a3, .ref a11, .ref a25, .ref a68, .ref a69, .ref a77, .ref a82, .ref a84, .ref a88, .ref a91])), (a11, .inr (4, [.ref a12, .ref a19, .ref a24, .int (ur98.1 0)])), (a12, .inr (9, [.ref a13, .ref a15, .ref a16, .ref a17, .ref a18, .int n12_5, .int n12_6])), (a13, .inr (0, [.ref a14, .int n13_1])), (a18, .inl (ct 0, 8, .inl f18)), (a19, .inr (2, [.ref a12, .ref a20, .ref a22, .ref a23, .int (ur98.1 1), .int (ur98.1 2), .int (ur98.1 3), .int (ur98.1 4)])), (a20, .inr (0, [.ref a21, .int n20_1])), (a21, .inl (ct 0, 8, .inl (ur98.2.1 0))), (a22, .inl (ct 0, 8, .inl (ur98.2.1 1))), (a23, .inl (ct 0, 8, .inl (ur98.2.1 2))), (a24, .inl (ct 0, 40, .inl (ur98.2.1 3)))] := hD.sub [0, 1, 2, 3, 4, 5, 6, 7, 8, 9, 10] (by decide) rfl
                  refine lv_iconst (v := 0) hx hb dX10_give_101 (by decide) ?_
                  exact W.iret (v := 0) hx hb hr (fun t ht hW => ⟨⟨0, (fun k => ([ur98.1 0, ur98.1 1, ur98.1 2, ur98.1 3, ur98.1 4] : List Int32).getD k 0, fun k => ([ur98.2.1 0, ur98.2.1 1, ur98.2.1 2, ur98.2.1 3] : List (Nat → Int32)).getD k (fun _ => 0), fun k => ([] : List (Nat → Int64)).getD k (fun _ => 0)), rfl, ⟨(rg_w (c := (-5)) (d := 0) (rgn 0 (x := 0) (by decide)) (by decide)), (fun _ => h_6), (fun _ => h_6), (fun _ => h_13), (fun _ => h_13), (fun _ => h_19), (fun _ => h_19), (fun _ => h_24), (fun _ => h_24), (fun _ => h_7), (fun _ => h_7), trivial⟩, hp_at ht hP⟩, hS.F ht⟩) hS.2.2 dX10_give_102
                · have h_38 : rg 0 0 r79 := r_eq_l_i (e := 0) (f := 0) c82 p_33 (rgn 0 (x := 0) (by decide)) (by decide)
                  have h_39 : rg 40 2147483647 n11_3 := (p_35 (req h_38 (y := 0) (by decide)))
                  refine lv_bipush (v := (-5)) hx hb dX10_give_85 (by decide) ?_
                  exact W.iret (v := (-5)) hx hb hr (fun t ht hW => ⟨⟨(-5), (fun k => ([n11_3, n19_4, n19_5, n19_6, n19_7] : List Int32).getD k 0, fun k => ([f21, f22, f23, f24] : List (Nat → Int32)).getD k (fun _ => 0), fun k => ([] : List (Nat → Int64)).getD k (fun _ => 0)), rfl, ⟨(rg_w (c := (-5)) (d := 0) (rgn (-5) (x := (-5)) (by decide)) (by decide)), (fun _ => h_6), (fun _ => h_6), (fun _ => h_13), (fun _ => h_13), (fun _ => h_19), (fun _ => h_19), (fun _ => h_24), (fun _ => h_24), (fun _ => h_7), (fun _ => h_7), trivial⟩, hp_at ht hP⟩, hS.F ht⟩) hS.2.2 dX10_give_87
          refine lv_if_eq (tgt := 55) hx hb dX10_give_48 (by decide) (fun c48 => ?_) (fun c48 => ?_)
          · have h_40 : rg 0 0 r45 := r_eq_l_i (e := 0) (f := 0) c48 p_25 (rgn 0 (x := 0) (by decide)) (by decide)
            refine lv_iconst (v := 0) hx hb dX10_give_55 (by decide) ?_
            exact j56 (0 : Int32) _ _ ls (rg_w (c := 0) (d := 1) (rgn 0 (x := 0) (by decide)) (by decide)) hP hD hS (lv_sub hl [0, 1, 2, 3, 4] rfl)
          · have h_41 : rg 1 2 r45 := r_ne_lo_i c48 p_25 (by decide) (by decide)
            refine lv_iconst (v := 1) hx hb dX10_give_51 (by decide) ?_
            refine lv_goto (tgt := 56) hx hb dX10_give_52 (by decide) ?_
            exact j56 (1 : Int32) _ _ ls (rg_w (c := 0) (d := 1) (rgn 1 (x := 1) (by decide)) (by decide)) hP hD hS (lv_sub hl [0, 1, 2, 3, 4] rfl)
        · have h_42 : rg 0 0 r27 := r_eq_l_i (e := 0) (f := 0) c30 p_20 (rgn 0 (x := 0) (by decide)) (by decide)
          refine lv_bipush (v := (-2)) hx hb dX10_give_33 (by decide) ?_
          exact W.iret (v := (-2)) hx hb hr (fun t ht hW => ⟨⟨(-2), (fun k => ([n11_3, n19_4, n19_5, n19_6, n19_7] : List Int32).getD k 0, fun k => ([f21, f22, f23, f24] : List (Nat → Int32)).getD k (fun _ => 0), fun k => ([] : List (Nat → Int64)).getD k (fun _ => 0)), rfl, ⟨(rg_w (c := (-5)) (d := 0) (rgn (-2) (x := (-2)) (by decide)) (by decide)), (fun _ => h_6), (fun _ => h_6), (fun _ => h_13), (fun _ => h_13), (fun _ => h_19), (fun _ => h_19), (fun hq => absurd hq (rne (rgn (-2) (x := (-2)) (by decide)) (y := 0) (c := 0) (by decide) (by decide))), (fun hq => absurd (req (rgn (-2) (x := (-2)) (by decide)) (y := (-2)) (by decide)) hq), (fun _ => h_7), (fun _ => h_7), trivial⟩, hp_at ht hP⟩, hS.F ht⟩) hS.2.2 dX10_give_35

set_option maxHeartbeats 4000000 in
set_option maxRecDepth 100000 in
theorem a_X10_swap (l : Launch) (G : va_G) (ct : Nat → ClassId) (a0 : Nat) (a1 : Nat) (a3 : Nat) (a11 : Nat) (a25 : Nat) (a68 : Nat) (a69 : Nat) (a77 : Nat) (a82 : Nat) (a84 : Nat) (a88 : Nat) (a91 : Nat) (a12 : Nat) (a19 : Nat) (a24 : Nat) (n11_3 : Int32) (a13 : Nat) (a15 : Nat) (a16 : Nat) (a17 : Nat) (a18 : Nat) (n12_5 : Int32) (n12_6 : Int32) (a14 : Nat) (n13_1 : Int32) (f18 : Nat → Int32) (a20 : Nat) (a22 : Nat) (a23 : Nat) (n19_4 : Int32) (n19_5 : Int32) (n19_6 : Int32) (n19_7 : Int32) (a21 : Nat) (n20_1 : Int32) (f21 : Nat → Int32) (f22 : Nat → Int32) (f23 : Nat → Int32) (f24 : Nat → Int32) (p0 : Int32) (p1 : Int32) (hp_n13_1 : rg 0 8 n13_1) (hp_n20_1 : rg 0 8 n20_1) : Met l yX10_swap wsX10_swap ({ frames := 5, cells := 0, slots := 0, locals := 114 }) (va_Pc [.ref a0, .int p0, .int p1] (wrP G ct [(a0, .inr (10, [.ref a1, .ref a3, .ref a11, .ref a25, .ref a68, .ref a69, .ref a77, .ref a82, .ref a84, .ref a88, .ref a91])), (a11, .inr (4, [.ref a12, .ref a19, .ref a24, .int n11_3])), (a12, .inr (9, [.ref a13, .ref a15, .ref a16, .ref a17, .ref a18, .int n12_5, .int n12_6])), (a13, .inr (0, [.ref a14, .int n13_1])), (a18, .inl (ct 0, 8, .inl f18)), (a19, .inr (2, [.ref a12, .ref a20, .ref a22, .ref a23, .int n19_4, .int n19_5, .int n19_6, .int n19_7])), (a20, .inr (0, [.ref a21, .int n20_1])), (a21, .inl (ct 0, 8, .inl f21)), (a22, .inl (ct 0, 8, .inl f22)), (a23, .inl (ct 0, 8, .inl f23)), (a24, .inl (ct 0, 40, .inl f24))])) (va_Qi (fun (r : Int32) (u : SU) => rg (-5) 0 r ∧ (r = 0 → rg 0 7 p0) ∧ (¬ r = (-2) → rg 0 7 p0) ∧ (r = 0 → rg 0 7 p1) ∧ (¬ r = (-2) → rg 0 7 p1) ∧ (r = 0 → rg 1 8 n20_1) ∧ (¬ r = (-2) → rg 1 8 n20_1) ∧ True) (fun u t => va_P G vwCl ((fun u : SU => [(a0, .inr (10, [.ref a1, .ref a3, .ref a11, .ref a25, .ref a68, .ref a69, .ref a77, .ref a82, .ref a84, .ref a88, .ref a91])), (a11, .inr (4, [.ref a12, .ref a19, .ref a24, .int (u.1 0)])), (a12, .inr (9, [.ref a13, .ref a15, .ref a16, .ref a17, .ref a18, .int n12_5, .int n12_6])), (a13, .inr (0, [.ref a14, .int n13_1])), (a18, .inl (ct 0, 8, .inl f18)), (a19, .inr (2, [.ref a12, .ref a20, .ref a22, .ref a23, .int (u.1 1), .int (u.1 2), .int (u.1 3), .int (u.1 4)])), (a20, .inr (0, [.ref a21, .int n20_1])), (a21, .inl (ct 0, 8, .inl (u.2.1 0))), (a22, .inl (ct 0, 8, .inl (u.2.1 1))), (a23, .inl (ct 0, 8, .inl (u.2.1 2))), (a24, .inl (ct 0, 40, .inl (u.2.1 3)))]) u) t.heap) (aset [(a0, .inr (10, [.ref a1, .ref a3, .ref a11, .ref a25, .ref a68, .ref a69, .ref a77, .ref a82, .ref a84, .ref a88, .ref a91])), (a11, .inr (4, [.ref a12, .ref a19, .ref a24, .int n11_3])), (a12, .inr (9, [.ref a13, .ref a15, .ref a16, .ref a17, .ref a18, .int n12_5, .int n12_6])), (a13, .inr (0, [.ref a14, .int n13_1])), (a18, .inl (ct 0, 8, .inl f18)), (a19, .inr (2, [.ref a12, .ref a20, .ref a22, .ref a23, .int n19_4, .int n19_5, .int n19_6, .int n19_7])), (a20, .inr (0, [.ref a21, .int n20_1])), (a21, .inl (ct 0, 8, .inl f21)), (a22, .inl (ct 0, 8, .inl f22)), (a23, .inl (ct 0, 8, .inl f23)), (a24, .inl (ct 0, 40, .inl f24))])) 0 0 (aset [(a0, .inr (10, [.ref a1, .ref a3, .ref a11, .ref a25, .ref a68, .ref a69, .ref a77, .ref a82, .ref a84, .ref a88, .ref a91])), (a11, .inr (4, [.ref a12, .ref a19, .ref a24, .int n11_3])), (a12, .inr (9, [.ref a13, .ref a15, .ref a16, .ref a17, .ref a18, .int n12_5, .int n12_6])), (a13, .inr (0, [.ref a14, .int n13_1])), (a18, .inl (ct 0, 8, .inl f18)), (a19, .inr (2, [.ref a12, .ref a20, .ref a22, .ref a23, .int n19_4, .int n19_5, .int n19_6, .int n19_7])), (a20, .inr (0, [.ref a21, .int n20_1])), (a21, .inl (ct 0, 8, .inl f21)), (a22, .inl (ct 0, 8, .inl f22)), (a23, .inl (ct 0, 8, .inl f23)), (a24, .inl (ct 0, 40, .inl f24))]) := by
  refine Met.ofW (cc := cX10_swap) (maxL := 5) (ret := (some .int)) (by decide) rfl ?_
  intro p e s m args below meth c s₁ B hml hv
  obtain ⟨rfl, hP, hK, hD0⟩ := hv
  have hx := B.exec
  have hb := B.bytes
  have hr := B.returns
  have hts := atoms_spec (ws := wsX10_swap) B.pre
  have hown : s.vm.findClass RX10 = some m.cls := findClass_of_methodNamed B.named
  have hlocks := B.notSynchronized
  have hD := hD0.aself
  generalize hAe : aset [(a0, .inr (10, [.ref a1, .ref a3, .ref a11, .ref a25, .ref a68, .ref a69, .ref a77, .ref a82, .ref a84, .ref a88, .ref a91])), (a11, .inr (4, [.ref a12, .ref a19, .ref a24, .int n11_3])), (a12, .inr (9, [.ref a13, .ref a15, .ref a16, .ref a17, .ref a18, .int n12_5, .int n12_6])), (a13, .inr (0, [.ref a14, .int n13_1])), (a18, .inl (ct 0, 8, .inl f18)), (a19, .inr (2, [.ref a12, .ref a20, .ref a22, .ref a23, .int n19_4, .int n19_5, .int n19_6, .int n19_7])), (a20, .inr (0, [.ref a21, .int n20_1])), (a21, .inl (ct 0, 8, .inl f21)), (a22, .inl (ct 0, 8, .inl f22)), (a23, .inl (ct 0, 8, .inl f23)), (a24, .inl (ct 0, 40, .inl f24))] = A at hD ⊢
  have hS : va_S A s.heap s.heap [] := va_S.rf
  have hl := lv_entry ([.ref a0, .int p0, .int p1]) (n := 5) (Nat.le_of_ble_eq_true rfl)
  rw [lg_entry_eq]
  generalize (lg_sl ([.ref a0, .int p0, .int p1]) ++ List.replicate (5 - (lg_sl ([.ref a0, .int p0, .int p1])).length) Slot.unset).toArray = ls at hl ⊢
  have hl : lv_has ls 5 [(0, .ref a0), (1, .int p0), (2, .int p1)] := hl
  refine lv_aload_n hx hb dX10_swap_0 rfl (lv_at hl 0 rfl) ?_
  refine lv_iload_n hx hb dX10_swap_1 rfl (lv_at hl 1 rfl) ?_
  refine ro_calli (va_runV (As := [.int p0]) (rest := []) ⟨hx, hb, hml, hown, hts⟩ (a_X10_isPerson l G ct a0 a1 a3 a11 a25 a68 a69 a77 a82 a84 a88 a91 a12 a19 a24 n11_3 a20 a22 a23 n19_4 n19_5 n19_6 n19_7 a21 n20_1 p0 hp_n20_1) (cwV 1 hts gX10_swap_X10_isPerson rfl rfl rfl (by decide +kernel) ⟨Nat.le_of_ble_eq_true rfl, Nat.le_of_ble_eq_true rfl⟩) (ro_preV 10 0 hK (hP.sub [0, 1, 5, 6] rfl) rfl rfl) rfl rfl hl.1 rfl (lv_room (Nat.le_of_ble_eq_true rfl)) dX10_swap_2 ⟨Nat.zero_le _, Nat.zero_le _⟩) hS hP (fun r2 H locs wr2 hP hS => ?_)
  obtain ⟨p_1, p_2, p_3, -⟩ := wr2
  refine lv_if_eq (tgt := 21) hx hb dX10_swap_5 (by decide) (fun c5 => ?_) (fun c5 => ?_)
  · have h_4 : rg 0 0 r2 := r_eq_l_i (e := 0) (f := 0) c5 p_1 (rgn 0 (x := 0) (by decide)) (by decide)
    refine lv_bipush (v := (-2)) hx hb dX10_swap_21 (by decide) ?_
    exact W.iret (v := (-2)) hx hb hr (fun t ht hW => ⟨⟨(-2), (fun k => ([n11_3, n19_4, n19_5, n19_6, n19_7] : List Int32).getD k 0, fun k => ([f21, f22, f23, f24] : List (Nat → Int32)).getD k (fun _ => 0), fun k => ([] : List (Nat → Int64)).getD k (fun _ => 0)), rfl, ⟨(rg_w (c := (-5)) (d := 0) (rgn (-2) (x := (-2)) (by decide)) (by decide)), (fun hq => absurd hq (rne (rgn (-2) (x := (-2)) (by decide)) (y := 0) (c := 0) (by decide) (by decide))), (fun hq => absurd (req (rgn (-2) (x := (-2)) (by decide)) (y := (-2)) (by decide)) hq), (fun hq => absurd hq (rne (rgn (-2) (x := (-2)) (by decide)) (y := 0) (c := 0) (by decide) (by decide))), (fun hq => absurd (req (rgn (-2) (x := (-2)) (by decide)) (y := (-2)) (by decide)) hq), (fun hq => absurd hq (rne (rgn (-2) (x := (-2)) (by decide)) (y := 0) (c := 0) (by decide) (by decide))), (fun hq => absurd (req (rgn (-2) (x := (-2)) (by decide)) (y := (-2)) (by decide)) hq), trivial⟩, hp_at ht hP⟩, hS.F ht⟩) hS.2.2 dX10_swap_23
  · have h_5 : rg 1 1 r2 := r_ne_lo_i c5 p_1 (by decide) (by decide)
    have h_6 : rg 0 7 p0 := (p_2 (rne h_5 (y := 0) (c := 0) (by decide) (by decide)))
    have h_7 : rg 1 8 n20_1 := (p_3 (rne h_5 (y := 0) (c := 0) (by decide) (by decide)))
    refine lv_aload_n hx hb dX10_swap_8 rfl (lv_at hl 0 rfl) ?_
    refine lv_iload_n hx hb dX10_swap_9 rfl (lv_at hl 2 rfl) ?_
    refine ro_calli (va_runV (As := [.int p1]) (rest := []) ⟨hx, hb, hml, hown, hts⟩ (a_X10_isPerson l G ct a0 a1 a3 a11 a25 a68 a69 a77 a82 a84 a88 a91 a12 a19 a24 n11_3 a20 a22 a23 n19_4 n19_5 n19_6 n19_7 a21 n20_1 p1 (rg_w (c := 0) (d := 8) h_7 (by decide))) (cwV 1 hts gX10_swap_X10_isPerson rfl rfl rfl (by decide +kernel) ⟨Nat.le_of_ble_eq_true rfl, Nat.le_of_ble_eq_true rfl⟩) (ro_preV 10 0 hK (hP.sub [0, 1, 5, 6] rfl) rfl rfl) rfl rfl hl.1 rfl (lv_room (Nat.le_of_ble_eq_true rfl)) dX10_swap_10 ⟨Nat.zero_le _, Nat.zero_le _⟩) hS hP (fun r10 H locs wr10 hP hS => ?_)
    obtain ⟨p_8, p_9, p_10, -⟩ := wr10
    refine lv_if_eq (tgt := 21) hx hb dX10_swap_13 (by decide) (fun c13 => ?_) (fun c13 => ?_)
    · have h_11 : rg 0 0 r10 := r_eq_l_i (e := 0) (f := 0) c13 p_8 (rgn 0 (x := 0) (by decide)) (by decide)
      refine lv_bipush (v := (-2)) hx hb dX10_swap_21 (by decide) ?_
      exact W.iret (v := (-2)) hx hb hr (fun t ht hW => ⟨⟨(-2), (fun k => ([n11_3, n19_4, n19_5, n19_6, n19_7] : List Int32).getD k 0, fun k => ([f21, f22, f23, f24] : List (Nat → Int32)).getD k (fun _ => 0), fun k => ([] : List (Nat → Int64)).getD k (fun _ => 0)), rfl, ⟨(rg_w (c := (-5)) (d := 0) (rgn (-2) (x := (-2)) (by decide)) (by decide)), (fun _ => h_6), (fun _ => h_6), (fun hq => absurd hq (rne (rgn (-2) (x := (-2)) (by decide)) (y := 0) (c := 0) (by decide) (by decide))), (fun hq => absurd (req (rgn (-2) (x := (-2)) (by decide)) (y := (-2)) (by decide)) hq), (fun _ => h_7), (fun _ => h_7), trivial⟩, hp_at ht hP⟩, hS.F ht⟩) hS.2.2 dX10_swap_23
    · have h_12 : rg 1 1 r10 := r_ne_lo_i c13 p_8 (by decide) (by decide)
      have h_13 : rg 0 7 p1 := (p_9 (rne h_12 (y := 0) (c := 0) (by decide) (by decide)))
      refine lv_iload_n hx hb dX10_swap_16 rfl (lv_at hl 1 rfl) ?_
      refine lv_iload_n hx hb dX10_swap_17 rfl (lv_at hl 2 rfl) ?_
      refine lv_icmp_ne (tgt := 24) hx hb dX10_swap_18 (by decide) (fun c18 => ?_) (fun c18 => ?_)
      · refine lv_aload_n hx hb dX10_swap_24 rfl (lv_at hl 0 rfl) ?_
        refine ro_callr (va_runV (As := []) (rest := []) ⟨hx, hb, hml, hown, hts⟩ (a_X10_bonds l G ct a0 a1 a3 a11 a25 a68 a69 a77 a82 a84 a88 a91 a12 a19 a24 n11_3 a20 a22 a23 n19_4 n19_5 n19_6 n19_7) (cwV 0 hts gX10_swap_X10_bonds rfl rfl rfl (by decide +kernel) ⟨Nat.le_of_ble_eq_true rfl, Nat.le_of_ble_eq_true rfl⟩) (ro_preV 10 0 hK (hP.sub [0, 1, 5] rfl) rfl rfl) rfl rfl hl.1 rfl (lv_room (Nat.le_of_ble_eq_true rfl)) dX10_swap_25 ⟨Nat.zero_le _, Nat.zero_le _⟩) hS hP (fun H locs hP hS => ?_)
        refine lv_iload_n hx hb dX10_swap_28 rfl (lv_at hl 1 rfl) ?_
        refine ro_calli (va_runV (As := [.int p0]) (rest := []) ⟨hx, hb, hml, hown, hts⟩ (a_X0_holderOf l G ct a20 a21 n20_1 f21 p0 (rg_w (c := 0) (d := 8) h_7 (by decide))) (cwV 1 hts gX10_swap_X0_holderOf rfl rfl rfl (by decide +kernel) ⟨Nat.le_of_ble_eq_true rfl, Nat.le_of_ble_eq_true rfl⟩) (ro_preV 0 0 hK (hP.sub [6, 7] rfl) rfl rfl) rfl rfl hl.1 rfl (lv_room (Nat.le_of_ble_eq_true rfl)) dX10_swap_29 ⟨Nat.zero_le _, Nat.zero_le _⟩) hS hP (fun r29 H locs wr29 hP hS => ?_)
        obtain ⟨p_14, p_15, p_16, p_17, -⟩ := wr29
        refine lv_istore_n (lv' := [(3, .int r29), (0, .ref a0), (1, .int p0), (2, .int p1)]) hx hb dX10_swap_32 rfl hl (by decide) rfl (fun ls hl => ?_)
        refine lv_aload_n hx hb dX10_swap_33 rfl (lv_at hl 1 rfl) ?_
        refine ro_callr (va_runV (As := []) (rest := []) ⟨hx, hb, hml, hown, hts⟩ (a_X10_bonds l G ct a0 a1 a3 a11 a25 a68 a69 a77 a82 a84 a88 a91 a12 a19 a24 n11_3 a20 a22 a23 n19_4 n19_5 n19_6 n19_7) (cwV 0 hts gX10_swap_X10_bonds rfl rfl rfl (by decide +kernel) ⟨Nat.le_of_ble_eq_true rfl, Nat.le_of_ble_eq_true rfl⟩) (ro_preV 10 0 hK (hP.sub [0, 1, 5] rfl) rfl rfl) rfl rfl hl.1 rfl (lv_room (Nat.le_of_ble_eq_true rfl)) dX10_swap_34 ⟨Nat.zero_le _, Nat.zero_le _⟩) hS hP (fun H locs hP hS => ?_)
        refine lv_iload_n hx hb dX10_swap_37 rfl (lv_at hl 3 rfl) ?_
        refine ro_calli (va_runV (As := [.int p1]) (rest := []) ⟨hx, hb, hml, hown, hts⟩ (a_X0_holderOf l G ct a20 a21 n20_1 f21 p1 (rg_w (c := 0) (d := 8) h_7 (by decide))) (cwV 1 hts gX10_swap_X0_holderOf rfl rfl rfl (by decide +kernel) ⟨Nat.le_of_ble_eq_true rfl, Nat.le_of_ble_eq_true rfl⟩) (ro_preV 0 0 hK (hP.sub [6, 7] rfl) rfl rfl) rfl rfl hl.1 rfl (lv_room (Nat.le_of_ble_eq_true rfl)) dX10_swap_38 ⟨Nat.zero_le _, Nat.zero_le _⟩) hS hP (fun r38 H locs wr38 hP hS => ?_)
        obtain ⟨p_18, p_19, p_20, p_21, -⟩ := wr38
        refine lv_istore (lv' := [(4, .int r38), (3, .int r29), (0, .ref a0), (1, .int p0), (2, .int p1)]) hx hb dX10_swap_41 hl (by decide) rfl (fun ls hl => ?_)
        refine lv_iload_n hx hb dX10_swap_43 rfl (lv_at hl 1 rfl) ?_
        refine lv_iconst (v := (-1)) hx hb dX10_swap_44 (by decide) ?_
        refine lv_icmp_eq (tgt := 70) hx hb dX10_swap_45 (by decide) (fun c45 => ?_) (fun c45 => ?_)
        · have h_22 : rg (-1) (-1) r29 := r_eq_l_i (e := (-1)) (f := (-1)) c45 (rg_t r29) (rgn (-1) (x := (-1)) (by decide)) (by decide)
          refine lv_bipush (v := (-5)) hx hb dX10_swap_70 (by decide) ?_
          exact W.iret (v := (-5)) hx hb hr (fun t ht hW => ⟨⟨(-5), (fun k => ([n11_3, n19_4, n19_5, n19_6, n19_7] : List Int32).getD k 0, fun k => ([f21, f22, f23, f24] : List (Nat → Int32)).getD k (fun _ => 0), fun k => ([] : List (Nat → Int64)).getD k (fun _ => 0)), rfl, ⟨(rg_w (c := (-5)) (d := 0) (rgn (-5) (x := (-5)) (by decide)) (by decide)), (fun _ => h_6), (fun _ => h_6), (fun _ => h_13), (fun _ => h_13), (fun _ => h_7), (fun _ => h_7), trivial⟩, hp_at ht hP⟩, hS.F ht⟩) hS.2.2 dX10_swap_72
        · refine lv_iload hx hb dX10_swap_48 (lv_at hl 0 rfl) ?_
          refine lv_iconst (v := (-1)) hx hb dX10_swap_50 (by decide) ?_
          refine lv_icmp_eq (tgt := 70) hx hb dX10_swap_51 (by decide) (fun c51 => ?_) (fun c51 => ?_)
          · have h_23 : rg (-1) (-1) r38 := r_eq_l_i (e := (-1)) (f := (-1)) c51 (rg_t r38) (rgn (-1) (x := (-1)) (by decide)) (by decide)
            refine lv_bipush (v := (-5)) hx hb dX10_swap_70 (by decide) ?_
            exact W.iret (v := (-5)) hx hb hr (fun t ht hW => ⟨⟨(-5), (fun k => ([n11_3, n19_4, n19_5, n19_6, n19_7] : List Int32).getD k 0, fun k => ([f21, f22, f23, f24] : List (Nat → Int32)).getD k (fun _ => 0), fun k => ([] : List (Nat → Int64)).getD k (fun _ => 0)), rfl, ⟨(rg_w (c := (-5)) (d := 0) (rgn (-5) (x := (-5)) (by decide)) (by decide)), (fun _ => h_6), (fun _ => h_6), (fun _ => h_13), (fun _ => h_13), (fun _ => h_7), (fun _ => h_7), trivial⟩, hp_at ht hP⟩, hS.F ht⟩) hS.2.2 dX10_swap_72
          · refine lv_iload_n hx hb dX10_swap_54 rfl (lv_at hl 1 rfl) ?_
            refine lv_iload hx hb dX10_swap_55 (lv_at hl 0 rfl) ?_
            refine lv_icmp_eq (tgt := 70) hx hb dX10_swap_57 (by decide) (fun c57 => ?_) (fun c57 => ?_)
            · refine lv_bipush (v := (-5)) hx hb dX10_swap_70 (by decide) ?_
              exact W.iret (v := (-5)) hx hb hr (fun t ht hW => ⟨⟨(-5), (fun k => ([n11_3, n19_4, n19_5, n19_6, n19_7] : List Int32).getD k 0, fun k => ([f21, f22, f23, f24] : List (Nat → Int32)).getD k (fun _ => 0), fun k => ([] : List (Nat → Int64)).getD k (fun _ => 0)), rfl, ⟨(rg_w (c := (-5)) (d := 0) (rgn (-5) (x := (-5)) (by decide)) (by decide)), (fun _ => h_6), (fun _ => h_6), (fun _ => h_13), (fun _ => h_13), (fun _ => h_7), (fun _ => h_7), trivial⟩, hp_at ht hP⟩, hS.F ht⟩) hS.2.2 dX10_swap_72
            · refine lv_aload_n hx hb dX10_swap_60 rfl (lv_at hl 2 rfl) ?_
              refine va_get (D := G) (ci := 10) (v := .ref a11) (C := RX10) (T := TX10) (N := 11) hx hb hts (by decide +kernel) hown hK.1 hP 0 rfl rfl 2 (by decide) (hts (.fieldLink RX10 28 "CardHolder" "play" "LCardHolder$Play;") (by decide +kernel)) (fun _ h9 => h9) rfl dX10_swap_61 ?_
              refine ro_calli (va_runV (As := []) (rest := []) ⟨hx, hb, hml, hown, hts⟩ (a_X4_hasRoom l G ct a11 a12 a19 a24 n11_3) (cwV 0 hts gX10_swap_X4_hasRoom rfl rfl rfl (by decide +kernel) ⟨Nat.le_of_ble_eq_true rfl, Nat.le_of_ble_eq_true rfl⟩) (ro_preV 4 0 hK (hP.sub [1] rfl) rfl rfl) rfl rfl hl.1 rfl (lv_room (Nat.le_of_ble_eq_true rfl)) dX10_swap_64 ⟨Nat.zero_le _, Nat.zero_le _⟩) hS hP (fun r64 H locs wr64 hP hS => ?_)
              obtain ⟨p_24, p_25, p_26, -⟩ := wr64
              refine lv_if_ne (tgt := 73) hx hb dX10_swap_67 (by decide) (fun c67 => ?_) (fun c67 => ?_)
              · have h_27 : rg 1 1 r64 := r_ne_lo_i c67 p_24 (by decide) (by decide)
                have h_28 : rg (-2147483648) 39 n11_3 := (p_25 (rne h_27 (y := 0) (c := 0) (by decide) (by decide)))
                refine lv_aload_n hx hb dX10_swap_73 rfl (lv_at hl 2 rfl) ?_
                refine va_get (D := G) (ci := 10) (v := .ref a11) (C := RX10) (T := TX10) (N := 11) hx hb hts (by decide +kernel) hown hK.1 hP 0 rfl rfl 2 (by decide) (hts (.fieldLink RX10 28 "CardHolder" "play" "LCardHolder$Play;") (by decide +kernel)) (fun _ h9 => h9) rfl dX10_swap_74 ?_
                refine lv_iconst (v := 2) hx hb dX10_swap_77 (by decide) ?_
                refine lv_iload_n hx hb dX10_swap_78 rfl (lv_at hl 3 rfl) ?_
                refine lv_iload_n hx hb dX10_swap_79 rfl (lv_at hl 4 rfl) ?_
                refine lv_iconst (v := 0) hx hb dX10_swap_80 (by decide) ?_
                refine lv_iconst (v := 0) hx hb dX10_swap_81 (by decide) ?_
                refine wj_callv (wr := [(a0, .inr (10, [.ref a1, .ref a3, .ref a11, .ref a25, .ref a68, .ref a69, .ref a77, .ref a82, .ref a84, .ref a88, .ref a91]))]) (w1 := (fun u : SU => [(a11, .inr (4, [.ref a12, .ref a19, .ref a24, .int (u.1 0)])), (a12, .inr (9, [.ref a13, .ref a15, .ref a16, .ref a17, .ref a18, .int n12_5, .int n12_6])), (a13, .inr (0, [.ref a14, .int n13_1])), (a18, .inl (ct 0, 8, .inl f18)), (a19, .inr (2, [.ref a12, .ref a20, .ref a22, .ref a23, .int (u.1 1), .int (u.1 2), .int (u.1 3), .int (u.1 4)])), (a20, .inr (0, [.ref a21, .int n20_1])), (a21, .inl (ct 0, 8, .inl (u.2.1 0))), (a22, .inl (ct 0, 8, .inl (u.2.1 1))), (a23, .inl (ct 0, 8, .inl (u.2.1 2))), (a24, .inl (ct 0, 40, .inl (u.2.1 3)))])) (va_runV (As := [.int 2, .int p0, .int p1, .int 0, .int 0]) (rest := []) ⟨hx, hb, hml, hown, hts⟩ (a_X4_act l G ct a11 a12 a19 a24 n11_3 a13 a15 a16 a17 a18 n12_5 n12_6 a14 n13_1 f18 a20 a22 a23 n19_4 n19_5 n19_6 n19_7 a21 n20_1 f21 f22 f23 f24 (2 : Int32) p0 p1 (0 : Int32) (0 : Int32) hp_n13_1 (rg_w (c := 0) (d := 8) h_7 (by decide))) (cwV 5 hts gX10_swap_X4_act rfl rfl rfl (by decide +kernel) ⟨Nat.le_of_ble_eq_true rfl, Nat.le_of_ble_eq_true rfl⟩) (wr_preV 4 0 hK (hP.sub [1, 2, 3, 4, 5, 6, 7, 8, 9, 10] rfl) (hD.sub [1, 2, 3, 4, 5, 6, 7, 8, 9, 10] (by decide) rfl) rfl rfl) rfl rfl hl.1 rfl (lv_room (Nat.le_of_ble_eq_true rfl)) dX10_swap_82 ⟨Nat.zero_le _, Nat.zero_le _⟩) hS hP hD [1, 2, 3, 4, 5, 6, 7, 8, 9, 10] [0] rfl rfl (by decide) (fun _ => rfl) (fun ur82 H locs wr82 hP hD hS => ?_)
                have hP : va_P G vwCl [(a0, .inr (10, [.ref a1, .ref a3, .ref a11, .ref a25, .ref a68, .ref a69, .ref a77, .ref a82, .ref a84, .ref a88, .ref a91])), (a11, .inr (4, [.ref a12, .ref a19, .ref a24, .int (ur82.1 0)])), (a12, .inr (9, [.ref a13, .ref a15, .ref a16, .ref a17, .ref a18, .int n12_5, .int n12_6])), (a13, .inr (0, [.ref a14, .int n13_1])), (a18, .inl (ct 0, 8, .inl f18)), (a19, .inr (2, [.ref a12, .ref a20, .ref a22, .ref a23, .int (ur82.1 1), .int (ur82.1 2), .int (ur82.1 3), .int (ur82.1 4)])), (a20, .inr (0, [.ref a21, .int n20_1])), (a21, .inl (ct 0, 8, .inl (ur82.2.1 0))), (a22, .inl (ct 0, 8, .inl (ur82.2.1 1))), (a23, .inl (ct 0, 8, .inl (ur82.2.1 2))), (a24, .inl (ct 0, 40, .inl (ur82.2.1 3)))] H := hP.sub [0, 1, 2, 3, 4, 5, 6, 7, 8, 9, 10] rfl
                have hD : va_D A [(a0, .inr (10, [.ref a1, .ref a3, .ref a11, .ref a25, .ref a68, .ref a69, .ref a77, .ref a82, .ref a84, .ref a88, .ref a91])), (a11, .inr (4, [.ref a12, .ref a19, .ref a24, .int (ur82.1 0)])), (a12, .inr (9, [.ref a13, .ref a15, .ref a16, .ref a17, .ref a18, .int n12_5, .int n12_6])), (a13, .inr (0, [.ref a14, .int n13_1])), (a18, .inl (ct 0, 8, .inl f18)), (a19, .inr (2, [.ref a12, .ref a20, .ref a22, .ref a23, .int (ur82.1 1), .int (ur82.1 2), .int (ur82.1 3), .int (ur82.1 4)])), (a20, .inr (0, [.ref a21, .int n20_1])), (a21, .inl (ct 0, 8, .inl (ur82.2.1 0))), (a22, .inl (ct 0, 8, .inl (ur82.2.1 1))), (a23, .inl (ct 0, 8, .inl (ur82.2.1 2))), (a24, .inl (ct 0, 40, .inl (ur82.2.1 3)))] := hD.sub [0, 1, 2, 3, 4, 5, 6, 7, 8, 9, 10] (by decide) rfl
                refine lv_iconst (v := 0) hx hb dX10_swap_85 (by decide) ?_
                exact W.iret (v := 0) hx hb hr (fun t ht hW => ⟨⟨0, (fun k => ([ur82.1 0, ur82.1 1, ur82.1 2, ur82.1 3, ur82.1 4] : List Int32).getD k 0, fun k => ([ur82.2.1 0, ur82.2.1 1, ur82.2.1 2, ur82.2.1 3] : List (Nat → Int32)).getD k (fun _ => 0), fun k => ([] : List (Nat → Int64)).getD k (fun _ => 0)), rfl, ⟨(rg_w (c := (-5)) (d := 0) (rgn 0 (x := 0) (by decide)) (by decide)), (fun _ => h_6), (fun _ => h_6), (fun _ => h_13), (fun _ => h_13), (fun _ => h_7), (fun _ => h_7), trivial⟩, hp_at ht hP⟩, hS.F ht⟩) hS.2.2 dX10_swap_86
              · have h_29 : rg 0 0 r64 := r_eq_l_i (e := 0) (f := 0) c67 p_24 (rgn 0 (x := 0) (by decide)) (by decide)
                have h_30 : rg 40 2147483647 n11_3 := (p_26 (req h_29 (y := 0) (by decide)))
                refine lv_bipush (v := (-5)) hx hb dX10_swap_70 (by decide) ?_
                exact W.iret (v := (-5)) hx hb hr (fun t ht hW => ⟨⟨(-5), (fun k => ([n11_3, n19_4, n19_5, n19_6, n19_7] : List Int32).getD k 0, fun k => ([f21, f22, f23, f24] : List (Nat → Int32)).getD k (fun _ => 0), fun k => ([] : List (Nat → Int64)).getD k (fun _ => 0)), rfl, ⟨(rg_w (c := (-5)) (d := 0) (rgn (-5) (x := (-5)) (by decide)) (by decide)), (fun _ => h_6), (fun _ => h_6), (fun _ => h_13), (fun _ => h_13), (fun _ => h_7), (fun _ => h_7), trivial⟩, hp_at ht hP⟩, hS.F ht⟩) hS.2.2 dX10_swap_72
      · refine lv_bipush (v := (-2)) hx hb dX10_swap_21 (by decide) ?_
        exact W.iret (v := (-2)) hx hb hr (fun t ht hW => ⟨⟨(-2), (fun k => ([n11_3, n19_4, n19_5, n19_6, n19_7] : List Int32).getD k 0, fun k => ([f21, f22, f23, f24] : List (Nat → Int32)).getD k (fun _ => 0), fun k => ([] : List (Nat → Int64)).getD k (fun _ => 0)), rfl, ⟨(rg_w (c := (-5)) (d := 0) (rgn (-2) (x := (-2)) (by decide)) (by decide)), (fun _ => h_6), (fun _ => h_6), (fun _ => h_13), (fun _ => h_13), (fun _ => h_7), (fun _ => h_7), trivial⟩, hp_at ht hP⟩, hS.F ht⟩) hS.2.2 dX10_swap_23

set_option maxHeartbeats 4000000 in
set_option maxRecDepth 100000 in
theorem a_X10_steal (l : Launch) (G : va_G) (ct : Nat → ClassId) (a0 : Nat) (a1 : Nat) (a3 : Nat) (a11 : Nat) (a25 : Nat) (a68 : Nat) (a69 : Nat) (a77 : Nat) (a82 : Nat) (a84 : Nat) (a88 : Nat) (a91 : Nat) (a12 : Nat) (a19 : Nat) (a24 : Nat) (n11_3 : Int32) (a13 : Nat) (a15 : Nat) (a16 : Nat) (a17 : Nat) (a18 : Nat) (n12_5 : Int32) (n12_6 : Int32) (a14 : Nat) (n13_1 : Int32) (f18 : Nat → Int32) (a20 : Nat) (a22 : Nat) (a23 : Nat) (n19_4 : Int32) (n19_5 : Int32) (n19_6 : Int32) (n19_7 : Int32) (a21 : Nat) (n20_1 : Int32) (f21 : Nat → Int32) (f22 : Nat → Int32) (f23 : Nat → Int32) (f24 : Nat → Int32) (p0 : Int32) (p1 : Int32) (hp_n13_1 : rg 0 8 n13_1) (hp_n20_1 : rg 0 8 n20_1) : Met l yX10_steal wsX10_steal ({ frames := 5, cells := 0, slots := 0, locals := 114 }) (va_Pc [.ref a0, .int p0, .int p1] (wrP G ct [(a0, .inr (10, [.ref a1, .ref a3, .ref a11, .ref a25, .ref a68, .ref a69, .ref a77, .ref a82, .ref a84, .ref a88, .ref a91])), (a11, .inr (4, [.ref a12, .ref a19, .ref a24, .int n11_3])), (a12, .inr (9, [.ref a13, .ref a15, .ref a16, .ref a17, .ref a18, .int n12_5, .int n12_6])), (a13, .inr (0, [.ref a14, .int n13_1])), (a18, .inl (ct 0, 8, .inl f18)), (a19, .inr (2, [.ref a12, .ref a20, .ref a22, .ref a23, .int n19_4, .int n19_5, .int n19_6, .int n19_7])), (a20, .inr (0, [.ref a21, .int n20_1])), (a21, .inl (ct 0, 8, .inl f21)), (a22, .inl (ct 0, 8, .inl f22)), (a23, .inl (ct 0, 8, .inl f23)), (a24, .inl (ct 0, 40, .inl f24))])) (va_Qi (fun (r : Int32) (u : SU) => (r = 0 → rg 0 7 p0) ∧ (¬ r = (-2) → rg 0 7 p0) ∧ (r = 0 → rg 0 7 p1) ∧ (¬ r = (-2) → rg 0 7 p1) ∧ (r = 0 → rg 1 8 n20_1) ∧ (¬ r = (-2) → rg 1 8 n20_1) ∧ True) (fun u t => va_P G vwCl ((fun u : SU => [(a0, .inr (10, [.ref a1, .ref a3, .ref a11, .ref a25, .ref a68, .ref a69, .ref a77, .ref a82, .ref a84, .ref a88, .ref a91])), (a11, .inr (4, [.ref a12, .ref a19, .ref a24, .int (u.1 0)])), (a12, .inr (9, [.ref a13, .ref a15, .ref a16, .ref a17, .ref a18, .int n12_5, .int n12_6])), (a13, .inr (0, [.ref a14, .int n13_1])), (a18, .inl (ct 0, 8, .inl f18)), (a19, .inr (2, [.ref a12, .ref a20, .ref a22, .ref a23, .int (u.1 1), .int (u.1 2), .int (u.1 3), .int (u.1 4)])), (a20, .inr (0, [.ref a21, .int n20_1])), (a21, .inl (ct 0, 8, .inl (u.2.1 0))), (a22, .inl (ct 0, 8, .inl (u.2.1 1))), (a23, .inl (ct 0, 8, .inl (u.2.1 2))), (a24, .inl (ct 0, 40, .inl (u.2.1 3)))]) u) t.heap) (aset [(a0, .inr (10, [.ref a1, .ref a3, .ref a11, .ref a25, .ref a68, .ref a69, .ref a77, .ref a82, .ref a84, .ref a88, .ref a91])), (a11, .inr (4, [.ref a12, .ref a19, .ref a24, .int n11_3])), (a12, .inr (9, [.ref a13, .ref a15, .ref a16, .ref a17, .ref a18, .int n12_5, .int n12_6])), (a13, .inr (0, [.ref a14, .int n13_1])), (a18, .inl (ct 0, 8, .inl f18)), (a19, .inr (2, [.ref a12, .ref a20, .ref a22, .ref a23, .int n19_4, .int n19_5, .int n19_6, .int n19_7])), (a20, .inr (0, [.ref a21, .int n20_1])), (a21, .inl (ct 0, 8, .inl f21)), (a22, .inl (ct 0, 8, .inl f22)), (a23, .inl (ct 0, 8, .inl f23)), (a24, .inl (ct 0, 40, .inl f24))])) 0 0 (aset [(a0, .inr (10, [.ref a1, .ref a3, .ref a11, .ref a25, .ref a68, .ref a69, .ref a77, .ref a82, .ref a84, .ref a88, .ref a91])), (a11, .inr (4, [.ref a12, .ref a19, .ref a24, .int n11_3])), (a12, .inr (9, [.ref a13, .ref a15, .ref a16, .ref a17, .ref a18, .int n12_5, .int n12_6])), (a13, .inr (0, [.ref a14, .int n13_1])), (a18, .inl (ct 0, 8, .inl f18)), (a19, .inr (2, [.ref a12, .ref a20, .ref a22, .ref a23, .int n19_4, .int n19_5, .int n19_6, .int n19_7])), (a20, .inr (0, [.ref a21, .int n20_1])), (a21, .inl (ct 0, 8, .inl f21)), (a22, .inl (ct 0, 8, .inl f22)), (a23, .inl (ct 0, 8, .inl f23)), (a24, .inl (ct 0, 40, .inl f24))]) := by
  refine Met.ofW (cc := cX10_steal) (maxL := 5) (ret := (some .int)) (by decide) rfl ?_
  intro p e s m args below meth c s₁ B hml hv
  obtain ⟨rfl, hP, hK, hD0⟩ := hv
  have hx := B.exec
  have hb := B.bytes
  have hr := B.returns
  have hts := atoms_spec (ws := wsX10_steal) B.pre
  have hown : s.vm.findClass RX10 = some m.cls := findClass_of_methodNamed B.named
  have hlocks := B.notSynchronized
  have hD := hD0.aself
  generalize hAe : aset [(a0, .inr (10, [.ref a1, .ref a3, .ref a11, .ref a25, .ref a68, .ref a69, .ref a77, .ref a82, .ref a84, .ref a88, .ref a91])), (a11, .inr (4, [.ref a12, .ref a19, .ref a24, .int n11_3])), (a12, .inr (9, [.ref a13, .ref a15, .ref a16, .ref a17, .ref a18, .int n12_5, .int n12_6])), (a13, .inr (0, [.ref a14, .int n13_1])), (a18, .inl (ct 0, 8, .inl f18)), (a19, .inr (2, [.ref a12, .ref a20, .ref a22, .ref a23, .int n19_4, .int n19_5, .int n19_6, .int n19_7])), (a20, .inr (0, [.ref a21, .int n20_1])), (a21, .inl (ct 0, 8, .inl f21)), (a22, .inl (ct 0, 8, .inl f22)), (a23, .inl (ct 0, 8, .inl f23)), (a24, .inl (ct 0, 40, .inl f24))] = A at hD ⊢
  have hS : va_S A s.heap s.heap [] := va_S.rf
  have hl := lv_entry ([.ref a0, .int p0, .int p1]) (n := 5) (Nat.le_of_ble_eq_true rfl)
  rw [lg_entry_eq]
  generalize (lg_sl ([.ref a0, .int p0, .int p1]) ++ List.replicate (5 - (lg_sl ([.ref a0, .int p0, .int p1])).length) Slot.unset).toArray = ls at hl ⊢
  have hl : lv_has ls 5 [(0, .ref a0), (1, .int p0), (2, .int p1)] := hl
  refine lv_aload_n hx hb dX10_steal_0 rfl (lv_at hl 0 rfl) ?_
  refine lv_iload_n hx hb dX10_steal_1 rfl (lv_at hl 1 rfl) ?_
  refine ro_calli (va_runV (As := [.int p0]) (rest := []) ⟨hx, hb, hml, hown, hts⟩ (a_X10_isPerson l G ct a0 a1 a3 a11 a25 a68 a69 a77 a82 a84 a88 a91 a12 a19 a24 n11_3 a20 a22 a23 n19_4 n19_5 n19_6 n19_7 a21 n20_1 p0 hp_n20_1) (cwV 1 hts gX10_steal_X10_isPerson rfl rfl rfl (by decide +kernel) ⟨Nat.le_of_ble_eq_true rfl, Nat.le_of_ble_eq_true rfl⟩) (ro_preV 10 0 hK (hP.sub [0, 1, 5, 6] rfl) rfl rfl) rfl rfl hl.1 rfl (lv_room (Nat.le_of_ble_eq_true rfl)) dX10_steal_2 ⟨Nat.zero_le _, Nat.zero_le _⟩) hS hP (fun r2 H locs wr2 hP hS => ?_)
  obtain ⟨p_1, p_2, p_3, -⟩ := wr2
  refine lv_if_eq (tgt := 16) hx hb dX10_steal_5 (by decide) (fun c5 => ?_) (fun c5 => ?_)
  · have h_4 : rg 0 0 r2 := r_eq_l_i (e := 0) (f := 0) c5 p_1 (rgn 0 (x := 0) (by decide)) (by decide)
    refine lv_bipush (v := (-2)) hx hb dX10_steal_16 (by decide) ?_
    exact W.iret (v := (-2)) hx hb hr (fun t ht hW => ⟨⟨(-2), (fun k => ([n11_3, n19_4, n19_5, n19_6, n19_7] : List Int32).getD k 0, fun k => ([f21, f22, f23, f24] : List (Nat → Int32)).getD k (fun _ => 0), fun k => ([] : List (Nat → Int64)).getD k (fun _ => 0)), rfl, ⟨(fun hq => absurd hq (rne (rgn (-2) (x := (-2)) (by decide)) (y := 0) (c := 0) (by decide) (by decide))), (fun hq => absurd (req (rgn (-2) (x := (-2)) (by decide)) (y := (-2)) (by decide)) hq), (fun hq => absurd hq (rne (rgn (-2) (x := (-2)) (by decide)) (y := 0) (c := 0) (by decide) (by decide))), (fun hq => absurd (req (rgn (-2) (x := (-2)) (by decide)) (y := (-2)) (by decide)) hq), (fun hq => absurd hq (rne (rgn (-2) (x := (-2)) (by decide)) (y := 0) (c := 0) (by decide) (by decide))), (fun hq => absurd (req (rgn (-2) (x := (-2)) (by decide)) (y := (-2)) (by decide)) hq), trivial⟩, hp_at ht hP⟩, hS.F ht⟩) hS.2.2 dX10_steal_18
  · have h_5 : rg 1 1 r2 := r_ne_lo_i c5 p_1 (by decide) (by decide)
    have h_6 : rg 0 7 p0 := (p_2 (rne h_5 (y := 0) (c := 0) (by decide) (by decide)))
    have h_7 : rg 1 8 n20_1 := (p_3 (rne h_5 (y := 0) (c := 0) (by decide) (by decide)))
    refine lv_aload_n hx hb dX10_steal_8 rfl (lv_at hl 0 rfl) ?_
    refine lv_iload_n hx hb dX10_steal_9 rfl (lv_at hl 2 rfl) ?_
    refine ro_calli (va_runV (As := [.int p1]) (rest := []) ⟨hx, hb, hml, hown, hts⟩ (a_X10_isPerson l G ct a0 a1 a3 a11 a25 a68 a69 a77 a82 a84 a88 a91 a12 a19 a24 n11_3 a20 a22 a23 n19_4 n19_5 n19_6 n19_7 a21 n20_1 p1 (rg_w (c := 0) (d := 8) h_7 (by decide))) (cwV 1 hts gX10_steal_X10_isPerson rfl rfl rfl (by decide +kernel) ⟨Nat.le_of_ble_eq_true rfl, Nat.le_of_ble_eq_true rfl⟩) (ro_preV 10 0 hK (hP.sub [0, 1, 5, 6] rfl) rfl rfl) rfl rfl hl.1 rfl (lv_room (Nat.le_of_ble_eq_true rfl)) dX10_steal_10 ⟨Nat.zero_le _, Nat.zero_le _⟩) hS hP (fun r10 H locs wr10 hP hS => ?_)
    obtain ⟨p_8, p_9, p_10, -⟩ := wr10
    refine lv_if_ne (tgt := 19) hx hb dX10_steal_13 (by decide) (fun c13 => ?_) (fun c13 => ?_)
    · have h_11 : rg 1 1 r10 := r_ne_lo_i c13 p_8 (by decide) (by decide)
      have h_12 : rg 0 7 p1 := (p_9 (rne h_11 (y := 0) (c := 0) (by decide) (by decide)))
      refine lv_aload_n hx hb dX10_steal_19 rfl (lv_at hl 0 rfl) ?_
      refine ro_callr (va_runV (As := []) (rest := []) ⟨hx, hb, hml, hown, hts⟩ (a_X10_bonds l G ct a0 a1 a3 a11 a25 a68 a69 a77 a82 a84 a88 a91 a12 a19 a24 n11_3 a20 a22 a23 n19_4 n19_5 n19_6 n19_7) (cwV 0 hts gX10_steal_X10_bonds rfl rfl rfl (by decide +kernel) ⟨Nat.le_of_ble_eq_true rfl, Nat.le_of_ble_eq_true rfl⟩) (ro_preV 10 0 hK (hP.sub [0, 1, 5] rfl) rfl rfl) rfl rfl hl.1 rfl (lv_room (Nat.le_of_ble_eq_true rfl)) dX10_steal_20 ⟨Nat.zero_le _, Nat.zero_le _⟩) hS hP (fun H locs hP hS => ?_)
      refine lv_iload_n hx hb dX10_steal_23 rfl (lv_at hl 2 rfl) ?_
      refine ro_calli (va_runV (As := [.int p1]) (rest := []) ⟨hx, hb, hml, hown, hts⟩ (a_X0_holderOf l G ct a20 a21 n20_1 f21 p1 (rg_w (c := 0) (d := 8) h_7 (by decide))) (cwV 1 hts gX10_steal_X0_holderOf rfl rfl rfl (by decide +kernel) ⟨Nat.le_of_ble_eq_true rfl, Nat.le_of_ble_eq_true rfl⟩) (ro_preV 0 0 hK (hP.sub [6, 7] rfl) rfl rfl) rfl rfl hl.1 rfl (lv_room (Nat.le_of_ble_eq_true rfl)) dX10_steal_24 ⟨Nat.zero_le _, Nat.zero_le _⟩) hS hP (fun r24 H locs wr24 hP hS => ?_)
      obtain ⟨p_13, p_14, p_15, p_16, -⟩ := wr24
      refine lv_istore_n (lv' := [(3, .int r24), (0, .ref a0), (1, .int p0), (2, .int p1)]) hx hb dX10_steal_27 rfl hl (by decide) rfl (fun ls hl => ?_)
      refine lv_aload_n hx hb dX10_steal_28 rfl (lv_at hl 1 rfl) ?_
      refine va_get (D := G) (ci := 10) (v := .ref a11) (C := RX10) (T := TX10) (N := 11) hx hb hts (by decide +kernel) hown hK.1 hP 0 rfl rfl 2 (by decide) (hts (.fieldLink RX10 28 "CardHolder" "play" "LCardHolder$Play;") (by decide +kernel)) (fun _ h9 => h9) rfl dX10_steal_29 ?_
      refine va_get (D := G) (ci := 4) (v := .ref a19) (C := RX4) (T := TX4) (N := 4) hx hb hts (by decide +kernel) hown hK.1 hP 1 rfl rfl 1 (by decide) (hts (.fieldLink RX10 147 "CardHolder$Play" "hands" "LCardHolder$Hands;") (by decide +kernel)) (fun _ h9 => h9) rfl dX10_steal_32 ?_
      refine va_get (D := G) (ci := 2) (v := .int n19_5) (C := RX2) (T := TX2) (N := 8) hx hb hts (by decide +kernel) hown hK.1 hP 5 rfl rfl 5 (by decide) (hts (.fieldLink RX10 220 "CardHolder$Hands" "stolen" "I") (by decide +kernel)) (fun _ h9 => h9) rfl dX10_steal_35 ?_
      refine lv_iload_n hx hb dX10_steal_38 rfl (lv_at hl 3 rfl) ?_
      refine ro_calli (va_runS (As := [.int n19_5, .int p1]) (rest := []) ⟨hx, hb, hml, hown, hts⟩ (a_X10_bitOf l G ct n19_5 p1) (va_cwS 2 hts gX10_steal_X10_bitOf rfl rfl rfl (by decide +kernel) ⟨Nat.le_of_ble_eq_true rfl, Nat.le_of_ble_eq_true rfl⟩) (ro_pre hK (hP.sub [] rfl)) rfl rfl hl.1 rfl (lv_room (Nat.le_of_ble_eq_true rfl)) dX10_steal_39 ⟨Nat.zero_le _, Nat.zero_le _⟩) hS hP (fun r39 H locs wr39 hP hS => ?_)
      obtain ⟨p_17, -⟩ := wr39
      refine lv_iconst (v := 1) hx hb dX10_steal_42 (by decide) ?_
      have j51 : ∀ (y51_0 : Int32) (H : Heap) (locs : List Loc) (ls : Array Slot), rg 0 1 y51_0 → va_P G vwCl [(a0, .inr (10, [.ref a1, .ref a3, .ref a11, .ref a25, .ref a68, .ref a69, .ref a77, .ref a82, .ref a84, .ref a88, .ref a91])), (a11, .inr (4, [.ref a12, .ref a19, .ref a24, .int n11_3])), (a12, .inr (9, [.ref a13, .ref a15, .ref a16, .ref a17, .ref a18, .int n12_5, .int n12_6])), (a13, .inr (0, [.ref a14, .int n13_1])), (a18, .inl (ct 0, 8, .inl f18)), (a19, .inr (2, [.ref a12, .ref a20, .ref a22, .ref a23, .int n19_4, .int n19_5, .int n19_6, .int n19_7])), (a20, .inr (0, [.ref a21, .int n20_1])), (a21, .inl (ct 0, 8, .inl f21)), (a22, .inl (ct 0, 8, .inl f22)), (a23, .inl (ct 0, 8, .inl f23)), (a24, .inl (ct 0, 40, .inl f24))] H → va_D A [(a0, .inr (10, [.ref a1, .ref a3, .ref a11, .ref a25, .ref a68, .ref a69, .ref a77, .ref a82, .ref a84, .ref a88, .ref a91])), (a11, .inr (4, [.ref a12, .ref a19, .ref a24, .int n11_3])), (a12, .inr (9, [.ref a13, .ref a15, .ref a16, .ref a17, .ref a18, .int n12_5, .int n12_6])), (a13, .inr (0, [.ref a14, .int n13_1])), (a18, .inl (ct 0, 8, .inl f18)), (a19, .inr (2, [.ref a12, .ref a20, .ref a22, .ref a23, .int n19_4, .int n19_5, .int n19_6, .int n19_7])), (a20, .inr (0, [.ref a21, .int n20_1])), (a21, .inl (ct 0, 8, .inl f21)), (a22, .inl (ct 0, 8, .inl f22)), (a23, .inl (ct 0, 8, .inl f23)), (a24, .inl (ct 0, 40, .inl f24))] → va_S A s.heap H locs → lv_has ls 5 [(0, .ref a0), (1, .int p0), (2, .int p1), (3, .int r24)] → W p l e (headSpec wsX10_steal ({ frames := 5, cells := 0, slots := 0, locals := 114 })).room s m ([.ref a0, .int p0, .int p1] : List Value).toArray below meth c H locs 0 0 (MQ below (va_Qi (fun (r : Int32) (u : SU) => (r = 0 → rg 0 7 p0) ∧ (¬ r = (-2) → rg 0 7 p0) ∧ (r = 0 → rg 0 7 p1) ∧ (¬ r = (-2) → rg 0 7 p1) ∧ (r = 0 → rg 1 8 n20_1) ∧ (¬ r = (-2) → rg 1 8 n20_1) ∧ True) (fun u t => va_P G vwCl ((fun u : SU => [(a0, .inr (10, [.ref a1, .ref a3, .ref a11, .ref a25, .ref a68, .ref a69, .ref a77, .ref a82, .ref a84, .ref a88, .ref a91])), (a11, .inr (4, [.ref a12, .ref a19, .ref a24, .int (u.1 0)])), (a12, .inr (9, [.ref a13, .ref a15, .ref a16, .ref a17, .ref a18, .int n12_5, .int n12_6])), (a13, .inr (0, [.ref a14, .int n13_1])), (a18, .inl (ct 0, 8, .inl f18)), (a19, .inr (2, [.ref a12, .ref a20, .ref a22, .ref a23, .int (u.1 1), .int (u.1 2), .int (u.1 3), .int (u.1 4)])), (a20, .inr (0, [.ref a21, .int n20_1])), (a21, .inl (ct 0, 8, .inl (u.2.1 0))), (a22, .inl (ct 0, 8, .inl (u.2.1 1))), (a23, .inl (ct 0, 8, .inl (u.2.1 2))), (a24, .inl (ct 0, 40, .inl (u.2.1 3)))]) u) t.heap) A) ([.ref a0, .int p0, .int p1] : List Value).toArray s 0 0 A) (F0 m 51 ls [.int y51_0]) := by
        intro y51_0 H locs ls hy51_0 hP hD hS hl
        refine lv_istore (lv' := [(4, .int y51_0), (0, .ref a0), (1, .int p0), (2, .int p1), (3, .int r24)]) hx hb dX10_steal_51 hl (by decide) rfl (fun ls hl => ?_)
        refine lv_iload_n hx hb dX10_steal_53 rfl (lv_at hl 4 rfl) ?_
        refine lv_iconst (v := (-1)) hx hb dX10_steal_54 (by decide) ?_
        refine lv_icmp_eq (tgt := 78) hx hb dX10_steal_55 (by decide) (fun c55 => ?_) (fun c55 => ?_)
        · have h_18 : rg (-1) (-1) r24 := r_eq_l_i (e := (-1)) (f := (-1)) c55 (rg_t r24) (rgn (-1) (x := (-1)) (by decide)) (by decide)
          refine lv_bipush (v := (-5)) hx hb dX10_steal_78 (by decide) ?_
          exact W.iret (v := (-5)) hx hb hr (fun t ht hW => ⟨⟨(-5), (fun k => ([n11_3, n19_4, n19_5, n19_6, n19_7] : List Int32).getD k 0, fun k => ([f21, f22, f23, f24] : List (Nat → Int32)).getD k (fun _ => 0), fun k => ([] : List (Nat → Int64)).getD k (fun _ => 0)), rfl, ⟨(fun _ => h_6), (fun _ => h_6), (fun _ => h_12), (fun _ => h_12), (fun _ => h_7), (fun _ => h_7), trivial⟩, hp_at ht hP⟩, hS.F ht⟩) hS.2.2 dX10_steal_80
        · refine lv_iload_n hx hb dX10_steal_58 rfl (lv_at hl 4 rfl) ?_
          refine lv_iload_n hx hb dX10_steal_59 rfl (lv_at hl 2 rfl) ?_
          refine lv_icmp_eq (tgt := 78) hx hb dX10_steal_60 (by decide) (fun c60 => ?_) (fun c60 => ?_)
          · have h_19 : rg 0 7 r24 := r_eq_l_i (e := 0) (f := 7) c60 (rg_t r24) h_6 (by decide)
            refine lv_bipush (v := (-5)) hx hb dX10_steal_78 (by decide) ?_
            exact W.iret (v := (-5)) hx hb hr (fun t ht hW => ⟨⟨(-5), (fun k => ([n11_3, n19_4, n19_5, n19_6, n19_7] : List Int32).getD k 0, fun k => ([f21, f22, f23, f24] : List (Nat → Int32)).getD k (fun _ => 0), fun k => ([] : List (Nat → Int64)).getD k (fun _ => 0)), rfl, ⟨(fun _ => h_6), (fun _ => h_6), (fun _ => h_12), (fun _ => h_12), (fun _ => h_7), (fun _ => h_7), trivial⟩, hp_at ht hP⟩, hS.F ht⟩) hS.2.2 dX10_steal_80
          · refine lv_iload hx hb dX10_steal_63 (lv_at hl 0 rfl) ?_
            refine lv_if_ne (tgt := 78) hx hb dX10_steal_65 (by decide) (fun c65 => ?_) (fun c65 => ?_)
            · have h_20 : rg 1 1 y51_0 := r_ne_lo_i c65 hy51_0 (by decide) (by decide)
              refine lv_bipush (v := (-5)) hx hb dX10_steal_78 (by decide) ?_
              exact W.iret (v := (-5)) hx hb hr (fun t ht hW => ⟨⟨(-5), (fun k => ([n11_3, n19_4, n19_5, n19_6, n19_7] : List Int32).getD k 0, fun k => ([f21, f22, f23, f24] : List (Nat → Int32)).getD k (fun _ => 0), fun k => ([] : List (Nat → Int64)).getD k (fun _ => 0)), rfl, ⟨(fun _ => h_6), (fun _ => h_6), (fun _ => h_12), (fun _ => h_12), (fun _ => h_7), (fun _ => h_7), trivial⟩, hp_at ht hP⟩, hS.F ht⟩) hS.2.2 dX10_steal_80
            · have h_21 : rg 0 0 y51_0 := r_eq_l_i (e := 0) (f := 0) c65 hy51_0 (rgn 0 (x := 0) (by decide)) (by decide)
              refine lv_aload_n hx hb dX10_steal_68 rfl (lv_at hl 1 rfl) ?_
              refine va_get (D := G) (ci := 10) (v := .ref a11) (C := RX10) (T := TX10) (N := 11) hx hb hts (by decide +kernel) hown hK.1 hP 0 rfl rfl 2 (by decide) (hts (.fieldLink RX10 28 "CardHolder" "play" "LCardHolder$Play;") (by decide +kernel)) (fun _ h9 => h9) rfl dX10_steal_69 ?_
              refine ro_calli (va_runV (As := []) (rest := []) ⟨hx, hb, hml, hown, hts⟩ (a_X4_hasRoom l G ct a11 a12 a19 a24 n11_3) (cwV 0 hts gX10_steal_X4_hasRoom rfl rfl rfl (by decide +kernel) ⟨Nat.le_of_ble_eq_true rfl, Nat.le_of_ble_eq_true rfl⟩) (ro_preV 4 0 hK (hP.sub [1] rfl) rfl rfl) rfl rfl hl.1 rfl (lv_room (Nat.le_of_ble_eq_true rfl)) dX10_steal_72 ⟨Nat.zero_le _, Nat.zero_le _⟩) hS hP (fun r72 H locs wr72 hP hS => ?_)
              obtain ⟨p_22, p_23, p_24, -⟩ := wr72
              refine lv_if_ne (tgt := 81) hx hb dX10_steal_75 (by decide) (fun c75 => ?_) (fun c75 => ?_)
              · have h_25 : rg 1 1 r72 := r_ne_lo_i c75 p_22 (by decide) (by decide)
                have h_26 : rg (-2147483648) 39 n11_3 := (p_23 (rne h_25 (y := 0) (c := 0) (by decide) (by decide)))
                refine lv_aload_n hx hb dX10_steal_81 rfl (lv_at hl 1 rfl) ?_
                refine va_get (D := G) (ci := 10) (v := .ref a11) (C := RX10) (T := TX10) (N := 11) hx hb hts (by decide +kernel) hown hK.1 hP 0 rfl rfl 2 (by decide) (hts (.fieldLink RX10 28 "CardHolder" "play" "LCardHolder$Play;") (by decide +kernel)) (fun _ h9 => h9) rfl dX10_steal_82 ?_
                refine lv_iconst (v := 3) hx hb dX10_steal_85 (by decide) ?_
                refine lv_iload_n hx hb dX10_steal_86 rfl (lv_at hl 2 rfl) ?_
                refine lv_iload_n hx hb dX10_steal_87 rfl (lv_at hl 3 rfl) ?_
                refine lv_iconst (v := 0) hx hb dX10_steal_88 (by decide) ?_
                refine lv_iconst (v := 0) hx hb dX10_steal_89 (by decide) ?_
                refine wj_callv (wr := [(a0, .inr (10, [.ref a1, .ref a3, .ref a11, .ref a25, .ref a68, .ref a69, .ref a77, .ref a82, .ref a84, .ref a88, .ref a91]))]) (w1 := (fun u : SU => [(a11, .inr (4, [.ref a12, .ref a19, .ref a24, .int (u.1 0)])), (a12, .inr (9, [.ref a13, .ref a15, .ref a16, .ref a17, .ref a18, .int n12_5, .int n12_6])), (a13, .inr (0, [.ref a14, .int n13_1])), (a18, .inl (ct 0, 8, .inl f18)), (a19, .inr (2, [.ref a12, .ref a20, .ref a22, .ref a23, .int (u.1 1), .int (u.1 2), .int (u.1 3), .int (u.1 4)])), (a20, .inr (0, [.ref a21, .int n20_1])), (a21, .inl (ct 0, 8, .inl (u.2.1 0))), (a22, .inl (ct 0, 8, .inl (u.2.1 1))), (a23, .inl (ct 0, 8, .inl (u.2.1 2))), (a24, .inl (ct 0, 40, .inl (u.2.1 3)))])) (va_runV (As := [.int 3, .int p0, .int p1, .int 0, .int 0]) (rest := []) ⟨hx, hb, hml, hown, hts⟩ (a_X4_act l G ct a11 a12 a19 a24 n11_3 a13 a15 a16 a17 a18 n12_5 n12_6 a14 n13_1 f18 a20 a22 a23 n19_4 n19_5 n19_6 n19_7 a21 n20_1 f21 f22 f23 f24 (3 : Int32) p0 p1 (0 : Int32) (0 : Int32) hp_n13_1 (rg_w (c := 0) (d := 8) h_7 (by decide))) (cwV 5 hts gX10_steal_X4_act rfl rfl rfl (by decide +kernel) ⟨Nat.le_of_ble_eq_true rfl, Nat.le_of_ble_eq_true rfl⟩) (wr_preV 4 0 hK (hP.sub [1, 2, 3, 4, 5, 6, 7, 8, 9, 10] rfl) (hD.sub [1, 2, 3, 4, 5, 6, 7, 8, 9, 10] (by decide) rfl) rfl rfl) rfl rfl hl.1 rfl (lv_room (Nat.le_of_ble_eq_true rfl)) dX10_steal_90 ⟨Nat.zero_le _, Nat.zero_le _⟩) hS hP hD [1, 2, 3, 4, 5, 6, 7, 8, 9, 10] [0] rfl rfl (by decide) (fun _ => rfl) (fun ur90 H locs wr90 hP hD hS => ?_)
                have hP : va_P G vwCl [(a0, .inr (10, [.ref a1, .ref a3, .ref a11, .ref a25, .ref a68, .ref a69, .ref a77, .ref a82, .ref a84, .ref a88, .ref a91])), (a11, .inr (4, [.ref a12, .ref a19, .ref a24, .int (ur90.1 0)])), (a12, .inr (9, [.ref a13, .ref a15, .ref a16, .ref a17, .ref a18, .int n12_5, .int n12_6])), (a13, .inr (0, [.ref a14, .int n13_1])), (a18, .inl (ct 0, 8, .inl f18)), (a19, .inr (2, [.ref a12, .ref a20, .ref a22, .ref a23, .int (ur90.1 1), .int (ur90.1 2), .int (ur90.1 3), .int (ur90.1 4)])), (a20, .inr (0, [.ref a21, .int n20_1])), (a21, .inl (ct 0, 8, .inl (ur90.2.1 0))), (a22, .inl (ct 0, 8, .inl (ur90.2.1 1))), (a23, .inl (ct 0, 8, .inl (ur90.2.1 2))), (a24, .inl (ct 0, 40, .inl (ur90.2.1 3)))] H := hP.sub [0, 1, 2, 3, 4, 5, 6, 7, 8, 9, 10] rfl
                have hD : va_D A [(a0, .inr (10, [.ref a1, .ref a3, .ref a11, .ref a25, .ref a68, .ref a69, .ref a77, .ref a82, .ref a84, .ref a88, .ref a91])), (a11, .inr (4, [.ref a12, .ref a19, .ref a24, .int (ur90.1 0)])), (a12, .inr (9, [.ref a13, .ref a15, .ref a16, .ref a17, .ref a18, .int n12_5, .int n12_6])), (a13, .inr (0, [.ref a14, .int n13_1])), (a18, .inl (ct 0, 8, .inl f18)), (a19, .inr (2, [.ref a12, .ref a20, .ref a22, .ref a23, .int (ur90.1 1), .int (ur90.1 2), .int (ur90.1 3), .int (ur90.1 4)])), (a20, .inr (0, [.ref a21, .int n20_1])), (a21, .inl (ct 0, 8, .inl (ur90.2.1 0))), (a22, .inl (ct 0, 8, .inl (ur90.2.1 1))), (a23, .inl (ct 0, 8, .inl (ur90.2.1 2))), (a24, .inl (ct 0, 40, .inl (ur90.2.1 3)))] := hD.sub [0, 1, 2, 3, 4, 5, 6, 7, 8, 9, 10] (by decide) rfl
                refine lv_iload_n hx hb dX10_steal_93 rfl (lv_at hl 4 rfl) ?_
                exact W.iret (v := r24) hx hb hr (fun t ht hW => ⟨⟨r24, (fun k => ([ur90.1 0, ur90.1 1, ur90.1 2, ur90.1 3, ur90.1 4] : List Int32).getD k 0, fun k => ([ur90.2.1 0, ur90.2.1 1, ur90.2.1 2, ur90.2.1 3] : List (Nat → Int32)).getD k (fun _ => 0), fun k => ([] : List (Nat → Int64)).getD k (fun _ => 0)), rfl, ⟨(fun _ => h_6), (fun _ => h_6), (fun _ => h_12), (fun _ => h_12), (fun _ => h_7), (fun _ => h_7), trivial⟩, hp_at ht hP⟩, hS.F ht⟩) hS.2.2 dX10_steal_94
              · have h_27 : rg 0 0 r72 := r_eq_l_i (e := 0) (f := 0) c75 p_22 (rgn 0 (x := 0) (by decide)) (by decide)
                have h_28 : rg 40 2147483647 n11_3 := (p_24 (req h_27 (y := 0) (by decide)))
                refine lv_bipush (v := (-5)) hx hb dX10_steal_78 (by decide) ?_
                exact W.iret (v := (-5)) hx hb hr (fun t ht hW => ⟨⟨(-5), (fun k => ([n11_3, n19_4, n19_5, n19_6, n19_7] : List Int32).getD k 0, fun k => ([f21, f22, f23, f24] : List (Nat → Int32)).getD k (fun _ => 0), fun k => ([] : List (Nat → Int64)).getD k (fun _ => 0)), rfl, ⟨(fun _ => h_6), (fun _ => h_6), (fun _ => h_12), (fun _ => h_12), (fun _ => h_7), (fun _ => h_7), trivial⟩, hp_at ht hP⟩, hS.F ht⟩) hS.2.2 dX10_steal_80
      refine lv_icmp_ne (tgt := 50) hx hb dX10_steal_43 (by decide) (fun c43 => ?_) (fun c43 => ?_)
      · have h_29 : rg 0 0 r39 := r_ne_hi_i c43 p_17 (by decide) (by decide)
        refine lv_iconst (v := 0) hx hb dX10_steal_50 (by decide) ?_
        exact j51 (0 : Int32) _ _ ls (rg_w (c := 0) (d := 1) (rgn 0 (x := 0) (by decide)) (by decide)) hP hD hS (lv_sub hl [1, 2, 3, 0] rfl)
      · have h_30 : rg 1 1 r39 := r_eq_l_i (e := 1) (f := 1) c43 p_17 (rgn 1 (x := 1) (by decide)) (by decide)
        refine lv_iconst (v := 1) hx hb dX10_steal_46 (by decide) ?_
        refine lv_goto (tgt := 51) hx hb dX10_steal_47 (by decide) ?_
        exact j51 (1 : Int32) _ _ ls (rg_w (c := 0) (d := 1) (rgn 1 (x := 1) (by decide)) (by decide)) hP hD hS (lv_sub hl [1, 2, 3, 0] rfl)
    · have h_31 : rg 0 0 r10 := r_eq_l_i (e := 0) (f := 0) c13 p_8 (rgn 0 (x := 0) (by decide)) (by decide)
      refine lv_bipush (v := (-2)) hx hb dX10_steal_16 (by decide) ?_
      exact W.iret (v := (-2)) hx hb hr (fun t ht hW => ⟨⟨(-2), (fun k => ([n11_3, n19_4, n19_5, n19_6, n19_7] : List Int32).getD k 0, fun k => ([f21, f22, f23, f24] : List (Nat → Int32)).getD k (fun _ => 0), fun k => ([] : List (Nat → Int64)).getD k (fun _ => 0)), rfl, ⟨(fun _ => h_6), (fun _ => h_6), (fun hq => absurd hq (rne (rgn (-2) (x := (-2)) (by decide)) (y := 0) (c := 0) (by decide) (by decide))), (fun hq => absurd (req (rgn (-2) (x := (-2)) (by decide)) (y := (-2)) (by decide)) hq), (fun _ => h_7), (fun _ => h_7), trivial⟩, hp_at ht hP⟩, hS.F ht⟩) hS.2.2 dX10_steal_18

set_option maxHeartbeats 4000000 in
set_option maxRecDepth 100000 in
theorem a_X10_day (l : Launch) (G : va_G) (ct : Nat → ClassId) (a0 : Nat) (a1 : Nat) (a3 : Nat) (a11 : Nat) (a25 : Nat) (a68 : Nat) (a69 : Nat) (a77 : Nat) (a82 : Nat) (a84 : Nat) (a88 : Nat) (a91 : Nat) (a12 : Nat) (a19 : Nat) (a24 : Nat) (n11_3 : Int32) (a13 : Nat) (a15 : Nat) (a16 : Nat) (a17 : Nat) (a18 : Nat) (n12_5 : Int32) (n12_6 : Int32) (a14 : Nat) (n13_1 : Int32) (f18 : Nat → Int32) (a20 : Nat) (a22 : Nat) (a23 : Nat) (n19_4 : Int32) (n19_5 : Int32) (n19_6 : Int32) (n19_7 : Int32) (a21 : Nat) (n20_1 : Int32) (f21 : Nat → Int32) (f22 : Nat → Int32) (f23 : Nat → Int32) (f24 : Nat → Int32) (hp_n13_1 : rg 0 8 n13_1) (hp_n20_1 : rg 0 8 n20_1) : Met l yX10_day wsX10_day ({ frames := 5, cells := 0, slots := 0, locals := 114 }) (va_Pc [.ref a0] (wrP G ct [(a0, .inr (10, [.ref a1, .ref a3, .ref a11, .ref a25, .ref a68, .ref a69, .ref a77, .ref a82, .ref a84, .ref a88, .ref a91])), (a11, .inr (4, [.ref a12, .ref a19, .ref a24, .int n11_3])), (a12, .inr (9, [.ref a13, .ref a15, .ref a16, .ref a17, .ref a18, .int n12_5, .int n12_6])), (a13, .inr (0, [.ref a14, .int n13_1])), (a18, .inl (ct 0, 8, .inl f18)), (a19, .inr (2, [.ref a12, .ref a20, .ref a22, .ref a23, .int n19_4, .int n19_5, .int n19_6, .int n19_7])), (a20, .inr (0, [.ref a21, .int n20_1])), (a21, .inl (ct 0, 8, .inl f21)), (a22, .inl (ct 0, 8, .inl f22)), (a23, .inl (ct 0, 8, .inl f23)), (a24, .inl (ct 0, 40, .inl f24))])) (va_Qi (fun (r : Int32) (u : SU) => (r = 0 → rg 1 2147483647 n12_5) ∧ (r = (-1) → rg 1 2147483647 n12_5) ∧ (¬ r = (-2) → rg 1 2147483647 n12_5) ∧ True) (fun u t => va_P G vwCl ((fun u : SU => [(a0, .inr (10, [.ref a1, .ref a3, .ref a11, .ref a25, .ref a68, .ref a69, .ref a77, .ref a82, .ref a84, .ref a88, .ref a91])), (a11, .inr (4, [.ref a12, .ref a19, .ref a24, .int (u.1 0)])), (a12, .inr (9, [.ref a13, .ref a15, .ref a16, .ref a17, .ref a18, .int n12_5, .int n12_6])), (a13, .inr (0, [.ref a14, .int n13_1])), (a18, .inl (ct 0, 8, .inl f18)), (a19, .inr (2, [.ref a12, .ref a20, .ref a22, .ref a23, .int (u.1 1), .int (u.1 2), .int (u.1 3), .int (u.1 4)])), (a20, .inr (0, [.ref a21, .int n20_1])), (a21, .inl (ct 0, 8, .inl (u.2.1 0))), (a22, .inl (ct 0, 8, .inl (u.2.1 1))), (a23, .inl (ct 0, 8, .inl (u.2.1 2))), (a24, .inl (ct 0, 40, .inl (u.2.1 3)))]) u) t.heap) (aset [(a0, .inr (10, [.ref a1, .ref a3, .ref a11, .ref a25, .ref a68, .ref a69, .ref a77, .ref a82, .ref a84, .ref a88, .ref a91])), (a11, .inr (4, [.ref a12, .ref a19, .ref a24, .int n11_3])), (a12, .inr (9, [.ref a13, .ref a15, .ref a16, .ref a17, .ref a18, .int n12_5, .int n12_6])), (a13, .inr (0, [.ref a14, .int n13_1])), (a18, .inl (ct 0, 8, .inl f18)), (a19, .inr (2, [.ref a12, .ref a20, .ref a22, .ref a23, .int n19_4, .int n19_5, .int n19_6, .int n19_7])), (a20, .inr (0, [.ref a21, .int n20_1])), (a21, .inl (ct 0, 8, .inl f21)), (a22, .inl (ct 0, 8, .inl f22)), (a23, .inl (ct 0, 8, .inl f23)), (a24, .inl (ct 0, 40, .inl f24))])) 0 0 (aset [(a0, .inr (10, [.ref a1, .ref a3, .ref a11, .ref a25, .ref a68, .ref a69, .ref a77, .ref a82, .ref a84, .ref a88, .ref a91])), (a11, .inr (4, [.ref a12, .ref a19, .ref a24, .int n11_3])), (a12, .inr (9, [.ref a13, .ref a15, .ref a16, .ref a17, .ref a18, .int n12_5, .int n12_6])), (a13, .inr (0, [.ref a14, .int n13_1])), (a18, .inl (ct 0, 8, .inl f18)), (a19, .inr (2, [.ref a12, .ref a20, .ref a22, .ref a23, .int n19_4, .int n19_5, .int n19_6, .int n19_7])), (a20, .inr (0, [.ref a21, .int n20_1])), (a21, .inl (ct 0, 8, .inl f21)), (a22, .inl (ct 0, 8, .inl f22)), (a23, .inl (ct 0, 8, .inl f23)), (a24, .inl (ct 0, 40, .inl f24))]) := by
  refine Met.ofW (cc := cX10_day) (maxL := 2) (ret := (some .int)) (by decide) rfl ?_
  intro p e s m args below meth c s₁ B hml hv
  obtain ⟨rfl, hP, hK, hD0⟩ := hv
  have hx := B.exec
  have hb := B.bytes
  have hr := B.returns
  have hts := atoms_spec (ws := wsX10_day) B.pre
  have hown : s.vm.findClass RX10 = some m.cls := findClass_of_methodNamed B.named
  have hlocks := B.notSynchronized
  have hD := hD0.aself
  generalize hAe : aset [(a0, .inr (10, [.ref a1, .ref a3, .ref a11, .ref a25, .ref a68, .ref a69, .ref a77, .ref a82, .ref a84, .ref a88, .ref a91])), (a11, .inr (4, [.ref a12, .ref a19, .ref a24, .int n11_3])), (a12, .inr (9, [.ref a13, .ref a15, .ref a16, .ref a17, .ref a18, .int n12_5, .int n12_6])), (a13, .inr (0, [.ref a14, .int n13_1])), (a18, .inl (ct 0, 8, .inl f18)), (a19, .inr (2, [.ref a12, .ref a20, .ref a22, .ref a23, .int n19_4, .int n19_5, .int n19_6, .int n19_7])), (a20, .inr (0, [.ref a21, .int n20_1])), (a21, .inl (ct 0, 8, .inl f21)), (a22, .inl (ct 0, 8, .inl f22)), (a23, .inl (ct 0, 8, .inl f23)), (a24, .inl (ct 0, 40, .inl f24))] = A at hD ⊢
  have hS : va_S A s.heap s.heap [] := va_S.rf
  have hl := lv_entry ([.ref a0]) (n := 2) (Nat.le_of_ble_eq_true rfl)
  rw [lg_entry_eq]
  generalize (lg_sl ([.ref a0]) ++ List.replicate (2 - (lg_sl ([.ref a0])).length) Slot.unset).toArray = ls at hl ⊢
  have hl : lv_has ls 2 [(0, .ref a0)] := hl
  refine lv_aload_n hx hb dX10_day_0 rfl (lv_at hl 0 rfl) ?_
  refine ro_calli (va_runV (As := []) (rest := []) ⟨hx, hb, hml, hown, hts⟩ (a_X10_hasCity l G ct a0 a1 a3 a11 a25 a68 a69 a77 a82 a84 a88 a91 a12 a19 a24 n11_3 a13 a15 a16 a17 a18 n12_5 n12_6) (cwV 0 hts gX10_day_X10_hasCity rfl rfl rfl (by decide +kernel) ⟨Nat.le_of_ble_eq_true rfl, Nat.le_of_ble_eq_true rfl⟩) (ro_preV 10 0 hK (hP.sub [0, 1, 2] rfl) rfl rfl) rfl rfl hl.1 rfl (lv_room (Nat.le_of_ble_eq_true rfl)) dX10_day_1 ⟨Nat.zero_le _, Nat.zero_le _⟩) hS hP (fun r1 H locs wr1 hP hS => ?_)
  obtain ⟨p_1, p_2, p_3, -⟩ := wr1
  refine lv_if_ne (tgt := 10) hx hb dX10_day_4 (by decide) (fun c4 => ?_) (fun c4 => ?_)
  · have h_4 : rg 1 1 r1 := r_ne_lo_i c4 p_1 (by decide) (by decide)
    have h_5 : rg 1 2147483647 n12_5 := (p_2 (rne h_4 (y := 0) (c := 0) (by decide) (by decide)))
    refine lv_aload_n hx hb dX10_day_10 rfl (lv_at hl 0 rfl) ?_
    refine va_get (D := G) (ci := 10) (v := .ref a11) (C := RX10) (T := TX10) (N := 11) hx hb hts (by decide +kernel) hown hK.1 hP 0 rfl rfl 2 (by decide) (hts (.fieldLink RX10 28 "CardHolder" "play" "LCardHolder$Play;") (by decide +kernel)) (fun _ h9 => h9) rfl dX10_day_11 ?_
    refine ro_calli (va_runV (As := []) (rest := []) ⟨hx, hb, hml, hown, hts⟩ (a_X4_hasRoom l G ct a11 a12 a19 a24 n11_3) (cwV 0 hts gX10_day_X4_hasRoom rfl rfl rfl (by decide +kernel) ⟨Nat.le_of_ble_eq_true rfl, Nat.le_of_ble_eq_true rfl⟩) (ro_preV 4 0 hK (hP.sub [1] rfl) rfl rfl) rfl rfl hl.1 rfl (lv_room (Nat.le_of_ble_eq_true rfl)) dX10_day_14 ⟨Nat.zero_le _, Nat.zero_le _⟩) hS hP (fun r14 H locs wr14 hP hS => ?_)
    obtain ⟨p_6, p_7, p_8, -⟩ := wr14
    refine lv_if_ne (tgt := 23) hx hb dX10_day_17 (by decide) (fun c17 => ?_) (fun c17 => ?_)
    · have h_9 : rg 1 1 r14 := r_ne_lo_i c17 p_6 (by decide) (by decide)
      have h_10 : rg (-2147483648) 39 n11_3 := (p_7 (rne h_9 (y := 0) (c := 0) (by decide) (by decide)))
      refine lv_aload_n hx hb dX10_day_23 rfl (lv_at hl 0 rfl) ?_
      refine va_get (D := G) (ci := 10) (v := .ref a11) (C := RX10) (T := TX10) (N := 11) hx hb hts (by decide +kernel) hown hK.1 hP 0 rfl rfl 2 (by decide) (hts (.fieldLink RX10 28 "CardHolder" "play" "LCardHolder$Play;") (by decide +kernel)) (fun _ h9 => h9) rfl dX10_day_24 ?_
      refine va_get (D := G) (ci := 4) (v := .ref a19) (C := RX4) (T := TX4) (N := 4) hx hb hts (by decide +kernel) hown hK.1 hP 1 rfl rfl 1 (by decide) (hts (.fieldLink RX10 147 "CardHolder$Play" "hands" "LCardHolder$Hands;") (by decide +kernel)) (fun _ h9 => h9) rfl dX10_day_27 ?_
      refine va_get (D := G) (ci := 2) (v := .int n19_6) (C := RX2) (T := TX2) (N := 8) hx hb hts (by decide +kernel) hown hK.1 hP 5 rfl rfl 6 (by decide) (hts (.fieldLink RX10 223 "CardHolder$Hands" "today" "I") (by decide +kernel)) (fun _ h9 => h9) rfl dX10_day_30 ?_
      refine lv_istore_n (lv' := [(1, .int n19_6), (0, .ref a0)]) hx hb dX10_day_33 rfl hl (by decide) rfl (fun ls hl => ?_)
      refine lv_aload_n hx hb dX10_day_34 rfl (lv_at hl 1 rfl) ?_
      refine va_get (D := G) (ci := 10) (v := .ref a11) (C := RX10) (T := TX10) (N := 11) hx hb hts (by decide +kernel) hown hK.1 hP 0 rfl rfl 2 (by decide) (hts (.fieldLink RX10 28 "CardHolder" "play" "LCardHolder$Play;") (by decide +kernel)) (fun _ h9 => h9) rfl dX10_day_35 ?_
      refine lv_iconst (v := 4) hx hb dX10_day_38 (by decide) ?_
      refine lv_iconst (v := 0) hx hb dX10_day_39 (by decide) ?_
      refine lv_iconst (v := 0) hx hb dX10_day_40 (by decide) ?_
      refine lv_iconst (v := 0) hx hb dX10_day_41 (by decide) ?_
      refine lv_iconst (v := 0) hx hb dX10_day_42 (by decide) ?_
      refine wj_callv (wr := [(a0, .inr (10, [.ref a1, .ref a3, .ref a11, .ref a25, .ref a68, .ref a69, .ref a77, .ref a82, .ref a84, .ref a88, .ref a91]))]) (w1 := (fun u : SU => [(a11, .inr (4, [.ref a12, .ref a19, .ref a24, .int (u.1 0)])), (a12, .inr (9, [.ref a13, .ref a15, .ref a16, .ref a17, .ref a18, .int n12_5, .int n12_6])), (a13, .inr (0, [.ref a14, .int n13_1])), (a18, .inl (ct 0, 8, .inl f18)), (a19, .inr (2, [.ref a12, .ref a20, .ref a22, .ref a23, .int (u.1 1), .int (u.1 2), .int (u.1 3), .int (u.1 4)])), (a20, .inr (0, [.ref a21, .int n20_1])), (a21, .inl (ct 0, 8, .inl (u.2.1 0))), (a22, .inl (ct 0, 8, .inl (u.2.1 1))), (a23, .inl (ct 0, 8, .inl (u.2.1 2))), (a24, .inl (ct 0, 40, .inl (u.2.1 3)))])) (va_runV (As := [.int 4, .int 0, .int 0, .int 0, .int 0]) (rest := []) ⟨hx, hb, hml, hown, hts⟩ (a_X4_act l G ct a11 a12 a19 a24 n11_3 a13 a15 a16 a17 a18 n12_5 n12_6 a14 n13_1 f18 a20 a22 a23 n19_4 n19_5 n19_6 n19_7 a21 n20_1 f21 f22 f23 f24 (4 : Int32) (0 : Int32) (0 : Int32) (0 : Int32) (0 : Int32) hp_n13_1 hp_n20_1) (cwV 5 hts gX10_day_X4_act rfl rfl rfl (by decide +kernel) ⟨Nat.le_of_ble_eq_true rfl, Nat.le_of_ble_eq_true rfl⟩) (wr_preV 4 0 hK (hP.sub [1, 2, 3, 4, 5, 6, 7, 8, 9, 10] rfl) (hD.sub [1, 2, 3, 4, 5, 6, 7, 8, 9, 10] (by decide) rfl) rfl rfl) rfl rfl hl.1 rfl (lv_room (Nat.le_of_ble_eq_true rfl)) dX10_day_43 ⟨Nat.zero_le _, Nat.zero_le _⟩) hS hP hD [1, 2, 3, 4, 5, 6, 7, 8, 9, 10] [0] rfl rfl (by decide) (fun _ => rfl) (fun ur43 H locs wr43 hP hD hS => ?_)
      have hP : va_P G vwCl [(a0, .inr (10, [.ref a1, .ref a3, .ref a11, .ref a25, .ref a68, .ref a69, .ref a77, .ref a82, .ref a84, .ref a88, .ref a91])), (a11, .inr (4, [.ref a12, .ref a19, .ref a24, .int (ur43.1 0)])), (a12, .inr (9, [.ref a13, .ref a15, .ref a16, .ref a17, .ref a18, .int n12_5, .int n12_6])), (a13, .inr (0, [.ref a14, .int n13_1])), (a18, .inl (ct 0, 8, .inl f18)), (a19, .inr (2, [.ref a12, .ref a20, .ref a22, .ref a23, .int (ur43.1 1), .int (ur43.1 2), .int (ur43.1 3), .int (ur43.1 4)])), (a20, .inr (0, [.ref a21, .int n20_1])), (a21, .inl (ct 0, 8, .inl (ur43.2.1 0))), (a22, .inl (ct 0, 8, .inl (ur43.2.1 1))), (a23, .inl (ct 0, 8, .inl (ur43.2.1 2))), (a24, .inl (ct 0, 40, .inl (ur43.2.1 3)))] H := hP.sub [0, 1, 2, 3, 4, 5, 6, 7, 8, 9, 10] rfl
      have hD : va_D A [(a0, .inr (10, [.ref a1, .ref a3, .ref a11, .ref a25, .ref a68, .ref a69, .ref a77, .ref a82, .ref a84, .ref a88, .ref a91])), (a11, .inr (4, [.ref a12, .ref a19, .ref a24, .int (ur43.1 0)])), (a12, .inr (9, [.ref a13, .ref a15, .ref a16, .ref a17, .ref a18, .int n12_5, .int n12_6])), (a13, .inr (0, [.ref a14, .int n13_1])), (a18, .inl (ct 0, 8, .inl f18)), (a19, .inr (2, [.ref a12, .ref a20, .ref a22, .ref a23, .int (ur43.1 1), .int (ur43.1 2), .int (ur43.1 3), .int (ur43.1 4)])), (a20, .inr (0, [.ref a21, .int n20_1])), (a21, .inl (ct 0, 8, .inl (ur43.2.1 0))), (a22, .inl (ct 0, 8, .inl (ur43.2.1 1))), (a23, .inl (ct 0, 8, .inl (ur43.2.1 2))), (a24, .inl (ct 0, 40, .inl (ur43.2.1 3)))] := hD.sub [0, 1, 2, 3, 4, 5, 6, 7, 8, 9, 10] (by decide) rfl
      refine lv_iload_n hx hb dX10_day_46 rfl (lv_at hl 0 rfl) ?_
      exact W.iret (v := n19_6) hx hb hr (fun t ht hW => ⟨⟨n19_6, (fun k => ([ur43.1 0, ur43.1 1, ur43.1 2, ur43.1 3, ur43.1 4] : List Int32).getD k 0, fun k => ([ur43.2.1 0, ur43.2.1 1, ur43.2.1 2, ur43.2.1 3] : List (Nat → Int32)).getD k (fun _ => 0), fun k => ([] : List (Nat → Int64)).getD k (fun _ => 0)), rfl, ⟨(fun _ => h_5), (fun _ => h_5), (fun _ => h_5), trivial⟩, hp_at ht hP⟩, hS.F ht⟩) hS.2.2 dX10_day_47
    · have h_11 : rg 0 0 r14 := r_eq_l_i (e := 0) (f := 0) c17 p_6 (rgn 0 (x := 0) (by decide)) (by decide)
      have h_12 : rg 40 2147483647 n11_3 := (p_8 (req h_11 (y := 0) (by decide)))
      refine lv_bipush (v := (-5)) hx hb dX10_day_20 (by decide) ?_
      exact W.iret (v := (-5)) hx hb hr (fun t ht hW => ⟨⟨(-5), (fun k => ([n11_3, n19_4, n19_5, n19_6, n19_7] : List Int32).getD k 0, fun k => ([f21, f22, f23, f24] : List (Nat → Int32)).getD k (fun _ => 0), fun k => ([] : List (Nat → Int64)).getD k (fun _ => 0)), rfl, ⟨(fun _ => h_5), (fun _ => h_5), (fun _ => h_5), trivial⟩, hp_at ht hP⟩, hS.F ht⟩) hS.2.2 dX10_day_22
  · have h_13 : rg 0 0 r1 := r_eq_l_i (e := 0) (f := 0) c4 p_1 (rgn 0 (x := 0) (by decide)) (by decide)
    have h_14 : rg (-2147483648) 0 n12_5 := (p_3 (req h_13 (y := 0) (by decide)))
    refine lv_bipush (v := (-2)) hx hb dX10_day_7 (by decide) ?_
    exact W.iret (v := (-2)) hx hb hr (fun t ht hW => ⟨⟨(-2), (fun k => ([n11_3, n19_4, n19_5, n19_6, n19_7] : List Int32).getD k 0, fun k => ([f21, f22, f23, f24] : List (Nat → Int32)).getD k (fun _ => 0), fun k => ([] : List (Nat → Int64)).getD k (fun _ => 0)), rfl, ⟨(fun hq => absurd hq (rne (rgn (-2) (x := (-2)) (by decide)) (y := 0) (c := 0) (by decide) (by decide))), (fun hq => absurd hq (rne (rgn (-2) (x := (-2)) (by decide)) (y := (-1)) (c := (-1)) (by decide) (by decide))), (fun hq => absurd (req (rgn (-2) (x := (-2)) (by decide)) (y := (-2)) (by decide)) hq), trivial⟩, hp_at ht hP⟩, hS.F ht⟩) hS.2.2 dX10_day_9

set_option maxHeartbeats 4000000 in
set_option maxRecDepth 100000 in
theorem a_X10_undo (l : Launch) (G : va_G) (ct : Nat → ClassId) (a0 : Nat) (a1 : Nat) (a3 : Nat) (a11 : Nat) (a25 : Nat) (a68 : Nat) (a69 : Nat) (a77 : Nat) (a82 : Nat) (a84 : Nat) (a88 : Nat) (a91 : Nat) (a12 : Nat) (a19 : Nat) (a24 : Nat) (n11_3 : Int32) (a13 : Nat) (a15 : Nat) (a16 : Nat) (a17 : Nat) (a18 : Nat) (n12_5 : Int32) (n12_6 : Int32) (a14 : Nat) (n13_1 : Int32) (f14 : Nat → Int32) (f18 : Nat → Int32) (a20 : Nat) (a22 : Nat) (a23 : Nat) (n19_4 : Int32) (n19_5 : Int32) (n19_6 : Int32) (n19_7 : Int32) (a21 : Nat) (n20_1 : Int32) (f21 : Nat → Int32) (f22 : Nat → Int32) (f23 : Nat → Int32) (f24 : Nat → Int32) (hp_n13_1 : rg 0 8 n13_1) (hp_n20_1 : rg 0 8 n20_1) : Met l yX10_undo wsX10_undo ({ frames := 5, cells := 0, slots := 0, locals := 124 }) (va_Pc [.ref a0] (wrP G ct [(a0, .inr (10, [.ref a1, .ref a3, .ref a11, .ref a25, .ref a68, .ref a69, .ref a77, .ref a82, .ref a84, .ref a88, .ref a91])), (a11, .inr (4, [.ref a12, .ref a19, .ref a24, .int n11_3])), (a12, .inr (9, [.ref a13, .ref a15, .ref a16, .ref a17, .ref a18, .int n12_5, .int n12_6])), (a13, .inr (0, [.ref a14, .int n13_1])), (a14, .inl (ct 0, 8, .inl f14)), (a18, .inl (ct 0, 8, .inl f18)), (a19, .inr (2, [.ref a12, .ref a20, .ref a22, .ref a23, .int n19_4, .int n19_5, .int n19_6, .int n19_7])), (a20, .inr (0, [.ref a21, .int n20_1])), (a21, .inl (ct 0, 8, .inl f21)), (a22, .inl (ct 0, 8, .inl f22)), (a23, .inl (ct 0, 8, .inl f23)), (a24, .inl (ct 0, 40, .inl f24))])) (va_Qi (fun (r : Int32) (u : SU) => (r = 0 → rg 1 2147483647 n12_5) ∧ (r = (-1) → rg 1 2147483647 n12_5) ∧ (¬ r = (-2) → rg 1 2147483647 n12_5) ∧ rg 0 8 (u.1 5) ∧ True) (fun u t => va_P G vwCl ((fun u : SU => [(a0, .inr (10, [.ref a1, .ref a3, .ref a11, .ref a25, .ref a68, .ref a69, .ref a77, .ref a82, .ref a84, .ref a88, .ref a91])), (a11, .inr (4, [.ref a12, .ref a19, .ref a24, .int (u.1 0)])), (a12, .inr (9, [.ref a13, .ref a15, .ref a16, .ref a17, .ref a18, .int n12_5, .int n12_6])), (a13, .inr (0, [.ref a14, .int n13_1])), (a14, .inl (ct 0, 8, .inl f14)), (a18, .inl (ct 0, 8, .inl f18)), (a19, .inr (2, [.ref a12, .ref a20, .ref a22, .ref a23, .int (u.1 1), .int (u.1 2), .int (u.1 3), .int (u.1 4)])), (a20, .inr (0, [.ref a21, .int (u.1 5)])), (a21, .inl (ct 0, 8, .inl (u.2.1 0))), (a22, .inl (ct 0, 8, .inl (u.2.1 1))), (a23, .inl (ct 0, 8, .inl (u.2.1 2))), (a24, .inl (ct 0, 40, .inl f24))]) u) t.heap) (aset [(a0, .inr (10, [.ref a1, .ref a3, .ref a11, .ref a25, .ref a68, .ref a69, .ref a77, .ref a82, .ref a84, .ref a88, .ref a91])), (a11, .inr (4, [.ref a12, .ref a19, .ref a24, .int n11_3])), (a12, .inr (9, [.ref a13, .ref a15, .ref a16, .ref a17, .ref a18, .int n12_5, .int n12_6])), (a13, .inr (0, [.ref a14, .int n13_1])), (a14, .inl (ct 0, 8, .inl f14)), (a18, .inl (ct 0, 8, .inl f18)), (a19, .inr (2, [.ref a12, .ref a20, .ref a22, .ref a23, .int n19_4, .int n19_5, .int n19_6, .int n19_7])), (a20, .inr (0, [.ref a21, .int n20_1])), (a21, .inl (ct 0, 8, .inl f21)), (a22, .inl (ct 0, 8, .inl f22)), (a23, .inl (ct 0, 8, .inl f23)), (a24, .inl (ct 0, 40, .inl f24))])) 0 0 (aset [(a0, .inr (10, [.ref a1, .ref a3, .ref a11, .ref a25, .ref a68, .ref a69, .ref a77, .ref a82, .ref a84, .ref a88, .ref a91])), (a11, .inr (4, [.ref a12, .ref a19, .ref a24, .int n11_3])), (a12, .inr (9, [.ref a13, .ref a15, .ref a16, .ref a17, .ref a18, .int n12_5, .int n12_6])), (a13, .inr (0, [.ref a14, .int n13_1])), (a14, .inl (ct 0, 8, .inl f14)), (a18, .inl (ct 0, 8, .inl f18)), (a19, .inr (2, [.ref a12, .ref a20, .ref a22, .ref a23, .int n19_4, .int n19_5, .int n19_6, .int n19_7])), (a20, .inr (0, [.ref a21, .int n20_1])), (a21, .inl (ct 0, 8, .inl f21)), (a22, .inl (ct 0, 8, .inl f22)), (a23, .inl (ct 0, 8, .inl f23)), (a24, .inl (ct 0, 40, .inl f24))]) := by
  refine Met.ofW (cc := cX10_undo) (maxL := 1) (ret := (some .int)) (by decide) rfl ?_
  intro p e s m args below meth c s₁ B hml hv
  obtain ⟨rfl, hP, hK, hD0⟩ := hv
  have hx := B.exec
  have hb := B.bytes
  have hr := B.returns
  have hts := atoms_spec (ws := wsX10_undo) B.pre
  have hown : s.vm.findClass RX10 = some m.cls := findClass_of_methodNamed B.named
  have hlocks := B.notSynchronized
  have hD := hD0.aself
  generalize hAe : aset [(a0, .inr (10, [.ref a1, .ref a3, .ref a11, .ref a25, .ref a68, .ref a69, .ref a77, .ref a82, .ref a84, .ref a88, .ref a91])), (a11, .inr (4, [.ref a12, .ref a19, .ref a24, .int n11_3])), (a12, .inr (9, [.ref a13, .ref a15, .ref a16, .ref a17, .ref a18, .int n12_5, .int n12_6])), (a13, .inr (0, [.ref a14, .int n13_1])), (a14, .inl (ct 0, 8, .inl f14)), (a18, .inl (ct 0, 8, .inl f18)), (a19, .inr (2, [.ref a12, .ref a20, .ref a22, .ref a23, .int n19_4, .int n19_5, .int n19_6, .int n19_7])), (a20, .inr (0, [.ref a21, .int n20_1])), (a21, .inl (ct 0, 8, .inl f21)), (a22, .inl (ct 0, 8, .inl f22)), (a23, .inl (ct 0, 8, .inl f23)), (a24, .inl (ct 0, 40, .inl f24))] = A at hD ⊢
  have hS : va_S A s.heap s.heap [] := va_S.rf
  have hl := lv_entry ([.ref a0]) (n := 1) (Nat.le_of_ble_eq_true rfl)
  rw [lg_entry_eq]
  generalize (lg_sl ([.ref a0]) ++ List.replicate (1 - (lg_sl ([.ref a0])).length) Slot.unset).toArray = ls at hl ⊢
  have hl : lv_has ls 1 [(0, .ref a0)] := hl
  refine lv_aload_n hx hb dX10_undo_0 rfl (lv_at hl 0 rfl) ?_
  refine ro_calli (va_runV (As := []) (rest := []) ⟨hx, hb, hml, hown, hts⟩ (a_X10_hasCity l G ct a0 a1 a3 a11 a25 a68 a69 a77 a82 a84 a88 a91 a12 a19 a24 n11_3 a13 a15 a16 a17 a18 n12_5 n12_6) (cwV 0 hts gX10_undo_X10_hasCity rfl rfl rfl (by decide +kernel) ⟨Nat.le_of_ble_eq_true rfl, Nat.le_of_ble_eq_true rfl⟩) (ro_preV 10 0 hK (hP.sub [0, 1, 2] rfl) rfl rfl) rfl rfl hl.1 rfl (lv_room (Nat.le_of_ble_eq_true rfl)) dX10_undo_1 ⟨Nat.zero_le _, Nat.zero_le _⟩) hS hP (fun r1 H locs wr1 hP hS => ?_)
  obtain ⟨p_1, p_2, p_3, -⟩ := wr1
  refine lv_if_ne (tgt := 10) hx hb dX10_undo_4 (by decide) (fun c4 => ?_) (fun c4 => ?_)
  · have h_4 : rg 1 1 r1 := r_ne_lo_i c4 p_1 (by decide) (by decide)
    have h_5 : rg 1 2147483647 n12_5 := (p_2 (rne h_4 (y := 0) (c := 0) (by decide) (by decide)))
    refine lv_aload_n hx hb dX10_undo_10 rfl (lv_at hl 0 rfl) ?_
    refine va_get (D := G) (ci := 10) (v := .ref a11) (C := RX10) (T := TX10) (N := 11) hx hb hts (by decide +kernel) hown hK.1 hP 0 rfl rfl 2 (by decide) (hts (.fieldLink RX10 28 "CardHolder" "play" "LCardHolder$Play;") (by decide +kernel)) (fun _ h9 => h9) rfl dX10_undo_11 ?_
    refine va_get (D := G) (ci := 4) (v := .int n11_3) (C := RX4) (T := TX4) (N := 4) hx hb hts (by decide +kernel) hown hK.1 hP 1 rfl rfl 3 (by decide) (hts (.fieldLink RX10 226 "CardHolder$Play" "acts" "I") (by decide +kernel)) (fun _ h9 => h9) rfl dX10_undo_14 ?_
    refine lv_if_ne (tgt := 23) hx hb dX10_undo_17 (by decide) (fun c17 => ?_) (fun c17 => ?_)
    · refine lv_aload_n hx hb dX10_undo_23 rfl (lv_at hl 0 rfl) ?_
      refine va_get (D := G) (ci := 10) (v := .ref a11) (C := RX10) (T := TX10) (N := 11) hx hb hts (by decide +kernel) hown hK.1 hP 0 rfl rfl 2 (by decide) (hts (.fieldLink RX10 28 "CardHolder" "play" "LCardHolder$Play;") (by decide +kernel)) (fun _ h9 => h9) rfl dX10_undo_24 ?_
      refine lv_aload_n hx hb dX10_undo_27 rfl (lv_at hl 0 rfl) ?_
      refine va_get (D := G) (ci := 10) (v := .ref a11) (C := RX10) (T := TX10) (N := 11) hx hb hts (by decide +kernel) hown hK.1 hP 0 rfl rfl 2 (by decide) (hts (.fieldLink RX10 28 "CardHolder" "play" "LCardHolder$Play;") (by decide +kernel)) (fun _ h9 => h9) rfl dX10_undo_28 ?_
      refine va_get (D := G) (ci := 4) (v := .int n11_3) (C := RX4) (T := TX4) (N := 4) hx hb hts (by decide +kernel) hown hK.1 hP 1 rfl rfl 3 (by decide) (hts (.fieldLink RX10 226 "CardHolder$Play" "acts" "I") (by decide +kernel)) (fun _ h9 => h9) rfl dX10_undo_31 ?_
      refine lv_iconst (v := 1) hx hb dX10_undo_34 (by decide) ?_
      refine lv_isub hx hb dX10_undo_35 ?_
      refine nm_0 (fun z35 => ?_)
      refine wj_callv (wr := [(a0, .inr (10, [.ref a1, .ref a3, .ref a11, .ref a25, .ref a68, .ref a69, .ref a77, .ref a82, .ref a84, .ref a88, .ref a91]))]) (w1 := (fun u : SU => [(a11, .inr (4, [.ref a12, .ref a19, .ref a24, .int (u.1 0)])), (a12, .inr (9, [.ref a13, .ref a15, .ref a16, .ref a17, .ref a18, .int n12_5, .int n12_6])), (a13, .inr (0, [.ref a14, .int n13_1])), (a14, .inl (ct 0, 8, .inl f14)), (a18, .inl (ct 0, 8, .inl f18)), (a19, .inr (2, [.ref a12, .ref a20, .ref a22, .ref a23, .int (u.1 1), .int (u.1 2), .int (u.1 3), .int (u.1 4)])), (a20, .inr (0, [.ref a21, .int (u.1 5)])), (a21, .inl (ct 0, 8, .inl (u.2.1 0))), (a22, .inl (ct 0, 8, .inl (u.2.1 1))), (a23, .inl (ct 0, 8, .inl (u.2.1 2))), (a24, .inl (ct 0, 40, .inl f24))])) (va_runV (As := [.int z35]) (rest := []) ⟨hx, hb, hml, hown, hts⟩ (a_X4_replay l G ct a11 a12 a19 a24 n11_3 a13 a15 a16 a17 a18 n12_5 n12_6 a14 n13_1 f14 f18 a20 a22 a23 n19_4 n19_5 n19_6 n19_7 a21 n20_1 f21 f22 f23 f24 z35 hp_n13_1 hp_n20_1) (cwV 1 hts gX10_undo_X4_replay rfl rfl rfl (by decide +kernel) ⟨Nat.le_of_ble_eq_true rfl, Nat.le_of_ble_eq_true rfl⟩) (wr_preV 4 0 hK (hP.sub [1, 2, 3, 4, 5, 6, 7, 8, 9, 10, 11] rfl) (hD.sub [1, 2, 3, 4, 5, 6, 7, 8, 9, 10, 11] (by decide) rfl) rfl rfl) rfl rfl hl.1 rfl (lv_room (Nat.le_of_ble_eq_true rfl)) dX10_undo_36 ⟨Nat.zero_le _, Nat.zero_le _⟩) hS hP hD [1, 2, 3, 4, 5, 6, 7, 8, 9, 10, 11] [0] rfl rfl (by decide) (fun _ => rfl) (fun ur36 H locs wr36 hP hD hS => ?_)
      have hP : va_P G vwCl [(a0, .inr (10, [.ref a1, .ref a3, .ref a11, .ref a25, .ref a68, .ref a69, .ref a77, .ref a82, .ref a84, .ref a88, .ref a91])), (a11, .inr (4, [.ref a12, .ref a19, .ref a24, .int (ur36.1 0)])), (a12, .inr (9, [.ref a13, .ref a15, .ref a16, .ref a17, .ref a18, .int n12_5, .int n12_6])), (a13, .inr (0, [.ref a14, .int n13_1])), (a14, .inl (ct 0, 8, .inl f14)), (a18, .inl (ct 0, 8, .inl f18)), (a19, .inr (2, [.ref a12, .ref a20, .ref a22, .ref a23, .int (ur36.1 1), .int (ur36.1 2), .int (ur36.1 3), .int (ur36.1 4)])), (a20, .inr (0, [.ref a21, .int (ur36.1 5)])), (a21, .inl (ct 0, 8, .inl (ur36.2.1 0))), (a22, .inl (ct 0, 8, .inl (ur36.2.1 1))), (a23, .inl (ct 0, 8, .inl (ur36.2.1 2))), (a24, .inl (ct 0, 40, .inl f24))] H := hP.sub [0, 1, 2, 3, 4, 5, 6, 7, 8, 9, 10, 11] rfl
      have hD : va_D A [(a0, .inr (10, [.ref a1, .ref a3, .ref a11, .ref a25, .ref a68, .ref a69, .ref a77, .ref a82, .ref a84, .ref a88, .ref a91])), (a11, .inr (4, [.ref a12, .ref a19, .ref a24, .int (ur36.1 0)])), (a12, .inr (9, [.ref a13, .ref a15, .ref a16, .ref a17, .ref a18, .int n12_5, .int n12_6])), (a13, .inr (0, [.ref a14, .int n13_1])), (a14, .inl (ct 0, 8, .inl f14)), (a18, .inl (ct 0, 8, .inl f18)), (a19, .inr (2, [.ref a12, .ref a20, .ref a22, .ref a23, .int (ur36.1 1), .int (ur36.1 2), .int (ur36.1 3), .int (ur36.1 4)])), (a20, .inr (0, [.ref a21, .int (ur36.1 5)])), (a21, .inl (ct 0, 8, .inl (ur36.2.1 0))), (a22, .inl (ct 0, 8, .inl (ur36.2.1 1))), (a23, .inl (ct 0, 8, .inl (ur36.2.1 2))), (a24, .inl (ct 0, 40, .inl f24))] := hD.sub [0, 1, 2, 3, 4, 5, 6, 7, 8, 9, 10, 11] (by decide) rfl
      obtain ⟨p_6, -⟩ := wr36
      refine lv_aload_n hx hb dX10_undo_39 rfl (lv_at hl 0 rfl) ?_
      refine va_get (D := G) (ci := 10) (v := .ref a11) (C := RX10) (T := TX10) (N := 11) hx hb hts (by decide +kernel) hown hK.1 hP 0 rfl rfl 2 (by decide) (hts (.fieldLink RX10 28 "CardHolder" "play" "LCardHolder$Play;") (by decide +kernel)) (fun _ h9 => h9) rfl dX10_undo_40 ?_
      refine va_get (D := G) (ci := 4) (v := .int (ur36.1 0)) (C := RX4) (T := TX4) (N := 4) hx hb hts (by decide +kernel) hown hK.1 hP 1 rfl rfl 3 (by decide) (hts (.fieldLink RX10 226 "CardHolder$Play" "acts" "I") (by decide +kernel)) (fun _ h9 => h9) rfl dX10_undo_43 ?_
      exact W.iret (v := ur36.1 0) hx hb hr (fun t ht hW => ⟨⟨ur36.1 0, (fun k => ([ur36.1 0, ur36.1 1, ur36.1 2, ur36.1 3, ur36.1 4, ur36.1 5] : List Int32).getD k 0, fun k => ([ur36.2.1 0, ur36.2.1 1, ur36.2.1 2] : List (Nat → Int32)).getD k (fun _ => 0), fun k => ([] : List (Nat → Int64)).getD k (fun _ => 0)), rfl, ⟨(fun _ => h_5), (fun _ => h_5), (fun _ => h_5), p_6, trivial⟩, hp_at ht hP⟩, hS.F ht⟩) hS.2.2 dX10_undo_46
    · have h_7 : rg 0 0 n11_3 := r_eq_l_i (e := 0) (f := 0) c17 (rg_t n11_3) (rgn 0 (x := 0) (by decide)) (by decide)
      refine lv_bipush (v := (-5)) hx hb dX10_undo_20 (by decide) ?_
      exact W.iret (v := (-5)) hx hb hr (fun t ht hW => ⟨⟨(-5), (fun k => ([n11_3, n19_4, n19_5, n19_6, n19_7, n20_1] : List Int32).getD k 0, fun k => ([f21, f22, f23] : List (Nat → Int32)).getD k (fun _ => 0), fun k => ([] : List (Nat → Int64)).getD k (fun _ => 0)), rfl, ⟨(fun _ => h_5), (fun _ => h_5), (fun _ => h_5), hp_n20_1, trivial⟩, hp_at ht hP⟩, hS.F ht⟩) hS.2.2 dX10_undo_22
  · have h_8 : rg 0 0 r1 := r_eq_l_i (e := 0) (f := 0) c4 p_1 (rgn 0 (x := 0) (by decide)) (by decide)
    have h_9 : rg (-2147483648) 0 n12_5 := (p_3 (req h_8 (y := 0) (by decide)))
    refine lv_bipush (v := (-2)) hx hb dX10_undo_7 (by decide) ?_
    exact W.iret (v := (-2)) hx hb hr (fun t ht hW => ⟨⟨(-2), (fun k => ([n11_3, n19_4, n19_5, n19_6, n19_7, n20_1] : List Int32).getD k 0, fun k => ([f21, f22, f23] : List (Nat → Int32)).getD k (fun _ => 0), fun k => ([] : List (Nat → Int64)).getD k (fun _ => 0)), rfl, ⟨(fun hq => absurd hq (rne (rgn (-2) (x := (-2)) (by decide)) (y := 0) (c := 0) (by decide) (by decide))), (fun hq => absurd hq (rne (rgn (-2) (x := (-2)) (by decide)) (y := (-1)) (c := (-1)) (by decide) (by decide))), (fun hq => absurd (req (rgn (-2) (x := (-2)) (by decide)) (y := (-2)) (by decide)) hq), hp_n20_1, trivial⟩, hp_at ht hP⟩, hS.F ht⟩) hS.2.2 dX10_undo_9

set_option maxHeartbeats 4000000 in
set_option maxRecDepth 100000 in
theorem a_X10_anew (l : Launch) (G : va_G) (ct : Nat → ClassId) (a0 : Nat) (a1 : Nat) (a3 : Nat) (a11 : Nat) (a25 : Nat) (a68 : Nat) (a69 : Nat) (a77 : Nat) (a82 : Nat) (a84 : Nat) (a88 : Nat) (a91 : Nat) (a12 : Nat) (a19 : Nat) (a24 : Nat) (n11_3 : Int32) (a13 : Nat) (a15 : Nat) (a16 : Nat) (a17 : Nat) (a18 : Nat) (n12_5 : Int32) (n12_6 : Int32) (a14 : Nat) (n13_1 : Int32) (f14 : Nat → Int32) (f18 : Nat → Int32) (a20 : Nat) (a22 : Nat) (a23 : Nat) (n19_4 : Int32) (n19_5 : Int32) (n19_6 : Int32) (n19_7 : Int32) (a21 : Nat) (n20_1 : Int32) (f21 : Nat → Int32) (f22 : Nat → Int32) (f23 : Nat → Int32) (f24 : Nat → Int32) (hp_n13_1 : rg 0 8 n13_1) (hp_n20_1 : rg 0 8 n20_1) : Met l yX10_anew wsX10_anew ({ frames := 5, cells := 0, slots := 0, locals := 124 }) (va_Pc [.ref a0] (wrP G ct [(a0, .inr (10, [.ref a1, .ref a3, .ref a11, .ref a25, .ref a68, .ref a69, .ref a77, .ref a82, .ref a84, .ref a88, .ref a91])), (a11, .inr (4, [.ref a12, .ref a19, .ref a24, .int n11_3])), (a12, .inr (9, [.ref a13, .ref a15, .ref a16, .ref a17, .ref a18, .int n12_5, .int n12_6])), (a13, .inr (0, [.ref a14, .int n13_1])), (a14, .inl (ct 0, 8, .inl f14)), (a18, .inl (ct 0, 8, .inl f18)), (a19, .inr (2, [.ref a12, .ref a20, .ref a22, .ref a23, .int n19_4, .int n19_5, .int n19_6, .int n19_7])), (a20, .inr (0, [.ref a21, .int n20_1])), (a21, .inl (ct 0, 8, .inl f21)), (a22, .inl (ct 0, 8, .inl f22)), (a23, .inl (ct 0, 8, .inl f23)), (a24, .inl (ct 0, 40, .inl f24))])) (va_Qi (fun (r : Int32) (u : SU) => (r = 0 → rg 1 2147483647 n12_5) ∧ (r = (-1) → rg 1 2147483647 n12_5) ∧ (¬ r = (-2) → rg 1 2147483647 n12_5) ∧ rg 0 8 (u.1 5) ∧ True) (fun u t => va_P G vwCl ((fun u : SU => [(a0, .inr (10, [.ref a1, .ref a3, .ref a11, .ref a25, .ref a68, .ref a69, .ref a77, .ref a82, .ref a84, .ref a88, .ref a91])), (a11, .inr (4, [.ref a12, .ref a19, .ref a24, .int (u.1 0)])), (a12, .inr (9, [.ref a13, .ref a15, .ref a16, .ref a17, .ref a18, .int n12_5, .int n12_6])), (a13, .inr (0, [.ref a14, .int n13_1])), (a14, .inl (ct 0, 8, .inl f14)), (a18, .inl (ct 0, 8, .inl f18)), (a19, .inr (2, [.ref a12, .ref a20, .ref a22, .ref a23, .int (u.1 1), .int (u.1 2), .int (u.1 3), .int (u.1 4)])), (a20, .inr (0, [.ref a21, .int (u.1 5)])), (a21, .inl (ct 0, 8, .inl (u.2.1 0))), (a22, .inl (ct 0, 8, .inl (u.2.1 1))), (a23, .inl (ct 0, 8, .inl (u.2.1 2))), (a24, .inl (ct 0, 40, .inl f24))]) u) t.heap) (aset [(a0, .inr (10, [.ref a1, .ref a3, .ref a11, .ref a25, .ref a68, .ref a69, .ref a77, .ref a82, .ref a84, .ref a88, .ref a91])), (a11, .inr (4, [.ref a12, .ref a19, .ref a24, .int n11_3])), (a12, .inr (9, [.ref a13, .ref a15, .ref a16, .ref a17, .ref a18, .int n12_5, .int n12_6])), (a13, .inr (0, [.ref a14, .int n13_1])), (a14, .inl (ct 0, 8, .inl f14)), (a18, .inl (ct 0, 8, .inl f18)), (a19, .inr (2, [.ref a12, .ref a20, .ref a22, .ref a23, .int n19_4, .int n19_5, .int n19_6, .int n19_7])), (a20, .inr (0, [.ref a21, .int n20_1])), (a21, .inl (ct 0, 8, .inl f21)), (a22, .inl (ct 0, 8, .inl f22)), (a23, .inl (ct 0, 8, .inl f23)), (a24, .inl (ct 0, 40, .inl f24))])) 0 0 (aset [(a0, .inr (10, [.ref a1, .ref a3, .ref a11, .ref a25, .ref a68, .ref a69, .ref a77, .ref a82, .ref a84, .ref a88, .ref a91])), (a11, .inr (4, [.ref a12, .ref a19, .ref a24, .int n11_3])), (a12, .inr (9, [.ref a13, .ref a15, .ref a16, .ref a17, .ref a18, .int n12_5, .int n12_6])), (a13, .inr (0, [.ref a14, .int n13_1])), (a14, .inl (ct 0, 8, .inl f14)), (a18, .inl (ct 0, 8, .inl f18)), (a19, .inr (2, [.ref a12, .ref a20, .ref a22, .ref a23, .int n19_4, .int n19_5, .int n19_6, .int n19_7])), (a20, .inr (0, [.ref a21, .int n20_1])), (a21, .inl (ct 0, 8, .inl f21)), (a22, .inl (ct 0, 8, .inl f22)), (a23, .inl (ct 0, 8, .inl f23)), (a24, .inl (ct 0, 40, .inl f24))]) := by
  refine Met.ofW (cc := cX10_anew) (maxL := 2) (ret := (some .int)) (by decide) rfl ?_
  intro p e s m args below meth c s₁ B hml hv
  obtain ⟨rfl, hP, hK, hD0⟩ := hv
  have hx := B.exec
  have hb := B.bytes
  have hr := B.returns
  have hts := atoms_spec (ws := wsX10_anew) B.pre
  have hown : s.vm.findClass RX10 = some m.cls := findClass_of_methodNamed B.named
  have hlocks := B.notSynchronized
  have hD := hD0.aself
  generalize hAe : aset [(a0, .inr (10, [.ref a1, .ref a3, .ref a11, .ref a25, .ref a68, .ref a69, .ref a77, .ref a82, .ref a84, .ref a88, .ref a91])), (a11, .inr (4, [.ref a12, .ref a19, .ref a24, .int n11_3])), (a12, .inr (9, [.ref a13, .ref a15, .ref a16, .ref a17, .ref a18, .int n12_5, .int n12_6])), (a13, .inr (0, [.ref a14, .int n13_1])), (a14, .inl (ct 0, 8, .inl f14)), (a18, .inl (ct 0, 8, .inl f18)), (a19, .inr (2, [.ref a12, .ref a20, .ref a22, .ref a23, .int n19_4, .int n19_5, .int n19_6, .int n19_7])), (a20, .inr (0, [.ref a21, .int n20_1])), (a21, .inl (ct 0, 8, .inl f21)), (a22, .inl (ct 0, 8, .inl f22)), (a23, .inl (ct 0, 8, .inl f23)), (a24, .inl (ct 0, 40, .inl f24))] = A at hD ⊢
  have hS : va_S A s.heap s.heap [] := va_S.rf
  have hl := lv_entry ([.ref a0]) (n := 2) (Nat.le_of_ble_eq_true rfl)
  rw [lg_entry_eq]
  generalize (lg_sl ([.ref a0]) ++ List.replicate (2 - (lg_sl ([.ref a0])).length) Slot.unset).toArray = ls at hl ⊢
  have hl : lv_has ls 2 [(0, .ref a0)] := hl
  refine lv_aload_n hx hb dX10_anew_0 rfl (lv_at hl 0 rfl) ?_
  refine ro_calli (va_runV (As := []) (rest := []) ⟨hx, hb, hml, hown, hts⟩ (a_X10_hasCity l G ct a0 a1 a3 a11 a25 a68 a69 a77 a82 a84 a88 a91 a12 a19 a24 n11_3 a13 a15 a16 a17 a18 n12_5 n12_6) (cwV 0 hts gX10_anew_X10_hasCity rfl rfl rfl (by decide +kernel) ⟨Nat.le_of_ble_eq_true rfl, Nat.le_of_ble_eq_true rfl⟩) (ro_preV 10 0 hK (hP.sub [0, 1, 2] rfl) rfl rfl) rfl rfl hl.1 rfl (lv_room (Nat.le_of_ble_eq_true rfl)) dX10_anew_1 ⟨Nat.zero_le _, Nat.zero_le _⟩) hS hP (fun r1 H locs wr1 hP hS => ?_)
  obtain ⟨p_1, p_2, p_3, -⟩ := wr1
  refine lv_if_ne (tgt := 10) hx hb dX10_anew_4 (by decide) (fun c4 => ?_) (fun c4 => ?_)
  · have h_4 : rg 1 1 r1 := r_ne_lo_i c4 p_1 (by decide) (by decide)
    have h_5 : rg 1 2147483647 n12_5 := (p_2 (rne h_4 (y := 0) (c := 0) (by decide) (by decide)))
    refine lv_aload_n hx hb dX10_anew_10 rfl (lv_at hl 0 rfl) ?_
    refine va_get (D := G) (ci := 10) (v := .ref a11) (C := RX10) (T := TX10) (N := 11) hx hb hts (by decide +kernel) hown hK.1 hP 0 rfl rfl 2 (by decide) (hts (.fieldLink RX10 28 "CardHolder" "play" "LCardHolder$Play;") (by decide +kernel)) (fun _ h9 => h9) rfl dX10_anew_11 ?_
    refine va_get (D := G) (ci := 4) (v := .int n11_3) (C := RX4) (T := TX4) (N := 4) hx hb hts (by decide +kernel) hown hK.1 hP 1 rfl rfl 3 (by decide) (hts (.fieldLink RX10 226 "CardHolder$Play" "acts" "I") (by decide +kernel)) (fun _ h9 => h9) rfl dX10_anew_14 ?_
    refine lv_istore_n (lv' := [(1, .int n11_3), (0, .ref a0)]) hx hb dX10_anew_17 rfl hl (by decide) rfl (fun ls hl => ?_)
    refine lv_aload_n hx hb dX10_anew_18 rfl (lv_at hl 1 rfl) ?_
    refine va_get (D := G) (ci := 10) (v := .ref a11) (C := RX10) (T := TX10) (N := 11) hx hb hts (by decide +kernel) hown hK.1 hP 0 rfl rfl 2 (by decide) (hts (.fieldLink RX10 28 "CardHolder" "play" "LCardHolder$Play;") (by decide +kernel)) (fun _ h9 => h9) rfl dX10_anew_19 ?_
    refine lv_iconst (v := 0) hx hb dX10_anew_22 (by decide) ?_
    refine wj_callv (wr := [(a0, .inr (10, [.ref a1, .ref a3, .ref a11, .ref a25, .ref a68, .ref a69, .ref a77, .ref a82, .ref a84, .ref a88, .ref a91]))]) (w1 := (fun u : SU => [(a11, .inr (4, [.ref a12, .ref a19, .ref a24, .int (u.1 0)])), (a12, .inr (9, [.ref a13, .ref a15, .ref a16, .ref a17, .ref a18, .int n12_5, .int n12_6])), (a13, .inr (0, [.ref a14, .int n13_1])), (a14, .inl (ct 0, 8, .inl f14)), (a18, .inl (ct 0, 8, .inl f18)), (a19, .inr (2, [.ref a12, .ref a20, .ref a22, .ref a23, .int (u.1 1), .int (u.1 2), .int (u.1 3), .int (u.1 4)])), (a20, .inr (0, [.ref a21, .int (u.1 5)])), (a21, .inl (ct 0, 8, .inl (u.2.1 0))), (a22, .inl (ct 0, 8, .inl (u.2.1 1))), (a23, .inl (ct 0, 8, .inl (u.2.1 2))), (a24, .inl (ct 0, 40, .inl f24))])) (va_runV (As := [.int 0]) (rest := []) ⟨hx, hb, hml, hown, hts⟩ (a_X4_replay l G ct a11 a12 a19 a24 n11_3 a13 a15 a16 a17 a18 n12_5 n12_6 a14 n13_1 f14 f18 a20 a22 a23 n19_4 n19_5 n19_6 n19_7 a21 n20_1 f21 f22 f23 f24 (0 : Int32) hp_n13_1 hp_n20_1) (cwV 1 hts gX10_anew_X4_replay rfl rfl rfl (by decide +kernel) ⟨Nat.le_of_ble_eq_true rfl, Nat.le_of_ble_eq_true rfl⟩) (wr_preV 4 0 hK (hP.sub [1, 2, 3, 4, 5, 6, 7, 8, 9, 10, 11] rfl) (hD.sub [1, 2, 3, 4, 5, 6, 7, 8, 9, 10, 11] (by decide) rfl) rfl rfl) rfl rfl hl.1 rfl (lv_room (Nat.le_of_ble_eq_true rfl)) dX10_anew_23 ⟨Nat.zero_le _, Nat.zero_le _⟩) hS hP hD [1, 2, 3, 4, 5, 6, 7, 8, 9, 10, 11] [0] rfl rfl (by decide) (fun _ => rfl) (fun ur23 H locs wr23 hP hD hS => ?_)
    have hP : va_P G vwCl [(a0, .inr (10, [.ref a1, .ref a3, .ref a11, .ref a25, .ref a68, .ref a69, .ref a77, .ref a82, .ref a84, .ref a88, .ref a91])), (a11, .inr (4, [.ref a12, .ref a19, .ref a24, .int (ur23.1 0)])), (a12, .inr (9, [.ref a13, .ref a15, .ref a16, .ref a17, .ref a18, .int n12_5, .int n12_6])), (a13, .inr (0, [.ref a14, .int n13_1])), (a14, .inl (ct 0, 8, .inl f14)), (a18, .inl (ct 0, 8, .inl f18)), (a19, .inr (2, [.ref a12, .ref a20, .ref a22, .ref a23, .int (ur23.1 1), .int (ur23.1 2), .int (ur23.1 3), .int (ur23.1 4)])), (a20, .inr (0, [.ref a21, .int (ur23.1 5)])), (a21, .inl (ct 0, 8, .inl (ur23.2.1 0))), (a22, .inl (ct 0, 8, .inl (ur23.2.1 1))), (a23, .inl (ct 0, 8, .inl (ur23.2.1 2))), (a24, .inl (ct 0, 40, .inl f24))] H := hP.sub [0, 1, 2, 3, 4, 5, 6, 7, 8, 9, 10, 11] rfl
    have hD : va_D A [(a0, .inr (10, [.ref a1, .ref a3, .ref a11, .ref a25, .ref a68, .ref a69, .ref a77, .ref a82, .ref a84, .ref a88, .ref a91])), (a11, .inr (4, [.ref a12, .ref a19, .ref a24, .int (ur23.1 0)])), (a12, .inr (9, [.ref a13, .ref a15, .ref a16, .ref a17, .ref a18, .int n12_5, .int n12_6])), (a13, .inr (0, [.ref a14, .int n13_1])), (a14, .inl (ct 0, 8, .inl f14)), (a18, .inl (ct 0, 8, .inl f18)), (a19, .inr (2, [.ref a12, .ref a20, .ref a22, .ref a23, .int (ur23.1 1), .int (ur23.1 2), .int (ur23.1 3), .int (ur23.1 4)])), (a20, .inr (0, [.ref a21, .int (ur23.1 5)])), (a21, .inl (ct 0, 8, .inl (ur23.2.1 0))), (a22, .inl (ct 0, 8, .inl (ur23.2.1 1))), (a23, .inl (ct 0, 8, .inl (ur23.2.1 2))), (a24, .inl (ct 0, 40, .inl f24))] := hD.sub [0, 1, 2, 3, 4, 5, 6, 7, 8, 9, 10, 11] (by decide) rfl
    obtain ⟨p_6, -⟩ := wr23
    refine lv_iload_n hx hb dX10_anew_26 rfl (lv_at hl 0 rfl) ?_
    exact W.iret (v := n11_3) hx hb hr (fun t ht hW => ⟨⟨n11_3, (fun k => ([ur23.1 0, ur23.1 1, ur23.1 2, ur23.1 3, ur23.1 4, ur23.1 5] : List Int32).getD k 0, fun k => ([ur23.2.1 0, ur23.2.1 1, ur23.2.1 2] : List (Nat → Int32)).getD k (fun _ => 0), fun k => ([] : List (Nat → Int64)).getD k (fun _ => 0)), rfl, ⟨(fun _ => h_5), (fun _ => h_5), (fun _ => h_5), p_6, trivial⟩, hp_at ht hP⟩, hS.F ht⟩) hS.2.2 dX10_anew_27
  · have h_7 : rg 0 0 r1 := r_eq_l_i (e := 0) (f := 0) c4 p_1 (rgn 0 (x := 0) (by decide)) (by decide)
    have h_8 : rg (-2147483648) 0 n12_5 := (p_3 (req h_7 (y := 0) (by decide)))
    refine lv_bipush (v := (-2)) hx hb dX10_anew_7 (by decide) ?_
    exact W.iret (v := (-2)) hx hb hr (fun t ht hW => ⟨⟨(-2), (fun k => ([n11_3, n19_4, n19_5, n19_6, n19_7, n20_1] : List Int32).getD k 0, fun k => ([f21, f22, f23] : List (Nat → Int32)).getD k (fun _ => 0), fun k => ([] : List (Nat → Int64)).getD k (fun _ => 0)), rfl, ⟨(fun hq => absurd hq (rne (rgn (-2) (x := (-2)) (by decide)) (y := 0) (c := 0) (by decide) (by decide))), (fun hq => absurd hq (rne (rgn (-2) (x := (-2)) (by decide)) (y := (-1)) (c := (-1)) (by decide) (by decide))), (fun hq => absurd (req (rgn (-2) (x := (-2)) (by decide)) (y := (-2)) (by decide)) hq), hp_n20_1, trivial⟩, hp_at ht hP⟩, hS.F ht⟩) hS.2.2 dX10_anew_9

set_option maxHeartbeats 4000000 in
set_option maxRecDepth 100000 in
theorem a_X10_now (l : Launch) (G : va_G) (ct : Nat → ClassId) (a0 : Nat) (a1 : Nat) (a3 : Nat) (a11 : Nat) (a25 : Nat) (a68 : Nat) (a69 : Nat) (a77 : Nat) (a82 : Nat) (a84 : Nat) (a88 : Nat) (a91 : Nat) (a12 : Nat) (a19 : Nat) (a24 : Nat) (n11_3 : Int32) (a13 : Nat) (a15 : Nat) (a16 : Nat) (a17 : Nat) (a18 : Nat) (n12_5 : Int32) (n12_6 : Int32) (a20 : Nat) (a22 : Nat) (a23 : Nat) (n19_4 : Int32) (n19_5 : Int32) (n19_6 : Int32) (n19_7 : Int32) (p0 : Int32)  : Met l yX10_now wsX10_now ({ frames := 1, cells := 0, slots := 0, locals := 20 }) (va_Pc [.ref a0, .int p0] (roP G ct [(a0, .inr (10, [.ref a1, .ref a3, .ref a11, .ref a25, .ref a68, .ref a69, .ref a77, .ref a82, .ref a84, .ref a88, .ref a91])), (a11, .inr (4, [.ref a12, .ref a19, .ref a24, .int n11_3])), (a12, .inr (9, [.ref a13, .ref a15, .ref a16, .ref a17, .ref a18, .int n12_5, .int n12_6])), (a19, .inr (2, [.ref a12, .ref a20, .ref a22, .ref a23, .int n19_4, .int n19_5, .int n19_6, .int n19_7]))])) (roQ (fun r => (r = 0 → rg 0 3 p0) ∧ (r = (-1) → rg 0 3 p0) ∧ (¬ r = (-2) → rg 0 3 p0) ∧ (r = 0 → rg 1 2147483647 n12_5) ∧ (r = (-1) → rg 1 2147483647 n12_5) ∧ (¬ r = (-2) → rg 1 2147483647 n12_5) ∧ True)) 0 0 no := by
  refine Met.ofW (cc := cX10_now) (maxL := 2) (ret := (some .int)) (by decide) rfl ?_
  intro p e s m args below meth c s₁ B hml hv
  obtain ⟨rfl, hP, hK⟩ := hv
  have hx := B.exec
  have hb := B.bytes
  have hr := B.returns
  have hts := atoms_spec (ws := wsX10_now) B.pre
  have hown : s.vm.findClass RX10 = some m.cls := findClass_of_methodNamed B.named
  have hlocks := B.notSynchronized
  have hS : va_S no s.heap s.heap [] := va_S.rf
  have hl := lv_entry ([.ref a0, .int p0]) (n := 2) (Nat.le_of_ble_eq_true rfl)
  rw [lg_entry_eq]
  generalize (lg_sl ([.ref a0, .int p0]) ++ List.replicate (2 - (lg_sl ([.ref a0, .int p0])).length) Slot.unset).toArray = ls at hl ⊢
  have hl : lv_has ls 2 [(0, .ref a0), (1, .int p0)] := hl
  refine lv_aload_n hx hb dX10_now_0 rfl (lv_at hl 0 rfl) ?_
  refine ro_calli (va_runV (As := []) (rest := []) ⟨hx, hb, hml, hown, hts⟩ (a_X10_hasCity l G ct a0 a1 a3 a11 a25 a68 a69 a77 a82 a84 a88 a91 a12 a19 a24 n11_3 a13 a15 a16 a17 a18 n12_5 n12_6) (cwV 0 hts gX10_now_X10_hasCity rfl rfl rfl (by decide +kernel) ⟨Nat.le_of_ble_eq_true rfl, Nat.le_of_ble_eq_true rfl⟩) (ro_preV 10 0 hK (hP.sub [0, 1, 2] rfl) rfl rfl) rfl rfl hl.1 rfl (lv_room (Nat.le_of_ble_eq_true rfl)) dX10_now_1 ⟨Nat.zero_le _, Nat.zero_le _⟩) hS hP (fun r1 H locs wr1 hP hS => ?_)
  obtain ⟨p_1, p_2, p_3, -⟩ := wr1
  refine lv_if_ne (tgt := 10) hx hb dX10_now_4 (by decide) (fun c4 => ?_) (fun c4 => ?_)
  · have h_4 : rg 1 1 r1 := r_ne_lo_i c4 p_1 (by decide) (by decide)
    have h_5 : rg 1 2147483647 n12_5 := (p_2 (rne h_4 (y := 0) (c := 0) (by decide) (by decide)))
    refine lv_iload_n hx hb dX10_now_10 rfl (lv_at hl 1 rfl) ?_
    by_cases c11 : p0 = 0 ∨ p0 = 1 ∨ p0 = 2 ∨ p0 = 3
    · rcases c11 with c11 | c11 | c11 | c11
      · refine lv_tableIn (tgt := 40) hx hb dX10_now_11 (by rw [c11]; decide) (by rw [c11]; decide) (by rw [c11]; rfl) (by decide) ?_
        have h_6 : rg 0 0 p0 := r_eq_l_i (e := 0) (f := 0) c11 (rg_t p0) (rgn 0 (x := 0) (by decide)) (by decide)
        refine lv_aload_n hx hb dX10_now_40 rfl (lv_at hl 0 rfl) ?_
        refine va_get (D := G) (ci := 10) (v := .ref a11) (C := RX10) (T := TX10) (N := 11) hx hb hts (by decide +kernel) hown hK.1 hP 0 rfl rfl 2 (by decide) (hts (.fieldLink RX10 28 "CardHolder" "play" "LCardHolder$Play;") (by decide +kernel)) (fun _ h9 => h9) rfl dX10_now_41 ?_
        refine va_get (D := G) (ci := 4) (v := .ref a19) (C := RX4) (T := TX4) (N := 4) hx hb hts (by decide +kernel) hown hK.1 hP 1 rfl rfl 1 (by decide) (hts (.fieldLink RX10 147 "CardHolder$Play" "hands" "LCardHolder$Hands;") (by decide +kernel)) (fun _ h9 => h9) rfl dX10_now_44 ?_
        refine va_get (D := G) (ci := 2) (v := .int n19_6) (C := RX2) (T := TX2) (N := 8) hx hb hts (by decide +kernel) hown hK.1 hP 3 rfl rfl 6 (by decide) (hts (.fieldLink RX10 223 "CardHolder$Hands" "today" "I") (by decide +kernel)) (fun _ h9 => h9) rfl dX10_now_47 ?_
        exact W.iret (v := n19_6) hx hb hr (fun t ht hW => ⟨⟨n19_6, (), rfl, ⟨(fun _ => (rg_w (c := 0) (d := 3) h_6 (by decide))), (fun _ => (rg_w (c := 0) (d := 3) h_6 (by decide))), (fun _ => (rg_w (c := 0) (d := 3) h_6 (by decide))), (fun _ => h_5), (fun _ => h_5), (fun _ => h_5), trivial⟩, trivial⟩, hS.F ht⟩) hS.2.2 dX10_now_50
      · refine lv_tableIn (tgt := 51) hx hb dX10_now_11 (by rw [c11]; decide) (by rw [c11]; decide) (by rw [c11]; rfl) (by decide) ?_
        have h_7 : rg 1 1 p0 := r_eq_l_i (e := 1) (f := 1) c11 (rg_t p0) (rgn 1 (x := 1) (by decide)) (by decide)
        refine lv_aload_n hx hb dX10_now_51 rfl (lv_at hl 0 rfl) ?_
        refine va_get (D := G) (ci := 10) (v := .ref a11) (C := RX10) (T := TX10) (N := 11) hx hb hts (by decide +kernel) hown hK.1 hP 0 rfl rfl 2 (by decide) (hts (.fieldLink RX10 28 "CardHolder" "play" "LCardHolder$Play;") (by decide +kernel)) (fun _ h9 => h9) rfl dX10_now_52 ?_
        refine va_get (D := G) (ci := 4) (v := .ref a19) (C := RX4) (T := TX4) (N := 4) hx hb hts (by decide +kernel) hown hK.1 hP 1 rfl rfl 1 (by decide) (hts (.fieldLink RX10 147 "CardHolder$Play" "hands" "LCardHolder$Hands;") (by decide +kernel)) (fun _ h9 => h9) rfl dX10_now_55 ?_
        refine va_get (D := G) (ci := 2) (v := .int n19_4) (C := RX2) (T := TX2) (N := 8) hx hb hts (by decide +kernel) hown hK.1 hP 3 rfl rfl 4 (by decide) (hts (.fieldLink RX10 150 "CardHolder$Hands" "askedToday" "I") (by decide +kernel)) (fun _ h9 => h9) rfl dX10_now_58 ?_
        exact W.iret (v := n19_4) hx hb hr (fun t ht hW => ⟨⟨n19_4, (), rfl, ⟨(fun _ => (rg_w (c := 0) (d := 3) h_7 (by decide))), (fun _ => (rg_w (c := 0) (d := 3) h_7 (by decide))), (fun _ => (rg_w (c := 0) (d := 3) h_7 (by decide))), (fun _ => h_5), (fun _ => h_5), (fun _ => h_5), trivial⟩, trivial⟩, hS.F ht⟩) hS.2.2 dX10_now_61
      · refine lv_tableIn (tgt := 62) hx hb dX10_now_11 (by rw [c11]; decide) (by rw [c11]; decide) (by rw [c11]; rfl) (by decide) ?_
        have h_8 : rg 2 2 p0 := r_eq_l_i (e := 2) (f := 2) c11 (rg_t p0) (rgn 2 (x := 2) (by decide)) (by decide)
        refine lv_aload_n hx hb dX10_now_62 rfl (lv_at hl 0 rfl) ?_
        refine va_get (D := G) (ci := 10) (v := .ref a11) (C := RX10) (T := TX10) (N := 11) hx hb hts (by decide +kernel) hown hK.1 hP 0 rfl rfl 2 (by decide) (hts (.fieldLink RX10 28 "CardHolder" "play" "LCardHolder$Play;") (by decide +kernel)) (fun _ h9 => h9) rfl dX10_now_63 ?_
        refine va_get (D := G) (ci := 4) (v := .ref a19) (C := RX4) (T := TX4) (N := 4) hx hb hts (by decide +kernel) hown hK.1 hP 1 rfl rfl 1 (by decide) (hts (.fieldLink RX10 147 "CardHolder$Play" "hands" "LCardHolder$Hands;") (by decide +kernel)) (fun _ h9 => h9) rfl dX10_now_66 ?_
        refine va_get (D := G) (ci := 2) (v := .int n19_5) (C := RX2) (T := TX2) (N := 8) hx hb hts (by decide +kernel) hown hK.1 hP 3 rfl rfl 5 (by decide) (hts (.fieldLink RX10 220 "CardHolder$Hands" "stolen" "I") (by decide +kernel)) (fun _ h9 => h9) rfl dX10_now_69 ?_
        exact W.iret (v := n19_5) hx hb hr (fun t ht hW => ⟨⟨n19_5, (), rfl, ⟨(fun _ => (rg_w (c := 0) (d := 3) h_8 (by decide))), (fun _ => (rg_w (c := 0) (d := 3) h_8 (by decide))), (fun _ => (rg_w (c := 0) (d := 3) h_8 (by decide))), (fun _ => h_5), (fun _ => h_5), (fun _ => h_5), trivial⟩, trivial⟩, hS.F ht⟩) hS.2.2 dX10_now_72
      · refine lv_tableIn (tgt := 73) hx hb dX10_now_11 (by rw [c11]; decide) (by rw [c11]; decide) (by rw [c11]; rfl) (by decide) ?_
        have h_9 : rg 3 3 p0 := r_eq_l_i (e := 3) (f := 3) c11 (rg_t p0) (rgn 3 (x := 3) (by decide)) (by decide)
        refine lv_aload_n hx hb dX10_now_73 rfl (lv_at hl 0 rfl) ?_
        refine va_get (D := G) (ci := 10) (v := .ref a11) (C := RX10) (T := TX10) (N := 11) hx hb hts (by decide +kernel) hown hK.1 hP 0 rfl rfl 2 (by decide) (hts (.fieldLink RX10 28 "CardHolder" "play" "LCardHolder$Play;") (by decide +kernel)) (fun _ h9 => h9) rfl dX10_now_74 ?_
        refine va_get (D := G) (ci := 4) (v := .ref a19) (C := RX4) (T := TX4) (N := 4) hx hb hts (by decide +kernel) hown hK.1 hP 1 rfl rfl 1 (by decide) (hts (.fieldLink RX10 147 "CardHolder$Play" "hands" "LCardHolder$Hands;") (by decide +kernel)) (fun _ h9 => h9) rfl dX10_now_77 ?_
        refine va_get (D := G) (ci := 2) (v := .int n19_7) (C := RX2) (T := TX2) (N := 8) hx hb hts (by decide +kernel) hown hK.1 hP 3 rfl rfl 7 (by decide) (hts (.fieldLink RX10 232 "CardHolder$Hands" "deedsDone" "I") (by decide +kernel)) (fun _ h9 => h9) rfl dX10_now_80 ?_
        exact W.iret (v := n19_7) hx hb hr (fun t ht hW => ⟨⟨n19_7, (), rfl, ⟨(fun _ => (rg_w (c := 0) (d := 3) h_9 (by decide))), (fun _ => (rg_w (c := 0) (d := 3) h_9 (by decide))), (fun _ => (rg_w (c := 0) (d := 3) h_9 (by decide))), (fun _ => h_5), (fun _ => h_5), (fun _ => h_5), trivial⟩, trivial⟩, hS.F ht⟩) hS.2.2 dX10_now_83
    · obtain ⟨d11_0, c11⟩ := not_or.mp c11
      obtain ⟨d11_1, c11⟩ := not_or.mp c11
      obtain ⟨d11_2, c11⟩ := not_or.mp c11
      have d11_3 := c11
      refine lv_tableOut (tgt := 84) hx hb dX10_now_11 (by have := i_ne d11_0; have := i_ne d11_1; have := i_ne d11_2; have := i_ne d11_3; have : (0 : Int32).toInt = 0 := (by decide); have : (1 : Int32).toInt = 1 := (by decide); have : (2 : Int32).toInt = 2 := (by decide); have : (3 : Int32).toInt = 3 := (by decide); omega) (by decide) ?_
      refine lv_bipush (v := (-2)) hx hb dX10_now_84 (by decide) ?_
      exact W.iret (v := (-2)) hx hb hr (fun t ht hW => ⟨⟨(-2), (), rfl, ⟨(fun hq => absurd hq (rne (rgn (-2) (x := (-2)) (by decide)) (y := 0) (c := 0) (by decide) (by decide))), (fun hq => absurd hq (rne (rgn (-2) (x := (-2)) (by decide)) (y := (-1)) (c := (-1)) (by decide) (by decide))), (fun hq => absurd (req (rgn (-2) (x := (-2)) (by decide)) (y := (-2)) (by decide)) hq), (fun _ => h_5), (fun _ => h_5), (fun _ => h_5), trivial⟩, trivial⟩, hS.F ht⟩) hS.2.2 dX10_now_86
  · have h_10 : rg 0 0 r1 := r_eq_l_i (e := 0) (f := 0) c4 p_1 (rgn 0 (x := 0) (by decide)) (by decide)
    have h_11 : rg (-2147483648) 0 n12_5 := (p_3 (req h_10 (y := 0) (by decide)))
    refine lv_bipush (v := (-2)) hx hb dX10_now_7 (by decide) ?_
    exact W.iret (v := (-2)) hx hb hr (fun t ht hW => ⟨⟨(-2), (), rfl, ⟨(fun hq => absurd hq (rne (rgn (-2) (x := (-2)) (by decide)) (y := 0) (c := 0) (by decide) (by decide))), (fun hq => absurd hq (rne (rgn (-2) (x := (-2)) (by decide)) (y := (-1)) (c := (-1)) (by decide) (by decide))), (fun hq => absurd (req (rgn (-2) (x := (-2)) (by decide)) (y := (-2)) (by decide)) hq), (fun hq => absurd hq (rne (rgn (-2) (x := (-2)) (by decide)) (y := 0) (c := 0) (by decide) (by decide))), (fun hq => absurd hq (rne (rgn (-2) (x := (-2)) (by decide)) (y := (-1)) (c := (-1)) (by decide) (by decide))), (fun hq => absurd (req (rgn (-2) (x := (-2)) (by decide)) (y := (-2)) (by decide)) hq), trivial⟩, trivial⟩, hS.F ht⟩) hS.2.2 dX10_now_9

set_option maxHeartbeats 4000000 in
set_option maxRecDepth 100000 in
theorem a_X10_own (l : Launch) (G : va_G) (ct : Nat → ClassId) (a0 : Nat) (a1 : Nat) (a3 : Nat) (a11 : Nat) (a25 : Nat) (a68 : Nat) (a69 : Nat) (a77 : Nat) (a82 : Nat) (a84 : Nat) (a88 : Nat) (a91 : Nat) (a12 : Nat) (a19 : Nat) (a24 : Nat) (n11_3 : Int32) (a13 : Nat) (a15 : Nat) (a16 : Nat) (a17 : Nat) (a18 : Nat) (n12_5 : Int32) (n12_6 : Int32) (a20 : Nat) (a22 : Nat) (a23 : Nat) (n19_4 : Int32) (n19_5 : Int32) (n19_6 : Int32) (n19_7 : Int32) (a21 : Nat) (n20_1 : Int32) (f21 : Nat → Int32) (hp_n20_1 : rg 0 8 n20_1) : Met l yX10_own wsX10_own ({ frames := 6, cells := 0, slots := 0, locals := 133 }) (va_Pc [.ref a0] (roP G ct [(a0, .inr (10, [.ref a1, .ref a3, .ref a11, .ref a25, .ref a68, .ref a69, .ref a77, .ref a82, .ref a84, .ref a88, .ref a91])), (a11, .inr (4, [.ref a12, .ref a19, .ref a24, .int n11_3])), (a12, .inr (9, [.ref a13, .ref a15, .ref a16, .ref a17, .ref a18, .int n12_5, .int n12_6])), (a19, .inr (2, [.ref a12, .ref a20, .ref a22, .ref a23, .int n19_4, .int n19_5, .int n19_6, .int n19_7])), (a20, .inr (0, [.ref a21, .int n20_1])), (a21, .inl (ct 0, 8, .inl f21))])) (roQ (fun r => (r = 0 → rg 1 2147483647 n12_5) ∧ (r = (-1) → rg 1 2147483647 n12_5) ∧ (¬ r = (-2) → rg 1 2147483647 n12_5) ∧ True)) 0 0 no := by
  refine Met.ofW (cc := cX10_own) (maxL := 1) (ret := (some .int)) (by decide) rfl ?_
  intro p e s m args below meth c s₁ B hml hv
  obtain ⟨rfl, hP, hK⟩ := hv
  have hx := B.exec
  have hb := B.bytes
  have hr := B.returns
  have hts := atoms_spec (ws := wsX10_own) B.pre
  have hown : s.vm.findClass RX10 = some m.cls := findClass_of_methodNamed B.named
  have hlocks := B.notSynchronized
  have hS : va_S no s.heap s.heap [] := va_S.rf
  have hl := lv_entry ([.ref a0]) (n := 1) (Nat.le_of_ble_eq_true rfl)
  rw [lg_entry_eq]
  generalize (lg_sl ([.ref a0]) ++ List.replicate (1 - (lg_sl ([.ref a0])).length) Slot.unset).toArray = ls at hl ⊢
  have hl : lv_has ls 1 [(0, .ref a0)] := hl
  refine lv_aload_n hx hb dX10_own_0 rfl (lv_at hl 0 rfl) ?_
  refine ro_calli (va_runV (As := []) (rest := []) ⟨hx, hb, hml, hown, hts⟩ (a_X10_hasCity l G ct a0 a1 a3 a11 a25 a68 a69 a77 a82 a84 a88 a91 a12 a19 a24 n11_3 a13 a15 a16 a17 a18 n12_5 n12_6) (cwV 0 hts gX10_own_X10_hasCity rfl rfl rfl (by decide +kernel) ⟨Nat.le_of_ble_eq_true rfl, Nat.le_of_ble_eq_true rfl⟩) (ro_preV 10 0 hK (hP.sub [0, 1, 2] rfl) rfl rfl) rfl rfl hl.1 rfl (lv_room (Nat.le_of_ble_eq_true rfl)) dX10_own_1 ⟨Nat.zero_le _, Nat.zero_le _⟩) hS hP (fun r1 H locs wr1 hP hS => ?_)
  obtain ⟨p_1, p_2, p_3, -⟩ := wr1
  refine lv_if_ne (tgt := 10) hx hb dX10_own_4 (by decide) (fun c4 => ?_) (fun c4 => ?_)
  · have h_4 : rg 1 1 r1 := r_ne_lo_i c4 p_1 (by decide) (by decide)
    have h_5 : rg 1 2147483647 n12_5 := (p_2 (rne h_4 (y := 0) (c := 0) (by decide) (by decide)))
    refine lv_aload_n hx hb dX10_own_10 rfl (lv_at hl 0 rfl) ?_
    refine ro_callr (va_runV (As := []) (rest := []) ⟨hx, hb, hml, hown, hts⟩ (a_X10_bonds l G ct a0 a1 a3 a11 a25 a68 a69 a77 a82 a84 a88 a91 a12 a19 a24 n11_3 a20 a22 a23 n19_4 n19_5 n19_6 n19_7) (cwV 0 hts gX10_own_X10_bonds rfl rfl rfl (by decide +kernel) ⟨Nat.le_of_ble_eq_true rfl, Nat.le_of_ble_eq_true rfl⟩) (ro_preV 10 0 hK (hP.sub [0, 1, 3] rfl) rfl rfl) rfl rfl hl.1 rfl (lv_room (Nat.le_of_ble_eq_true rfl)) dX10_own_11 ⟨Nat.zero_le _, Nat.zero_le _⟩) hS hP (fun H locs hP hS => ?_)
    refine ro_calli (va_runV (As := []) (rest := []) ⟨hx, hb, hml, hown, hts⟩ (a_X0_isOneEach l G ct a20 a21 n20_1 f21 hp_n20_1) (cwV 0 hts gX10_own_X0_isOneEach rfl rfl rfl (by decide +kernel) ⟨Nat.le_of_ble_eq_true rfl, Nat.le_of_ble_eq_true rfl⟩) (ro_preV 0 0 hK (hP.sub [4, 5] rfl) rfl rfl) rfl rfl hl.1 rfl (lv_room (Nat.le_of_ble_eq_true rfl)) dX10_own_14 ⟨Nat.zero_le _, Nat.zero_le _⟩) hS hP (fun r14 H locs wr14 hP hS => ?_)
    obtain ⟨p_6, p_7, -⟩ := wr14
    refine lv_if_ne (tgt := 22) hx hb dX10_own_17 (by decide) (fun c17 => ?_) (fun c17 => ?_)
    · have h_8 : rg 1 1 r14 := r_ne_lo_i c17 p_6 (by decide) (by decide)
      refine lv_aload_n hx hb dX10_own_22 rfl (lv_at hl 0 rfl) ?_
      refine ro_callr (va_runV (As := []) (rest := []) ⟨hx, hb, hml, hown, hts⟩ (a_X10_bonds l G ct a0 a1 a3 a11 a25 a68 a69 a77 a82 a84 a88 a91 a12 a19 a24 n11_3 a20 a22 a23 n19_4 n19_5 n19_6 n19_7) (cwV 0 hts gX10_own_X10_bonds rfl rfl rfl (by decide +kernel) ⟨Nat.le_of_ble_eq_true rfl, Nat.le_of_ble_eq_true rfl⟩) (ro_preV 10 0 hK (hP.sub [0, 1, 3] rfl) rfl rfl) rfl rfl hl.1 rfl (lv_room (Nat.le_of_ble_eq_true rfl)) dX10_own_23 ⟨Nat.zero_le _, Nat.zero_le _⟩) hS hP (fun H locs hP hS => ?_)
      refine va_get (D := G) (ci := 0) (v := .int n20_1) (C := RX0) (T := TX0) (N := 2) hx hb hts (by decide +kernel) hown hK.1 hP 4 rfl rfl 1 (by decide) (hts (.fieldLink RX10 238 "CardHolder$Bonds" "persons" "I") (by decide +kernel)) (fun _ h9 => h9) rfl dX10_own_26 ?_
      refine lv_aload_n hx hb dX10_own_29 rfl (lv_at hl 0 rfl) ?_
      refine ro_callr (va_runV (As := []) (rest := [.int n20_1]) ⟨hx, hb, hml, hown, hts⟩ (a_X10_bonds l G ct a0 a1 a3 a11 a25 a68 a69 a77 a82 a84 a88 a91 a12 a19 a24 n11_3 a20 a22 a23 n19_4 n19_5 n19_6 n19_7) (cwV 0 hts gX10_own_X10_bonds rfl rfl rfl (by decide +kernel) ⟨Nat.le_of_ble_eq_true rfl, Nat.le_of_ble_eq_true rfl⟩) (ro_preV 10 0 hK (hP.sub [0, 1, 3] rfl) rfl rfl) rfl rfl hl.1 rfl (lv_room (Nat.le_of_ble_eq_true rfl)) dX10_own_30 ⟨Nat.zero_le _, Nat.zero_le _⟩) hS hP (fun H locs hP hS => ?_)
      refine ro_calli (va_runV (As := []) (rest := [.int n20_1]) ⟨hx, hb, hml, hown, hts⟩ (a_X0_ringCount l G ct a20 a21 n20_1 f21 hp_n20_1) (cwV 0 hts gX10_own_X0_ringCount rfl rfl rfl (by decide +kernel) ⟨Nat.le_of_ble_eq_true rfl, Nat.le_of_ble_eq_true rfl⟩) (ro_preV 0 0 hK (hP.sub [4, 5] rfl) rfl rfl) rfl rfl hl.1 rfl (lv_room (Nat.le_of_ble_eq_true rfl)) dX10_own_33 ⟨Nat.zero_le _, Nat.zero_le _⟩) hS hP (fun r33 H locs wr33 hP hS => ?_)
      refine lv_isub hx hb dX10_own_36 ?_
      refine nm_0 (fun z36 => ?_)
      exact W.iret (v := z36) hx hb hr (fun t ht hW => ⟨⟨z36, (), rfl, ⟨(fun _ => h_5), (fun _ => h_5), (fun _ => h_5), trivial⟩, trivial⟩, hS.F ht⟩) hS.2.2 dX10_own_37
    · have h_9 : rg 0 0 r14 := r_eq_l_i (e := 0) (f := 0) c17 p_6 (rgn 0 (x := 0) (by decide)) (by decide)
      have h_10 : rg 1 8 n20_1 := (p_7 (req h_9 (y := 0) (by decide)))
      refine lv_iconst (v := (-1)) hx hb dX10_own_20 (by decide) ?_
      exact W.iret (v := (-1)) hx hb hr (fun t ht hW => ⟨⟨(-1), (), rfl, ⟨(fun _ => h_5), (fun _ => h_5), (fun _ => h_5), trivial⟩, trivial⟩, hS.F ht⟩) hS.2.2 dX10_own_21
  · have h_11 : rg 0 0 r1 := r_eq_l_i (e := 0) (f := 0) c4 p_1 (rgn 0 (x := 0) (by decide)) (by decide)
    have h_12 : rg (-2147483648) 0 n12_5 := (p_3 (req h_11 (y := 0) (by decide)))
    refine lv_bipush (v := (-2)) hx hb dX10_own_7 (by decide) ?_
    exact W.iret (v := (-2)) hx hb hr (fun t ht hW => ⟨⟨(-2), (), rfl, ⟨(fun hq => absurd hq (rne (rgn (-2) (x := (-2)) (by decide)) (y := 0) (c := 0) (by decide) (by decide))), (fun hq => absurd hq (rne (rgn (-2) (x := (-2)) (by decide)) (y := (-1)) (c := (-1)) (by decide) (by decide))), (fun hq => absurd (req (rgn (-2) (x := (-2)) (by decide)) (y := (-2)) (by decide)) hq), trivial⟩, trivial⟩, hS.F ht⟩) hS.2.2 dX10_own_9

set_option maxHeartbeats 4000000 in
set_option maxRecDepth 100000 in
theorem a_X10_first (l : Launch) (G : va_G) (ct : Nat → ClassId) (a0 : Nat) (a1 : Nat) (a3 : Nat) (a11 : Nat) (a25 : Nat) (a68 : Nat) (a69 : Nat) (a77 : Nat) (a82 : Nat) (a84 : Nat) (a88 : Nat) (a91 : Nat) (a12 : Nat) (a19 : Nat) (a24 : Nat) (n11_3 : Int32) (a13 : Nat) (a15 : Nat) (a16 : Nat) (a17 : Nat) (a18 : Nat) (n12_5 : Int32) (n12_6 : Int32) (a20 : Nat) (a22 : Nat) (a23 : Nat) (n19_4 : Int32) (n19_5 : Int32) (n19_6 : Int32) (n19_7 : Int32) (a21 : Nat) (n20_1 : Int32) (f21 : Nat → Int32) (p0 : Int32) (hp_n20_1 : rg 0 8 n20_1) : Met l yX10_first wsX10_first ({ frames := 4, cells := 0, slots := 0, locals := 88 }) (va_Pc [.ref a0, .int p0] (roP G ct [(a0, .inr (10, [.ref a1, .ref a3, .ref a11, .ref a25, .ref a68, .ref a69, .ref a77, .ref a82, .ref a84, .ref a88, .ref a91])), (a11, .inr (4, [.ref a12, .ref a19, .ref a24, .int n11_3])), (a12, .inr (9, [.ref a13, .ref a15, .ref a16, .ref a17, .ref a18, .int n12_5, .int n12_6])), (a19, .inr (2, [.ref a12, .ref a20, .ref a22, .ref a23, .int n19_4, .int n19_5, .int n19_6, .int n19_7])), (a20, .inr (0, [.ref a21, .int n20_1])), (a21, .inl (ct 0, 8, .inl f21))])) (roQ (fun r => rg (-2147483648) 7 r ∧ (r = 0 → rg 0 1 p0) ∧ (r = (-1) → rg 0 1 p0) ∧ (¬ r = (-2) → rg 0 1 p0) ∧ (r = 0 → rg 1 2147483647 n12_5) ∧ (r = (-1) → rg 1 2147483647 n12_5) ∧ (¬ r = (-2) → rg 1 2147483647 n12_5) ∧ (r = 0 → rg 1 8 n20_1) ∧ True)) 0 0 no := by
  refine Met.ofW (cc := cX10_first) (maxL := 3) (ret := (some .int)) (by decide) rfl ?_
  intro p e s m args below meth c s₁ B hml hv
  obtain ⟨rfl, hP, hK⟩ := hv
  have hx := B.exec
  have hb := B.bytes
  have hr := B.returns
  have hts := atoms_spec (ws := wsX10_first) B.pre
  have hown : s.vm.findClass RX10 = some m.cls := findClass_of_methodNamed B.named
  have hlocks := B.notSynchronized
  have hS : va_S no s.heap s.heap [] := va_S.rf
  have hl := lv_entry ([.ref a0, .int p0]) (n := 3) (Nat.le_of_ble_eq_true rfl)
  rw [lg_entry_eq]
  generalize (lg_sl ([.ref a0, .int p0]) ++ List.replicate (3 - (lg_sl ([.ref a0, .int p0])).length) Slot.unset).toArray = ls at hl ⊢
  have hl : lv_has ls 3 [(0, .ref a0), (1, .int p0)] := hl
  refine lv_aload_n hx hb dX10_first_0 rfl (lv_at hl 0 rfl) ?_
  refine ro_calli (va_runV (As := []) (rest := []) ⟨hx, hb, hml, hown, hts⟩ (a_X10_hasCity l G ct a0 a1 a3 a11 a25 a68 a69 a77 a82 a84 a88 a91 a12 a19 a24 n11_3 a13 a15 a16 a17 a18 n12_5 n12_6) (cwV 0 hts gX10_first_X10_hasCity rfl rfl rfl (by decide +kernel) ⟨Nat.le_of_ble_eq_true rfl, Nat.le_of_ble_eq_true rfl⟩) (ro_preV 10 0 hK (hP.sub [0, 1, 2] rfl) rfl rfl) rfl rfl hl.1 rfl (lv_room (Nat.le_of_ble_eq_true rfl)) dX10_first_1 ⟨Nat.zero_le _, Nat.zero_le _⟩) hS hP (fun r1 H locs wr1 hP hS => ?_)
  obtain ⟨p_1, p_2, p_3, -⟩ := wr1
  refine lv_if_eq (tgt := 16) hx hb dX10_first_4 (by decide) (fun c4 => ?_) (fun c4 => ?_)
  · have h_4 : rg 0 0 r1 := r_eq_l_i (e := 0) (f := 0) c4 p_1 (rgn 0 (x := 0) (by decide)) (by decide)
    have h_5 : rg (-2147483648) 0 n12_5 := (p_3 (req h_4 (y := 0) (by decide)))
    refine lv_bipush (v := (-2)) hx hb dX10_first_16 (by decide) ?_
    exact W.iret (v := (-2)) hx hb hr (fun t ht hW => ⟨⟨(-2), (), rfl, ⟨(rg_w (c := (-2147483648)) (d := 7) (rgn (-2) (x := (-2)) (by decide)) (by decide)), (fun hq => absurd hq (rne (rgn (-2) (x := (-2)) (by decide)) (y := 0) (c := 0) (by decide) (by decide))), (fun hq => absurd hq (rne (rgn (-2) (x := (-2)) (by decide)) (y := (-1)) (c := (-1)) (by decide) (by decide))), (fun hq => absurd (req (rgn (-2) (x := (-2)) (by decide)) (y := (-2)) (by decide)) hq), (fun hq => absurd hq (rne (rgn (-2) (x := (-2)) (by decide)) (y := 0) (c := 0) (by decide) (by decide))), (fun hq => absurd hq (rne (rgn (-2) (x := (-2)) (by decide)) (y := (-1)) (c := (-1)) (by decide) (by decide))), (fun hq => absurd (req (rgn (-2) (x := (-2)) (by decide)) (y := (-2)) (by decide)) hq), (fun hq => absurd hq (rne (rgn (-2) (x := (-2)) (by decide)) (y := 0) (c := 0) (by decide) (by decide))), trivial⟩, trivial⟩, hS.F ht⟩) hS.2.2 dX10_first_18
  · have h_6 : rg 1 1 r1 := r_ne_lo_i c4 p_1 (by decide) (by decide)
    have h_7 : rg 1 2147483647 n12_5 := (p_2 (rne h_6 (y := 0) (c := 0) (by decide) (by decide)))
    refine lv_iload_n hx hb dX10_first_7 rfl (lv_at hl 1 rfl) ?_
    refine lv_if_lt (tgt := 16) hx hb dX10_first_8 (by decide) (fun c8 => ?_) (fun c8 => ?_)
    · have h_8 : rg (-2147483648) (-1) p0 := r_lt_l_i c8 (rg_t p0) (rgn 0 (x := 0) (by decide)) (by decide)
      refine lv_bipush (v := (-2)) hx hb dX10_first_16 (by decide) ?_
      exact W.iret (v := (-2)) hx hb hr (fun t ht hW => ⟨⟨(-2), (), rfl, ⟨(rg_w (c := (-2147483648)) (d := 7) (rgn (-2) (x := (-2)) (by decide)) (by decide)), (fun hq => absurd hq (rne (rgn (-2) (x := (-2)) (by decide)) (y := 0) (c := 0) (by decide) (by decide))), (fun hq => absurd hq (rne (rgn (-2) (x := (-2)) (by decide)) (y := (-1)) (c := (-1)) (by decide) (by decide))), (fun hq => absurd (req (rgn (-2) (x := (-2)) (by decide)) (y := (-2)) (by decide)) hq), (fun _ => h_7), (fun _ => h_7), (fun _ => h_7), (fun hq => absurd hq (rne (rgn (-2) (x := (-2)) (by decide)) (y := 0) (c := 0) (by decide) (by decide))), trivial⟩, trivial⟩, hS.F ht⟩) hS.2.2 dX10_first_18
    · have h_9 : rg 0 2147483647 p0 := r_le_r_i (nlt_i c8) (rgn 0 (x := 0) (by decide)) (rg_t p0)
      refine lv_iload_n hx hb dX10_first_11 rfl (lv_at hl 1 rfl) ?_
      refine lv_iconst (v := 1) hx hb dX10_first_12 (by decide) ?_
      refine lv_icmp_le (tgt := 19) hx hb dX10_first_13 (by decide) (fun c13 => ?_) (fun c13 => ?_)
      · have h_10 : rg 0 1 p0 := r_le_l_i c13 h_9 (rgn 1 (x := 1) (by decide))
        refine lv_aload_n hx hb dX10_first_19 rfl (lv_at hl 0 rfl) ?_
        refine ro_callr (va_runV (As := []) (rest := []) ⟨hx, hb, hml, hown, hts⟩ (a_X10_bonds l G ct a0 a1 a3 a11 a25 a68 a69 a77 a82 a84 a88 a91 a12 a19 a24 n11_3 a20 a22 a23 n19_4 n19_5 n19_6 n19_7) (cwV 0 hts gX10_first_X10_bonds rfl rfl rfl (by decide +kernel) ⟨Nat.le_of_ble_eq_true rfl, Nat.le_of_ble_eq_true rfl⟩) (ro_preV 10 0 hK (hP.sub [0, 1, 3] rfl) rfl rfl) rfl rfl hl.1 rfl (lv_room (Nat.le_of_ble_eq_true rfl)) dX10_first_20 ⟨Nat.zero_le _, Nat.zero_le _⟩) hS hP (fun H locs hP hS => ?_)
        refine ro_calli (va_runV (As := []) (rest := []) ⟨hx, hb, hml, hown, hts⟩ (a_X0_isOneEach l G ct a20 a21 n20_1 f21 hp_n20_1) (cwV 0 hts gX10_first_X0_isOneEach rfl rfl rfl (by decide +kernel) ⟨Nat.le_of_ble_eq_true rfl, Nat.le_of_ble_eq_true rfl⟩) (ro_preV 0 0 hK (hP.sub [4, 5] rfl) rfl rfl) rfl rfl hl.1 rfl (lv_room (Nat.le_of_ble_eq_true rfl)) dX10_first_23 ⟨Nat.zero_le _, Nat.zero_le _⟩) hS hP (fun r23 H locs wr23 hP hS => ?_)
        obtain ⟨p_11, p_12, -⟩ := wr23
        refine lv_if_ne (tgt := 31) hx hb dX10_first_26 (by decide) (fun c26 => ?_) (fun c26 => ?_)
        · have h_13 : rg 1 1 r23 := r_ne_lo_i c26 p_11 (by decide) (by decide)
          refine lv_iconst (v := 0) hx hb dX10_first_31 (by decide) ?_
          refine lv_istore_n (lv' := [(2, .int 0), (0, .ref a0), (1, .int p0)]) hx hb dX10_first_32 rfl hl (by decide) rfl (fun ls hl => ?_)
          have j33 : ∀ (n : Nat) (x33_2 : Int32) (H : Heap) (locs : List Loc) (ls : Array Slot), 2147483648 ≤ x33_2.toInt + (n : Int) → rg 0 8 x33_2 → va_P G vwCl [(a0, .inr (10, [.ref a1, .ref a3, .ref a11, .ref a25, .ref a68, .ref a69, .ref a77, .ref a82, .ref a84, .ref a88, .ref a91])), (a11, .inr (4, [.ref a12, .ref a19, .ref a24, .int n11_3])), (a12, .inr (9, [.ref a13, .ref a15, .ref a16, .ref a17, .ref a18, .int n12_5, .int n12_6])), (a19, .inr (2, [.ref a12, .ref a20, .ref a22, .ref a23, .int n19_4, .int n19_5, .int n19_6, .int n19_7])), (a20, .inr (0, [.ref a21, .int n20_1])), (a21, .inl (ct 0, 8, .inl f21))] H → va_S no s.heap H locs → lv_has ls 3 [(0, .ref a0), (1, .int p0), (2, .int x33_2)] → W p l e (headSpec wsX10_first ({ frames := 4, cells := 0, slots := 0, locals := 88 })).room s m ([.ref a0, .int p0] : List Value).toArray below meth c H locs 0 0 (MQ below (roQ (fun r => rg (-2147483648) 7 r ∧ (r = 0 → rg 0 1 p0) ∧ (r = (-1) → rg 0 1 p0) ∧ (¬ r = (-2) → rg 0 1 p0) ∧ (r = 0 → rg 1 2147483647 n12_5) ∧ (r = (-1) → rg 1 2147483647 n12_5) ∧ (¬ r = (-2) → rg 1 2147483647 n12_5) ∧ (r = 0 → rg 1 8 n20_1) ∧ True)) ([.ref a0, .int p0] : List Value).toArray s 0 0 no) (F0 m 33 ls []) := by
            intro n
            induction n with
            | zero => intro x33_2 H locs ls hn33 hx33_2 hP hS hl; exact absurd hn33 (by have := Int32.toInt_lt x33_2; have := Int32.le_toInt x33_2; omega)
            | succ n ih33 =>
              intro x33_2 H locs ls hn33 hx33_2 hP hS hl
              refine lv_iload_n hx hb dX10_first_33 rfl (lv_at hl 2 rfl) ?_
              refine lv_aload_n hx hb dX10_first_34 rfl (lv_at hl 0 rfl) ?_
              refine ro_callr (va_runV (As := []) (rest := [.int x33_2]) ⟨hx, hb, hml, hown, hts⟩ (a_X10_bonds l G ct a0 a1 a3 a11 a25 a68 a69 a77 a82 a84 a88 a91 a12 a19 a24 n11_3 a20 a22 a23 n19_4 n19_5 n19_6 n19_7) (cwV 0 hts gX10_first_X10_bonds rfl rfl rfl (by decide +kernel) ⟨Nat.le_of_ble_eq_true rfl, Nat.le_of_ble_eq_true rfl⟩) (ro_preV 10 0 hK (hP.sub [0, 1, 3] rfl) rfl rfl) rfl rfl hl.1 rfl (lv_room (Nat.le_of_ble_eq_true rfl)) dX10_first_35 ⟨Nat.zero_le _, Nat.zero_le _⟩) hS hP (fun H locs hP hS => ?_)
              refine va_get (D := G) (ci := 0) (v := .int n20_1) (C := RX0) (T := TX0) (N := 2) hx hb hts (by decide +kernel) hown hK.1 hP 4 rfl rfl 1 (by decide) (hts (.fieldLink RX10 238 "CardHolder$Bonds" "persons" "I") (by decide +kernel)) (fun _ h9 => h9) rfl dX10_first_38 ?_
              refine lv_icmp_ge (tgt := 79) hx hb dX10_first_41 (by decide) (fun c41 => ?_) (fun c41 => ?_)
              · refine lv_iconst (v := (-1)) hx hb dX10_first_79 (by decide) ?_
                exact W.iret (v := (-1)) hx hb hr (fun t ht hW => ⟨⟨(-1), (), rfl, ⟨(rg_w (c := (-2147483648)) (d := 7) (rgn (-1) (x := (-1)) (by decide)) (by decide)), (fun _ => h_10), (fun _ => h_10), (fun _ => h_10), (fun _ => h_7), (fun _ => h_7), (fun _ => h_7), (fun hq => absurd hq (rne (rgn (-1) (x := (-1)) (by decide)) (y := 0) (c := 0) (by decide) (by decide))), trivial⟩, trivial⟩, hS.F ht⟩) hS.2.2 dX10_first_80
              · have h_14 : rg 0 7 x33_2 := r_lt_l_i (nle_i c41) hx33_2 hp_n20_1 (by decide)
                have h_15 : rg 1 8 n20_1 := r_lt_r_i (nle_i c41) hx33_2 hp_n20_1 (by decide)
                refine lv_aload_n hx hb dX10_first_44 rfl (lv_at hl 0 rfl) ?_
                refine ro_callr (va_runV (As := []) (rest := []) ⟨hx, hb, hml, hown, hts⟩ (a_X10_bonds l G ct a0 a1 a3 a11 a25 a68 a69 a77 a82 a84 a88 a91 a12 a19 a24 n11_3 a20 a22 a23 n19_4 n19_5 n19_6 n19_7) (cwV 0 hts gX10_first_X10_bonds rfl rfl rfl (by decide +kernel) ⟨Nat.le_of_ble_eq_true rfl, Nat.le_of_ble_eq_true rfl⟩) (ro_preV 10 0 hK (hP.sub [0, 1, 3] rfl) rfl rfl) rfl rfl hl.1 rfl (lv_room (Nat.le_of_ble_eq_true rfl)) dX10_first_45 ⟨Nat.zero_le _, Nat.zero_le _⟩) hS hP (fun H locs hP hS => ?_)
                refine lv_iload_n hx hb dX10_first_48 rfl (lv_at hl 2 rfl) ?_
                refine ro_calli (va_runV (As := [.int x33_2]) (rest := []) ⟨hx, hb, hml, hown, hts⟩ (a_X0_ringOf l G ct a20 a21 n20_1 f21 x33_2 (rg_w (c := 0) (d := 8) h_15 (by decide))) (cwV 1 hts gX10_first_X0_ringOf rfl rfl rfl (by decide +kernel) ⟨Nat.le_of_ble_eq_true rfl, Nat.le_of_ble_eq_true rfl⟩) (ro_preV 0 0 hK (hP.sub [4, 5] rfl) rfl rfl) rfl rfl hl.1 rfl (lv_room (Nat.le_of_ble_eq_true rfl)) dX10_first_49 ⟨Nat.zero_le _, Nat.zero_le _⟩) hS hP (fun r49 H locs wr49 hP hS => ?_)
                obtain ⟨p_16, -⟩ := wr49
                refine lv_iconst (v := 1) hx hb dX10_first_52 (by decide) ?_
                refine lv_icmp_le (tgt := 73) hx hb dX10_first_53 (by decide) (fun c53 => ?_) (fun c53 => ?_)
                · have h_17 : rg 0 1 r49 := r_le_l_i c53 p_16 (rgn 1 (x := 1) (by decide))
                  obtain ⟨z73, qz73⟩ : ∃ y : Int32, y = x33_2 + Int32.ofInt 1 := ⟨_, rfl⟩
                  obtain ⟨hz73, ez73⟩ := inc_z (e := 1) (f := 8) h_14 qz73 (by decide)
                  refine lv_iinc (v := z73) (lv' := [(2, .int z73), (0, .ref a0), (1, .int p0)]) hx hb dX10_first_73 hl (k := 2) rfl (qz73.symm) (by decide) rfl (fun ls hl => ?_)
                  refine lv_goto (tgt := 33) hx hb dX10_first_76 (by decide) ?_
                  exact ih33 z73 _ _ ls (by have q := hn33; have := ez73; omega) (rg_w (c := 0) (d := 8) hz73 (by decide)) hP hS (lv_sub hl [1, 2, 0] rfl)
                · have h_18 : rg 2 8 r49 := r_lt_r_i (nle_i c53) (rgn 1 (x := 1) (by decide)) p_16 (by decide)
                  refine lv_iload_n hx hb dX10_first_56 rfl (lv_at hl 1 rfl) ?_
                  refine lv_if_ne (tgt := 64) hx hb dX10_first_57 (by decide) (fun c57 => ?_) (fun c57 => ?_)
                  · have h_19 : rg 1 1 p0 := r_ne_lo_i c57 h_10 (by decide) (by decide)
                    refine lv_aload_n hx hb dX10_first_64 rfl (lv_at hl 0 rfl) ?_
                    refine ro_callr (va_runV (As := []) (rest := []) ⟨hx, hb, hml, hown, hts⟩ (a_X10_bonds l G ct a0 a1 a3 a11 a25 a68 a69 a77 a82 a84 a88 a91 a12 a19 a24 n11_3 a20 a22 a23 n19_4 n19_5 n19_6 n19_7) (cwV 0 hts gX10_first_X10_bonds rfl rfl rfl (by decide +kernel) ⟨Nat.le_of_ble_eq_true rfl, Nat.le_of_ble_eq_true rfl⟩) (ro_preV 10 0 hK (hP.sub [0, 1, 3] rfl) rfl rfl) rfl rfl hl.1 rfl (lv_room (Nat.le_of_ble_eq_true rfl)) dX10_first_65 ⟨Nat.zero_le _, Nat.zero_le _⟩) hS hP (fun H locs hP hS => ?_)
                    refine lv_iload_n hx hb dX10_first_68 rfl (lv_at hl 2 rfl) ?_
                    refine ro_calli (va_runV (As := [.int x33_2]) (rest := []) ⟨hx, hb, hml, hown, hts⟩ (a_X0_nextOfRing l G ct a20 a21 n20_1 f21 x33_2 (rg_w (c := 0) (d := 8) h_15 (by decide))) (cwV 1 hts gX10_first_X0_nextOfRing rfl rfl rfl (by decide +kernel) ⟨Nat.le_of_ble_eq_true rfl, Nat.le_of_ble_eq_true rfl⟩) (ro_preV 0 0 hK (hP.sub [4, 5] rfl) rfl rfl) rfl rfl hl.1 rfl (lv_room (Nat.le_of_ble_eq_true rfl)) dX10_first_69 ⟨Nat.zero_le _, Nat.zero_le _⟩) hS hP (fun r69 H locs wr69 hP hS => ?_)
                    obtain ⟨p_20, -⟩ := wr69
                    exact W.iret (v := r69) hx hb hr (fun t ht hW => ⟨⟨r69, (), rfl, ⟨p_20, (fun _ => (rg_w (c := 0) (d := 1) h_19 (by decide))), (fun _ => (rg_w (c := 0) (d := 1) h_19 (by decide))), (fun _ => (rg_w (c := 0) (d := 1) h_19 (by decide))), (fun _ => h_7), (fun _ => h_7), (fun _ => h_7), (fun _ => h_15), trivial⟩, trivial⟩, hS.F ht⟩) hS.2.2 dX10_first_72
                  · have h_21 : rg 0 0 p0 := r_eq_l_i (e := 0) (f := 0) c57 h_10 (rgn 0 (x := 0) (by decide)) (by decide)
                    refine lv_iload_n hx hb dX10_first_60 rfl (lv_at hl 2 rfl) ?_
                    refine lv_goto (tgt := 72) hx hb dX10_first_61 (by decide) ?_
                    exact W.iret (v := x33_2) hx hb hr (fun t ht hW => ⟨⟨x33_2, (), rfl, ⟨(rg_w (c := (-2147483648)) (d := 7) h_14 (by decide)), (fun _ => (rg_w (c := 0) (d := 1) h_21 (by decide))), (fun _ => (rg_w (c := 0) (d := 1) h_21 (by decide))), (fun _ => (rg_w (c := 0) (d := 1) h_21 (by decide))), (fun _ => h_7), (fun _ => h_7), (fun _ => h_7), (fun _ => h_15), trivial⟩, trivial⟩, hS.F ht⟩) hS.2.2 dX10_first_72
          exact j33 4294967296 (0 : Int32) _ _ ls (ms_e (0 : Int32)) (rg_w (c := 0) (d := 8) (rgn 0 (x := 0) (by decide)) (by decide)) hP hS (lv_sub hl [1, 2, 0] rfl)
        · have h_22 : rg 0 0 r23 := r_eq_l_i (e := 0) (f := 0) c26 p_11 (rgn 0 (x := 0) (by decide)) (by decide)
          have h_23 : rg 1 8 n20_1 := (p_12 (req h_22 (y := 0) (by decide)))
          refine lv_iconst (v := (-1)) hx hb dX10_first_29 (by decide) ?_
          exact W.iret (v := (-1)) hx hb hr (fun t ht hW => ⟨⟨(-1), (), rfl, ⟨(rg_w (c := (-2147483648)) (d := 7) (rgn (-1) (x := (-1)) (by decide)) (by decide)), (fun _ => h_10), (fun _ => h_10), (fun _ => h_10), (fun _ => h_7), (fun _ => h_7), (fun _ => h_7), (fun _ => h_23), trivial⟩, trivial⟩, hS.F ht⟩) hS.2.2 dX10_first_30
      · have h_24 : rg 2 2147483647 p0 := r_lt_r_i (nle_i c13) (rgn 1 (x := 1) (by decide)) h_9 (by decide)
        refine lv_bipush (v := (-2)) hx hb dX10_first_16 (by decide) ?_
        exact W.iret (v := (-2)) hx hb hr (fun t ht hW => ⟨⟨(-2), (), rfl, ⟨(rg_w (c := (-2147483648)) (d := 7) (rgn (-2) (x := (-2)) (by decide)) (by decide)), (fun hq => absurd hq (rne (rgn (-2) (x := (-2)) (by decide)) (y := 0) (c := 0) (by decide) (by decide))), (fun hq => absurd hq (rne (rgn (-2) (x := (-2)) (by decide)) (y := (-1)) (c := (-1)) (by decide) (by decide))), (fun hq => absurd (req (rgn (-2) (x := (-2)) (by decide)) (y := (-2)) (by decide)) hq), (fun _ => h_7), (fun _ => h_7), (fun _ => h_7), (fun hq => absurd hq (rne (rgn (-2) (x := (-2)) (by decide)) (y := 0) (c := 0) (by decide) (by decide))), trivial⟩, trivial⟩, hS.F ht⟩) hS.2.2 dX10_first_18

set_option maxHeartbeats 4000000 in
set_option maxRecDepth 100000 in
theorem a_X10_work (l : Launch) (G : va_G) (ct : Nat → ClassId) (a0 : Nat) (a1 : Nat) (a3 : Nat) (a11 : Nat) (a25 : Nat) (a68 : Nat) (a69 : Nat) (a77 : Nat) (a82 : Nat) (a84 : Nat) (a88 : Nat) (a91 : Nat) (a12 : Nat) (a19 : Nat) (a24 : Nat) (n11_3 : Int32) (a13 : Nat) (a15 : Nat) (a16 : Nat) (a17 : Nat) (a18 : Nat) (n12_5 : Int32) (n12_6 : Int32) (a14 : Nat) (n13_1 : Int32) (f16 : Nat → Int32) (f17 : Nat → Int32) (a20 : Nat) (a22 : Nat) (a23 : Nat) (n19_4 : Int32) (n19_5 : Int32) (n19_6 : Int32) (n19_7 : Int32) (a21 : Nat) (n20_1 : Int32) (f21 : Nat → Int32) (hp_n13_1 : rg 0 8 n13_1) (hp_n20_1 : rg 0 8 n20_1) : Met l yX10_work wsX10_work ({ frames := 4, cells := 0, slots := 0, locals := 91 }) (va_Pc [.ref a0] (roP G ct [(a0, .inr (10, [.ref a1, .ref a3, .ref a11, .ref a25, .ref a68, .ref a69, .ref a77, .ref a82, .ref a84, .ref a88, .ref a91])), (a11, .inr (4, [.ref a12, .ref a19, .ref a24, .int n11_3])), (a12, .inr (9, [.ref a13, .ref a15, .ref a16, .ref a17, .ref a18, .int n12_5, .int n12_6])), (a13, .inr (0, [.ref a14, .int n13_1])), (a16, .inl (ct 0, 8, .inl f16)), (a17, .inl (ct 0, 8, .inl f17)), (a19, .inr (2, [.ref a12, .ref a20, .ref a22, .ref a23, .int n19_4, .int n19_5, .int n19_6, .int n19_7])), (a20, .inr (0, [.ref a21, .int n20_1])), (a21, .inl (ct 0, 8, .inl f21))])) (roQ (fun r => (r = 0 → rg 1 2147483647 n12_5) ∧ (r = (-1) → rg 1 2147483647 n12_5) ∧ (¬ r = (-2) → rg 1 2147483647 n12_5) ∧ True)) 0 0 no := by
  refine Met.ofW (cc := cX10_work) (maxL := 3) (ret := (some .int)) (by decide) rfl ?_
  intro p e s m args below meth c s₁ B hml hv
  obtain ⟨rfl, hP, hK⟩ := hv
  have hx := B.exec
  have hb := B.bytes
  have hr := B.returns
  have hts := atoms_spec (ws := wsX10_work) B.pre
  have hown : s.vm.findClass RX10 = some m.cls := findClass_of_methodNamed B.named
  have hlocks := B.notSynchronized
  have hS : va_S no s.heap s.heap [] := va_S.rf
  have hl := lv_entry ([.ref a0]) (n := 3) (Nat.le_of_ble_eq_true rfl)
  rw [lg_entry_eq]
  generalize (lg_sl ([.ref a0]) ++ List.replicate (3 - (lg_sl ([.ref a0])).length) Slot.unset).toArray = ls at hl ⊢
  have hl : lv_has ls 3 [(0, .ref a0)] := hl
  refine lv_aload_n hx hb dX10_work_0 rfl (lv_at hl 0 rfl) ?_
  refine ro_calli (va_runV (As := []) (rest := []) ⟨hx, hb, hml, hown, hts⟩ (a_X10_hasCity l G ct a0 a1 a3 a11 a25 a68 a69 a77 a82 a84 a88 a91 a12 a19 a24 n11_3 a13 a15 a16 a17 a18 n12_5 n12_6) (cwV 0 hts gX10_work_X10_hasCity rfl rfl rfl (by decide +kernel) ⟨Nat.le_of_ble_eq_true rfl, Nat.le_of_ble_eq_true rfl⟩) (ro_preV 10 0 hK (hP.sub [0, 1, 2] rfl) rfl rfl) rfl rfl hl.1 rfl (lv_room (Nat.le_of_ble_eq_true rfl)) dX10_work_1 ⟨Nat.zero_le _, Nat.zero_le _⟩) hS hP (fun r1 H locs wr1 hP hS => ?_)
  obtain ⟨p_1, p_2, p_3, -⟩ := wr1
  refine lv_if_ne (tgt := 10) hx hb dX10_work_4 (by decide) (fun c4 => ?_) (fun c4 => ?_)
  · have h_4 : rg 1 1 r1 := r_ne_lo_i c4 p_1 (by decide) (by decide)
    have h_5 : rg 1 2147483647 n12_5 := (p_2 (rne h_4 (y := 0) (c := 0) (by decide) (by decide)))
    refine lv_iconst (v := 0) hx hb dX10_work_10 (by decide) ?_
    refine lv_istore_n (lv' := [(1, .int 0), (0, .ref a0)]) hx hb dX10_work_11 rfl hl (by decide) rfl (fun ls hl => ?_)
    refine lv_iconst (v := 0) hx hb dX10_work_12 (by decide) ?_
    refine lv_istore_n (lv' := [(2, .int 0), (1, .int 0), (0, .ref a0)]) hx hb dX10_work_13 rfl hl (by decide) rfl (fun ls hl => ?_)
    have j14 : ∀ (n : Nat) (x14_1 : Int32) (x14_2 : Int32) (H : Heap) (locs : List Loc) (ls : Array Slot), 2147483648 ≤ x14_2.toInt + (n : Int) → rg 0 8 x14_2 → va_P G vwCl [(a0, .inr (10, [.ref a1, .ref a3, .ref a11, .ref a25, .ref a68, .ref a69, .ref a77, .ref a82, .ref a84, .ref a88, .ref a91])), (a11, .inr (4, [.ref a12, .ref a19, .ref a24, .int n11_3])), (a12, .inr (9, [.ref a13, .ref a15, .ref a16, .ref a17, .ref a18, .int n12_5, .int n12_6])), (a13, .inr (0, [.ref a14, .int n13_1])), (a16, .inl (ct 0, 8, .inl f16)), (a17, .inl (ct 0, 8, .inl f17)), (a19, .inr (2, [.ref a12, .ref a20, .ref a22, .ref a23, .int n19_4, .int n19_5, .int n19_6, .int n19_7])), (a20, .inr (0, [.ref a21, .int n20_1])), (a21, .inl (ct 0, 8, .inl f21))] H → va_S no s.heap H locs → lv_has ls 3 [(0, .ref a0), (1, .int x14_1), (2, .int x14_2)] → W p l e (headSpec wsX10_work ({ frames := 4, cells := 0, slots := 0, locals := 91 })).room s m ([.ref a0] : List Value).toArray below meth c H locs 0 0 (MQ below (roQ (fun r => (r = 0 → rg 1 2147483647 n12_5) ∧ (r = (-1) → rg 1 2147483647 n12_5) ∧ (¬ r = (-2) → rg 1 2147483647 n12_5) ∧ True)) ([.ref a0] : List Value).toArray s 0 0 no) (F0 m 14 ls []) := by
      intro n
      induction n with
      | zero => intro x14_1 x14_2 H locs ls hn14 hx14_2 hP hS hl; exact absurd hn14 (by have := Int32.toInt_lt x14_2; have := Int32.le_toInt x14_2; omega)
      | succ n ih14 =>
        intro x14_1 x14_2 H locs ls hn14 hx14_2 hP hS hl
        refine lv_iload_n hx hb dX10_work_14 rfl (lv_at hl 2 rfl) ?_
        refine lv_aload_n hx hb dX10_work_15 rfl (lv_at hl 0 rfl) ?_
        refine ro_callr (va_runV (As := []) (rest := [.int x14_2]) ⟨hx, hb, hml, hown, hts⟩ (a_X10_bonds l G ct a0 a1 a3 a11 a25 a68 a69 a77 a82 a84 a88 a91 a12 a19 a24 n11_3 a20 a22 a23 n19_4 n19_5 n19_6 n19_7) (cwV 0 hts gX10_work_X10_bonds rfl rfl rfl (by decide +kernel) ⟨Nat.le_of_ble_eq_true rfl, Nat.le_of_ble_eq_true rfl⟩) (ro_preV 10 0 hK (hP.sub [0, 1, 6] rfl) rfl rfl) rfl rfl hl.1 rfl (lv_room (Nat.le_of_ble_eq_true rfl)) dX10_work_16 ⟨Nat.zero_le _, Nat.zero_le _⟩) hS hP (fun H locs hP hS => ?_)
        refine va_get (D := G) (ci := 0) (v := .int n20_1) (C := RX0) (T := TX0) (N := 2) hx hb hts (by decide +kernel) hown hK.1 hP 7 rfl rfl 1 (by decide) (hts (.fieldLink RX10 238 "CardHolder$Bonds" "persons" "I") (by decide +kernel)) (fun _ h9 => h9) rfl dX10_work_19 ?_
        refine lv_icmp_ge (tgt := 60) hx hb dX10_work_22 (by decide) (fun c22 => ?_) (fun c22 => ?_)
        · refine lv_iload_n hx hb dX10_work_60 rfl (lv_at hl 1 rfl) ?_
          exact W.iret (v := x14_1) hx hb hr (fun t ht hW => ⟨⟨x14_1, (), rfl, ⟨(fun _ => h_5), (fun _ => h_5), (fun _ => h_5), trivial⟩, trivial⟩, hS.F ht⟩) hS.2.2 dX10_work_61
        · have h_6 : rg 0 7 x14_2 := r_lt_l_i (nle_i c22) hx14_2 hp_n20_1 (by decide)
          have h_7 : rg 1 8 n20_1 := r_lt_r_i (nle_i c22) hx14_2 hp_n20_1 (by decide)
          refine lv_iload_n hx hb dX10_work_25 rfl (lv_at hl 1 rfl) ?_
          refine lv_aload_n hx hb dX10_work_26 rfl (lv_at hl 0 rfl) ?_
          refine va_get (D := G) (ci := 10) (v := .ref a11) (C := RX10) (T := TX10) (N := 11) hx hb hts (by decide +kernel) hown hK.1 hP 0 rfl rfl 2 (by decide) (hts (.fieldLink RX10 28 "CardHolder" "play" "LCardHolder$Play;") (by decide +kernel)) (fun _ h9 => h9) rfl dX10_work_27 ?_
          refine lv_aload_n hx hb dX10_work_30 rfl (lv_at hl 0 rfl) ?_
          refine va_get (D := G) (ci := 10) (v := .ref a11) (C := RX10) (T := TX10) (N := 11) hx hb hts (by decide +kernel) hown hK.1 hP 0 rfl rfl 2 (by decide) (hts (.fieldLink RX10 28 "CardHolder" "play" "LCardHolder$Play;") (by decide +kernel)) (fun _ h9 => h9) rfl dX10_work_31 ?_
          refine lv_iload_n hx hb dX10_work_34 rfl (lv_at hl 2 rfl) ?_
          refine ro_calli (va_runV (As := [.int x14_2]) (rest := [.ref a11, .int x14_1]) ⟨hx, hb, hml, hown, hts⟩ (a_X4_askable l G ct a11 a12 a19 a24 n11_3 a20 a22 a23 n19_4 n19_5 n19_6 n19_7 a21 n20_1 f21 x14_2 (rg_w (c := 0) (d := 8) h_7 (by decide))) (cwV 1 hts gX10_work_X4_askable rfl rfl rfl (by decide +kernel) ⟨Nat.le_of_ble_eq_true rfl, Nat.le_of_ble_eq_true rfl⟩) (ro_preV 4 0 hK (hP.sub [1, 6, 7, 8] rfl) rfl rfl) rfl rfl hl.1 rfl (lv_room (Nat.le_of_ble_eq_true rfl)) dX10_work_35 ⟨Nat.zero_le _, Nat.zero_le _⟩) hS hP (fun r35 H locs wr35 hP hS => ?_)
          obtain ⟨p_8, -⟩ := wr35
          refine lv_aload_n hx hb dX10_work_38 rfl (lv_at hl 0 rfl) ?_
          refine va_get (D := G) (ci := 10) (v := .ref a11) (C := RX10) (T := TX10) (N := 11) hx hb hts (by decide +kernel) hown hK.1 hP 0 rfl rfl 2 (by decide) (hts (.fieldLink RX10 28 "CardHolder" "play" "LCardHolder$Play;") (by decide +kernel)) (fun _ h9 => h9) rfl dX10_work_39 ?_
          refine va_get (D := G) (ci := 4) (v := .ref a12) (C := RX4) (T := TX4) (N := 4) hx hb hts (by decide +kernel) hown hK.1 hP 1 rfl rfl 0 (by decide) (hts (.fieldLink RX10 49 "CardHolder$Play" "town" "LCardHolder$Town;") (by decide +kernel)) (fun _ h9 => h9) rfl dX10_work_42 ?_
          refine lv_iload_n hx hb dX10_work_45 rfl (lv_at hl 2 rfl) ?_
          refine ro_calli (va_runV (As := [.int x14_2]) (rest := [.int r35, .ref a11, .int x14_1]) ⟨hx, hb, hml, hown, hts⟩ (a_X9_wishesOf l G ct a12 a13 a15 a16 a17 a18 n12_5 n12_6 a14 n13_1 f17 x14_2 hp_n13_1) (cwV 1 hts gX10_work_X9_wishesOf rfl rfl rfl (by decide +kernel) ⟨Nat.le_of_ble_eq_true rfl, Nat.le_of_ble_eq_true rfl⟩) (ro_preV 9 0 hK (hP.sub [2, 3, 5] rfl) rfl rfl) rfl rfl hl.1 rfl (lv_room (Nat.le_of_ble_eq_true rfl)) dX10_work_46 ⟨Nat.zero_le _, Nat.zero_le _⟩) hS hP (fun r46 H locs wr46 hP hS => ?_)
          obtain ⟨p_9, p_10, p_11, p_12, -⟩ := wr46
          refine ro_calli (va_runV (As := [.int r35, .int r46]) (rest := [.int x14_1]) ⟨hx, hb, hml, hown, hts⟩ (a_X4_mostWishes l G ct a11 a12 a19 a24 n11_3 a13 a15 a16 a17 a18 n12_5 n12_6 a14 n13_1 f16 a20 a22 a23 n19_4 n19_5 n19_6 n19_7 a21 n20_1 r35 r46 hp_n13_1 (rg_w (c := 0) (d := 8) h_7 (by decide))) (cwV 2 hts gX10_work_X4_mostWishes rfl rfl rfl (by decide +kernel) ⟨Nat.le_of_ble_eq_true rfl, Nat.le_of_ble_eq_true rfl⟩) (ro_preV 4 0 hK (hP.sub [1, 2, 3, 4, 6, 7] rfl) rfl rfl) rfl rfl hl.1 rfl (lv_room (Nat.le_of_ble_eq_true rfl)) dX10_work_49 ⟨Nat.zero_le _, Nat.zero_le _⟩) hS hP (fun r49 H locs wr49 hP hS => ?_)
          obtain ⟨p_13, -⟩ := wr49
          refine lv_iadd hx hb dX10_work_52 ?_
          refine nm_0 (fun z52 => ?_)
          refine lv_istore_n (lv' := [(1, .int z52), (0, .ref a0), (2, .int x14_2)]) hx hb dX10_work_53 rfl hl (by decide) rfl (fun ls hl => ?_)
          obtain ⟨z54, qz54⟩ : ∃ y : Int32, y = x14_2 + Int32.ofInt 1 := ⟨_, rfl⟩
          obtain ⟨hz54, ez54⟩ := inc_z (e := 1) (f := 8) h_6 qz54 (by decide)
          refine lv_iinc (v := z54) (lv' := [(2, .int z54), (1, .int z52), (0, .ref a0)]) hx hb dX10_work_54 hl (k := 2) rfl (qz54.symm) (by decide) rfl (fun ls hl => ?_)
          refine lv_goto (tgt := 14) hx hb dX10_work_57 (by decide) ?_
          exact ih14 z52 z54 _ _ ls (by have q := hn14; have := ez54; omega) (rg_w (c := 0) (d := 8) hz54 (by decide)) hP hS (lv_sub hl [2, 1, 0] rfl)
    exact j14 4294967296 (0 : Int32) (0 : Int32) _ _ ls (ms_e (0 : Int32)) (rg_w (c := 0) (d := 8) (rgn 0 (x := 0) (by decide)) (by decide)) hP hS (lv_sub hl [2, 1, 0] rfl)
  · have h_14 : rg 0 0 r1 := r_eq_l_i (e := 0) (f := 0) c4 p_1 (rgn 0 (x := 0) (by decide)) (by decide)
    have h_15 : rg (-2147483648) 0 n12_5 := (p_3 (req h_14 (y := 0) (by decide)))
    refine lv_bipush (v := (-2)) hx hb dX10_work_7 (by decide) ?_
    exact W.iret (v := (-2)) hx hb hr (fun t ht hW => ⟨⟨(-2), (), rfl, ⟨(fun hq => absurd hq (rne (rgn (-2) (x := (-2)) (by decide)) (y := 0) (c := 0) (by decide) (by decide))), (fun hq => absurd hq (rne (rgn (-2) (x := (-2)) (by decide)) (y := (-1)) (c := (-1)) (by decide) (by decide))), (fun hq => absurd (req (rgn (-2) (x := (-2)) (by decide)) (y := (-2)) (by decide)) hq), trivial⟩, trivial⟩, hS.F ht⟩) hS.2.2 dX10_work_9

set_option maxHeartbeats 4000000 in
set_option maxRecDepth 100000 in
theorem a_X10_works (l : Launch) (G : va_G) (ct : Nat → ClassId) (a0 : Nat) (a1 : Nat) (a3 : Nat) (a11 : Nat) (a25 : Nat) (a68 : Nat) (a69 : Nat) (a77 : Nat) (a82 : Nat) (a84 : Nat) (a88 : Nat) (a91 : Nat) (a12 : Nat) (a19 : Nat) (a24 : Nat) (n11_3 : Int32) (a13 : Nat) (a15 : Nat) (a16 : Nat) (a17 : Nat) (a18 : Nat) (n12_5 : Int32) (n12_6 : Int32) (a14 : Nat) (n13_1 : Int32) (f16 : Nat → Int32) (f17 : Nat → Int32) (a20 : Nat) (a22 : Nat) (a23 : Nat) (n19_4 : Int32) (n19_5 : Int32) (n19_6 : Int32) (n19_7 : Int32) (a21 : Nat) (n20_1 : Int32) (f21 : Nat → Int32) (p0 : Int32) (hp_n13_1 : rg 0 8 n13_1) (hp_n20_1 : rg 0 8 n20_1) : Met l yX10_works wsX10_works ({ frames := 6, cells := 0, slots := 0, locals := 143 }) (va_Pc [.ref a0, .int p0] (roP G ct [(a0, .inr (10, [.ref a1, .ref a3, .ref a11, .ref a25, .ref a68, .ref a69, .ref a77, .ref a82, .ref a84, .ref a88, .ref a91])), (a11, .inr (4, [.ref a12, .ref a19, .ref a24, .int n11_3])), (a12, .inr (9, [.ref a13, .ref a15, .ref a16, .ref a17, .ref a18, .int n12_5, .int n12_6])), (a13, .inr (0, [.ref a14, .int n13_1])), (a16, .inl (ct 0, 8, .inl f16)), (a17, .inl (ct 0, 8, .inl f17)), (a19, .inr (2, [.ref a12, .ref a20, .ref a22, .ref a23, .int n19_4, .int n19_5, .int n19_6, .int n19_7])), (a20, .inr (0, [.ref a21, .int n20_1])), (a21, .inl (ct 0, 8, .inl f21))])) (roQ (fun r => rg (-2) 5 r ∧ (r = 0 → rg 0 7 p0) ∧ (r = (-1) → rg 0 7 p0) ∧ (¬ r = (-2) → rg 0 7 p0) ∧ (r = 0 → rg 1 8 n20_1) ∧ (r = (-1) → rg 1 8 n20_1) ∧ (¬ r = (-2) → rg 1 8 n20_1) ∧ True)) 0 0 no := by
  refine Met.ofW (cc := cX10_works) (maxL := 2) (ret := (some .int)) (by decide) rfl ?_
  intro p e s m args below meth c s₁ B hml hv
  obtain ⟨rfl, hP, hK⟩ := hv
  have hx := B.exec
  have hb := B.bytes
  have hr := B.returns
  have hts := atoms_spec (ws := wsX10_works) B.pre
  have hown : s.vm.findClass RX10 = some m.cls := findClass_of_methodNamed B.named
  have hlocks := B.notSynchronized
  have hS : va_S no s.heap s.heap [] := va_S.rf
  have hl := lv_entry ([.ref a0, .int p0]) (n := 2) (Nat.le_of_ble_eq_true rfl)
  rw [lg_entry_eq]
  generalize (lg_sl ([.ref a0, .int p0]) ++ List.replicate (2 - (lg_sl ([.ref a0, .int p0])).length) Slot.unset).toArray = ls at hl ⊢
  have hl : lv_has ls 2 [(0, .ref a0), (1, .int p0)] := hl
  refine lv_aload_n hx hb dX10_works_0 rfl (lv_at hl 0 rfl) ?_
  refine lv_iload_n hx hb dX10_works_1 rfl (lv_at hl 1 rfl) ?_
  refine ro_calli (va_runV (As := [.int p0]) (rest := []) ⟨hx, hb, hml, hown, hts⟩ (a_X10_isPerson l G ct a0 a1 a3 a11 a25 a68 a69 a77 a82 a84 a88 a91 a12 a19 a24 n11_3 a20 a22 a23 n19_4 n19_5 n19_6 n19_7 a21 n20_1 p0 hp_n20_1) (cwV 1 hts gX10_works_X10_isPerson rfl rfl rfl (by decide +kernel) ⟨Nat.le_of_ble_eq_true rfl, Nat.le_of_ble_eq_true rfl⟩) (ro_preV 10 0 hK (hP.sub [0, 1, 6, 7] rfl) rfl rfl) rfl rfl hl.1 rfl (lv_room (Nat.le_of_ble_eq_true rfl)) dX10_works_2 ⟨Nat.zero_le _, Nat.zero_le _⟩) hS hP (fun r2 H locs wr2 hP hS => ?_)
  obtain ⟨p_1, p_2, p_3, -⟩ := wr2
  refine lv_if_ne (tgt := 11) hx hb dX10_works_5 (by decide) (fun c5 => ?_) (fun c5 => ?_)
  · have h_4 : rg 1 1 r2 := r_ne_lo_i c5 p_1 (by decide) (by decide)
    have h_5 : rg 0 7 p0 := (p_2 (rne h_4 (y := 0) (c := 0) (by decide) (by decide)))
    have h_6 : rg 1 8 n20_1 := (p_3 (rne h_4 (y := 0) (c := 0) (by decide) (by decide)))
    refine lv_aload_n hx hb dX10_works_11 rfl (lv_at hl 0 rfl) ?_
    refine va_get (D := G) (ci := 10) (v := .ref a11) (C := RX10) (T := TX10) (N := 11) hx hb hts (by decide +kernel) hown hK.1 hP 0 rfl rfl 2 (by decide) (hts (.fieldLink RX10 28 "CardHolder" "play" "LCardHolder$Play;") (by decide +kernel)) (fun _ h9 => h9) rfl dX10_works_12 ?_
    refine lv_iload_n hx hb dX10_works_15 rfl (lv_at hl 1 rfl) ?_
    refine ro_calli (va_runV (As := [.int p0]) (rest := []) ⟨hx, hb, hml, hown, hts⟩ (a_X4_workOf l G ct a11 a12 a19 a24 n11_3 a13 a15 a16 a17 a18 n12_5 n12_6 a14 n13_1 f16 f17 a20 a22 a23 n19_4 n19_5 n19_6 n19_7 a21 n20_1 f21 p0 hp_n13_1 (rg_w (c := 0) (d := 8) h_6 (by decide)) h_5) (cwV 1 hts gX10_works_X4_workOf rfl rfl rfl (by decide +kernel) ⟨Nat.le_of_ble_eq_true rfl, Nat.le_of_ble_eq_true rfl⟩) (ro_preV 4 0 hK (hP.sub [1, 2, 3, 4, 5, 6, 7, 8] rfl) rfl rfl) rfl rfl hl.1 rfl (lv_room (Nat.le_of_ble_eq_true rfl)) dX10_works_16 ⟨Nat.zero_le _, Nat.zero_le _⟩) hS hP (fun r16 H locs wr16 hP hS => ?_)
    obtain ⟨p_7, -⟩ := wr16
    exact W.iret (v := r16) hx hb hr (fun t ht hW => ⟨⟨r16, (), rfl, ⟨(rg_w (c := (-2)) (d := 5) p_7 (by decide)), (fun _ => h_5), (fun _ => h_5), (fun _ => h_5), (fun _ => h_6), (fun _ => h_6), (fun _ => h_6), trivial⟩, trivial⟩, hS.F ht⟩) hS.2.2 dX10_works_19
  · have h_8 : rg 0 0 r2 := r_eq_l_i (e := 0) (f := 0) c5 p_1 (rgn 0 (x := 0) (by decide)) (by decide)
    refine lv_bipush (v := (-2)) hx hb dX10_works_8 (by decide) ?_
    exact W.iret (v := (-2)) hx hb hr (fun t ht hW => ⟨⟨(-2), (), rfl, ⟨(rg_w (c := (-2)) (d := 5) (rgn (-2) (x := (-2)) (by decide)) (by decide)), (fun hq => absurd hq (rne (rgn (-2) (x := (-2)) (by decide)) (y := 0) (c := 0) (by decide) (by decide))), (fun hq => absurd hq (rne (rgn (-2) (x := (-2)) (by decide)) (y := (-1)) (c := (-1)) (by decide) (by decide))), (fun hq => absurd (req (rgn (-2) (x := (-2)) (by decide)) (y := (-2)) (by decide)) hq), (fun hq => absurd hq (rne (rgn (-2) (x := (-2)) (by decide)) (y := 0) (c := 0) (by decide) (by decide))), (fun hq => absurd hq (rne (rgn (-2) (x := (-2)) (by decide)) (y := (-1)) (c := (-1)) (by decide) (by decide))), (fun hq => absurd (req (rgn (-2) (x := (-2)) (by decide)) (y := (-2)) (by decide)) hq), trivial⟩, trivial⟩, hS.F ht⟩) hS.2.2 dX10_works_10

set_option maxHeartbeats 4000000 in
set_option maxRecDepth 100000 in
theorem a_X10_covers (l : Launch) (G : va_G) (ct : Nat → ClassId) (a0 : Nat) (a1 : Nat) (a3 : Nat) (a11 : Nat) (a25 : Nat) (a68 : Nat) (a69 : Nat) (a77 : Nat) (a82 : Nat) (a84 : Nat) (a88 : Nat) (a91 : Nat) (a12 : Nat) (a19 : Nat) (a24 : Nat) (n11_3 : Int32) (a13 : Nat) (a15 : Nat) (a16 : Nat) (a17 : Nat) (a18 : Nat) (n12_5 : Int32) (n12_6 : Int32) (a14 : Nat) (n13_1 : Int32) (f16 : Nat → Int32) (a20 : Nat) (a22 : Nat) (a23 : Nat) (n19_4 : Int32) (n19_5 : Int32) (n19_6 : Int32) (n19_7 : Int32) (a21 : Nat) (n20_1 : Int32) (f21 : Nat → Int32) (a89 : Nat) (a90 : Nat) (n88_2 : Int32) (f89 : Nat → Int32) (f90 : Nat → Int32) (p0 : Int32) (hp_n13_1 : rg 0 8 n13_1) (hp_n20_1 : rg 0 8 n20_1) (hp_n88_2 : rg 0 256 n88_2) : Met l yX10_covers wsX10_covers ({ frames := 4, cells := 0, slots := 0, locals := 87 }) (va_Pc [.ref a0, .int p0] (wrP G ct [(a0, .inr (10, [.ref a1, .ref a3, .ref a11, .ref a25, .ref a68, .ref a69, .ref a77, .ref a82, .ref a84, .ref a88, .ref a91])), (a11, .inr (4, [.ref a12, .ref a19, .ref a24, .int n11_3])), (a12, .inr (9, [.ref a13, .ref a15, .ref a16, .ref a17, .ref a18, .int n12_5, .int n12_6])), (a13, .inr (0, [.ref a14, .int n13_1])), (a16, .inl (ct 0, 8, .inl f16)), (a19, .inr (2, [.ref a12, .ref a20, .ref a22, .ref a23, .int n19_4, .int n19_5, .int n19_6, .int n19_7])), (a20, .inr (0, [.ref a21, .int n20_1])), (a21, .inl (ct 0, 8, .inl f21)), (a88, .inr (1, [.ref a89, .ref a90, .int n88_2])), (a89, .inl (ct 0, 256, .inl f89)), (a90, .inl (ct 0, 256, .inl f90))])) (va_Qi (fun (r : Int32) (u : SU) => rg (-2) 255 r ∧ (r = 0 → rg 0 63 p0) ∧ (r = (-1) → rg 0 63 p0) ∧ (¬ r = (-2) → rg 0 63 p0) ∧ (r = 0 → rg 1 2147483647 n12_5) ∧ (r = (-1) → rg 1 2147483647 n12_5) ∧ (¬ r = (-2) → rg 1 2147483647 n12_5) ∧ rg 0 256 (u.1 0) ∧ True) (fun u t => va_P G vwCl ((fun u : SU => [(a0, .inr (10, [.ref a1, .ref a3, .ref a11, .ref a25, .ref a68, .ref a69, .ref a77, .ref a82, .ref a84, .ref a88, .ref a91])), (a11, .inr (4, [.ref a12, .ref a19, .ref a24, .int n11_3])), (a12, .inr (9, [.ref a13, .ref a15, .ref a16, .ref a17, .ref a18, .int n12_5, .int n12_6])), (a13, .inr (0, [.ref a14, .int n13_1])), (a16, .inl (ct 0, 8, .inl f16)), (a19, .inr (2, [.ref a12, .ref a20, .ref a22, .ref a23, .int n19_4, .int n19_5, .int n19_6, .int n19_7])), (a20, .inr (0, [.ref a21, .int n20_1])), (a21, .inl (ct 0, 8, .inl f21)), (a88, .inr (1, [.ref a89, .ref a90, .int (u.1 0)])), (a89, .inl (ct 0, 256, .inl (u.2.1 0))), (a90, .inl (ct 0, 256, .inl (u.2.1 1)))]) u) t.heap) (aset [(a0, .inr (10, [.ref a1, .ref a3, .ref a11, .ref a25, .ref a68, .ref a69, .ref a77, .ref a82, .ref a84, .ref a88, .ref a91])), (a11, .inr (4, [.ref a12, .ref a19, .ref a24, .int n11_3])), (a12, .inr (9, [.ref a13, .ref a15, .ref a16, .ref a17, .ref a18, .int n12_5, .int n12_6])), (a13, .inr (0, [.ref a14, .int n13_1])), (a16, .inl (ct 0, 8, .inl f16)), (a19, .inr (2, [.ref a12, .ref a20, .ref a22, .ref a23, .int n19_4, .int n19_5, .int n19_6, .int n19_7])), (a20, .inr (0, [.ref a21, .int n20_1])), (a21, .inl (ct 0, 8, .inl f21)), (a88, .inr (1, [.ref a89, .ref a90, .int n88_2])), (a89, .inl (ct 0, 256, .inl f89)), (a90, .inl (ct 0, 256, .inl f90))])) 0 0 (aset [(a0, .inr (10, [.ref a1, .ref a3, .ref a11, .ref a25, .ref a68, .ref a69, .ref a77, .ref a82, .ref a84, .ref a88, .ref a91])), (a11, .inr (4, [.ref a12, .ref a19, .ref a24, .int n11_3])), (a12, .inr (9, [.ref a13, .ref a15, .ref a16, .ref a17, .ref a18, .int n12_5, .int n12_6])), (a13, .inr (0, [.ref a14, .int n13_1])), (a16, .inl (ct 0, 8, .inl f16)), (a19, .inr (2, [.ref a12, .ref a20, .ref a22, .ref a23, .int n19_4, .int n19_5, .int n19_6, .int n19_7])), (a20, .inr (0, [.ref a21, .int n20_1])), (a21, .inl (ct 0, 8, .inl f21)), (a88, .inr (1, [.ref a89, .ref a90, .int n88_2])), (a89, .inl (ct 0, 256, .inl f89)), (a90, .inl (ct 0, 256, .inl f90))]) := by
  refine Met.ofW (cc := cX10_covers) (maxL := 2) (ret := (some .int)) (by decide) rfl ?_
  intro p e s m args below meth c s₁ B hml hv
  obtain ⟨rfl, hP, hK, hD0⟩ := hv
  have hx := B.exec
  have hb := B.bytes
  have hr := B.returns
  have hts := atoms_spec (ws := wsX10_covers) B.pre
  have hown : s.vm.findClass RX10 = some m.cls := findClass_of_methodNamed B.named
  have hlocks := B.notSynchronized
  have hD := hD0.aself
  generalize hAe : aset [(a0, .inr (10, [.ref a1, .ref a3, .ref a11, .ref a25, .ref a68, .ref a69, .ref a77, .ref a82, .ref a84, .ref a88, .ref a91])), (a11, .inr (4, [.ref a12, .ref a19, .ref a24, .int n11_3])), (a12, .inr (9, [.ref a13, .ref a15, .ref a16, .ref a17, .ref a18, .int n12_5, .int n12_6])), (a13, .inr (0, [.ref a14, .int n13_1])), (a16, .inl (ct 0, 8, .inl f16)), (a19, .inr (2, [.ref a12, .ref a20, .ref a22, .ref a23, .int n19_4, .int n19_5, .int n19_6, .int n19_7])), (a20, .inr (0, [.ref a21, .int n20_1])), (a21, .inl (ct 0, 8, .inl f21)), (a88, .inr (1, [.ref a89, .ref a90, .int n88_2])), (a89, .inl (ct 0, 256, .inl f89)), (a90, .inl (ct 0, 256, .inl f90))] = A at hD ⊢
  have hS : va_S A s.heap s.heap [] := va_S.rf
  have hl := lv_entry ([.ref a0, .int p0]) (n := 2) (Nat.le_of_ble_eq_true rfl)
  rw [lg_entry_eq]
  generalize (lg_sl ([.ref a0, .int p0]) ++ List.replicate (2 - (lg_sl ([.ref a0, .int p0])).length) Slot.unset).toArray = ls at hl ⊢
  have hl : lv_has ls 2 [(0, .ref a0), (1, .int p0)] := hl
  refine lv_aload_n hx hb dX10_covers_0 rfl (lv_at hl 0 rfl) ?_
  refine ro_calli (va_runV (As := []) (rest := []) ⟨hx, hb, hml, hown, hts⟩ (a_X10_hasCity l G ct a0 a1 a3 a11 a25 a68 a69 a77 a82 a84 a88 a91 a12 a19 a24 n11_3 a13 a15 a16 a17 a18 n12_5 n12_6) (cwV 0 hts gX10_covers_X10_hasCity rfl rfl rfl (by decide +kernel) ⟨Nat.le_of_ble_eq_true rfl, Nat.le_of_ble_eq_true rfl⟩) (ro_preV 10 0 hK (hP.sub [0, 1, 2] rfl) rfl rfl) rfl rfl hl.1 rfl (lv_room (Nat.le_of_ble_eq_true rfl)) dX10_covers_1 ⟨Nat.zero_le _, Nat.zero_le _⟩) hS hP (fun r1 H locs wr1 hP hS => ?_)
  obtain ⟨p_1, p_2, p_3, -⟩ := wr1
  refine lv_if_eq (tgt := 14) hx hb dX10_covers_4 (by decide) (fun c4 => ?_) (fun c4 => ?_)
  · have h_4 : rg 0 0 r1 := r_eq_l_i (e := 0) (f := 0) c4 p_1 (rgn 0 (x := 0) (by decide)) (by decide)
    have h_5 : rg (-2147483648) 0 n12_5 := (p_3 (req h_4 (y := 0) (by decide)))
    refine lv_bipush (v := (-2)) hx hb dX10_covers_14 (by decide) ?_
    exact W.iret (v := (-2)) hx hb hr (fun t ht hW => ⟨⟨(-2), (fun k => ([n88_2] : List Int32).getD k 0, fun k => ([f89, f90] : List (Nat → Int32)).getD k (fun _ => 0), fun k => ([] : List (Nat → Int64)).getD k (fun _ => 0)), rfl, ⟨(rg_w (c := (-2)) (d := 255) (rgn (-2) (x := (-2)) (by decide)) (by decide)), (fun hq => absurd hq (rne (rgn (-2) (x := (-2)) (by decide)) (y := 0) (c := 0) (by decide) (by decide))), (fun hq => absurd hq (rne (rgn (-2) (x := (-2)) (by decide)) (y := (-1)) (c := (-1)) (by decide) (by decide))), (fun hq => absurd (req (rgn (-2) (x := (-2)) (by decide)) (y := (-2)) (by decide)) hq), (fun hq => absurd hq (rne (rgn (-2) (x := (-2)) (by decide)) (y := 0) (c := 0) (by decide) (by decide))), (fun hq => absurd hq (rne (rgn (-2) (x := (-2)) (by decide)) (y := (-1)) (c := (-1)) (by decide) (by decide))), (fun hq => absurd (req (rgn (-2) (x := (-2)) (by decide)) (y := (-2)) (by decide)) hq), hp_n88_2, trivial⟩, hp_at ht hP⟩, hS.F ht⟩) hS.2.2 dX10_covers_16
  · have h_6 : rg 1 1 r1 := r_ne_lo_i c4 p_1 (by decide) (by decide)
    have h_7 : rg 1 2147483647 n12_5 := (p_2 (rne h_6 (y := 0) (c := 0) (by decide) (by decide)))
    refine lv_iload_n hx hb dX10_covers_7 rfl (lv_at hl 1 rfl) ?_
    refine ro_calli (va_runS (As := [.int p0]) (rest := []) ⟨hx, hb, hml, hown, hts⟩ (a_X10_isDeedSet l G ct p0) (va_cwS 1 hts gX10_covers_X10_isDeedSet rfl rfl rfl (by decide +kernel) ⟨Nat.le_of_ble_eq_true rfl, Nat.le_of_ble_eq_true rfl⟩) (ro_pre hK (hP.sub [] rfl)) rfl rfl hl.1 rfl (lv_room (Nat.le_of_ble_eq_true rfl)) dX10_covers_8 ⟨Nat.zero_le _, Nat.zero_le _⟩) hS hP (fun r8 H locs wr8 hP hS => ?_)
    obtain ⟨p_8, p_9, -⟩ := wr8
    refine lv_if_ne (tgt := 17) hx hb dX10_covers_11 (by decide) (fun c11 => ?_) (fun c11 => ?_)
    · have h_10 : rg 1 1 r8 := r_ne_lo_i c11 p_8 (by decide) (by decide)
      have h_11 : rg 0 63 p0 := (p_9 (rne h_10 (y := 0) (c := 0) (by decide) (by decide)))
      refine lv_aload_n hx hb dX10_covers_17 rfl (lv_at hl 0 rfl) ?_
      refine va_get (D := G) (ci := 10) (v := .ref a88) (C := RX10) (T := TX10) (N := 11) hx hb hts (by decide +kernel) hown hK.1 hP 0 rfl rfl 9 (by decide) (hts (.fieldLink RX10 77 "CardHolder" "choice" "LCardHolder$Choice;") (by decide +kernel)) (fun _ h9 => h9) rfl dX10_covers_18 ?_
      refine lv_aload_n hx hb dX10_covers_21 rfl (lv_at hl 0 rfl) ?_
      refine va_get (D := G) (ci := 10) (v := .ref a11) (C := RX10) (T := TX10) (N := 11) hx hb hts (by decide +kernel) hown hK.1 hP 0 rfl rfl 2 (by decide) (hts (.fieldLink RX10 28 "CardHolder" "play" "LCardHolder$Play;") (by decide +kernel)) (fun _ h9 => h9) rfl dX10_covers_22 ?_
      refine wj_callv (wr := [(a0, .inr (10, [.ref a1, .ref a3, .ref a11, .ref a25, .ref a68, .ref a69, .ref a77, .ref a82, .ref a84, .ref a88, .ref a91]))]) (w1 := (fun u : SU => [(a88, .inr (1, [.ref a89, .ref a90, .int (u.1 0)])), (a89, .inl (ct 0, 256, .inl (u.2.1 0))), (a90, .inl (ct 0, 256, .inl (u.2.1 1))), (a11, .inr (4, [.ref a12, .ref a19, .ref a24, .int n11_3])), (a12, .inr (9, [.ref a13, .ref a15, .ref a16, .ref a17, .ref a18, .int n12_5, .int n12_6])), (a13, .inr (0, [.ref a14, .int n13_1])), (a16, .inl (ct 0, 8, .inl f16)), (a19, .inr (2, [.ref a12, .ref a20, .ref a22, .ref a23, .int n19_4, .int n19_5, .int n19_6, .int n19_7])), (a20, .inr (0, [.ref a21, .int n20_1])), (a21, .inl (ct 0, 8, .inl f21))])) (va_runV (As := [.ref a11]) (rest := []) ⟨hx, hb, hml, hown, hts⟩ (a_X1_takeHands l G ct a88 a89 a90 n88_2 f89 f90 a11 a12 a19 a24 n11_3 a13 a15 a16 a17 a18 n12_5 n12_6 a14 n13_1 f16 a20 a22 a23 n19_4 n19_5 n19_6 n19_7 a21 n20_1 f21 hp_n88_2 hp_n13_1 hp_n20_1) (cwV 1 hts gX10_covers_X1_takeHands rfl rfl rfl (by decide +kernel) ⟨Nat.le_of_ble_eq_true rfl, Nat.le_of_ble_eq_true rfl⟩) (wr_preV 1 0 hK (hP.sub [8, 9, 10, 1, 2, 3, 4, 5, 6, 7] rfl) (hD.sub [8, 9, 10, 1, 2, 3, 4, 5, 6, 7] (by decide) rfl) rfl rfl) rfl rfl hl.1 rfl (lv_room (Nat.le_of_ble_eq_true rfl)) dX10_covers_25 ⟨Nat.zero_le _, Nat.zero_le _⟩) hS hP hD [8, 9, 10, 1, 2, 3, 4, 5, 6, 7] [0] rfl rfl (by decide) (fun _ => rfl) (fun ur25 H locs wr25 hP hD hS => ?_)
      have hP : va_P G vwCl [(a0, .inr (10, [.ref a1, .ref a3, .ref a11, .ref a25, .ref a68, .ref a69, .ref a77, .ref a82, .ref a84, .ref a88, .ref a91])), (a11, .inr (4, [.ref a12, .ref a19, .ref a24, .int n11_3])), (a12, .inr (9, [.ref a13, .ref a15, .ref a16, .ref a17, .ref a18, .int n12_5, .int n12_6])), (a13, .inr (0, [.ref a14, .int n13_1])), (a16, .inl (ct 0, 8, .inl f16)), (a19, .inr (2, [.ref a12, .ref a20, .ref a22, .ref a23, .int n19_4, .int n19_5, .int n19_6, .int n19_7])), (a20, .inr (0, [.ref a21, .int n20_1])), (a21, .inl (ct 0, 8, .inl f21)), (a88, .inr (1, [.ref a89, .ref a90, .int (ur25.1 0)])), (a89, .inl (ct 0, 256, .inl (ur25.2.1 0))), (a90, .inl (ct 0, 256, .inl (ur25.2.1 1)))] H := hP.sub [0, 4, 5, 6, 7, 8, 9, 10, 1, 2, 3] rfl
      have hD : va_D A [(a0, .inr (10, [.ref a1, .ref a3, .ref a11, .ref a25, .ref a68, .ref a69, .ref a77, .ref a82, .ref a84, .ref a88, .ref a91])), (a11, .inr (4, [.ref a12, .ref a19, .ref a24, .int n11_3])), (a12, .inr (9, [.ref a13, .ref a15, .ref a16, .ref a17, .ref a18, .int n12_5, .int n12_6])), (a13, .inr (0, [.ref a14, .int n13_1])), (a16, .inl (ct 0, 8, .inl f16)), (a19, .inr (2, [.ref a12, .ref a20, .ref a22, .ref a23, .int n19_4, .int n19_5, .int n19_6, .int n19_7])), (a20, .inr (0, [.ref a21, .int n20_1])), (a21, .inl (ct 0, 8, .inl f21)), (a88, .inr (1, [.ref a89, .ref a90, .int (ur25.1 0)])), (a89, .inl (ct 0, 256, .inl (ur25.2.1 0))), (a90, .inl (ct 0, 256, .inl (ur25.2.1 1)))] := hD.sub [0, 4, 5, 6, 7, 8, 9, 10, 1, 2, 3] (by decide) rfl
      obtain ⟨p_12, -⟩ := wr25
      refine lv_aload_n hx hb dX10_covers_28 rfl (lv_at hl 0 rfl) ?_
      refine va_get (D := G) (ci := 10) (v := .ref a88) (C := RX10) (T := TX10) (N := 11) hx hb hts (by decide +kernel) hown hK.1 hP 0 rfl rfl 9 (by decide) (hts (.fieldLink RX10 77 "CardHolder" "choice" "LCardHolder$Choice;") (by decide +kernel)) (fun _ h9 => h9) rfl dX10_covers_29 ?_
      refine lv_iload_n hx hb dX10_covers_32 rfl (lv_at hl 1 rfl) ?_
      refine ro_calli (va_runV (As := [.int p0]) (rest := []) ⟨hx, hb, hml, hown, hts⟩ (a_X1_cheapest l G ct a88 a89 a90 (ur25.1 0) (ur25.2.1 0) (ur25.2.1 1) p0 p_12) (cwV 1 hts gX10_covers_X1_cheapest rfl rfl rfl (by decide +kernel) ⟨Nat.le_of_ble_eq_true rfl, Nat.le_of_ble_eq_true rfl⟩) (ro_preV 1 0 hK (hP.sub [8, 9, 10] rfl) rfl rfl) rfl rfl hl.1 rfl (lv_room (Nat.le_of_ble_eq_true rfl)) dX10_covers_33 ⟨Nat.zero_le _, Nat.zero_le _⟩) hS hP (fun r33 H locs wr33 hP hS => ?_)
      obtain ⟨p_13, -⟩ := wr33
      exact W.iret (v := r33) hx hb hr (fun t ht hW => ⟨⟨r33, (fun k => ([ur25.1 0] : List Int32).getD k 0, fun k => ([ur25.2.1 0, ur25.2.1 1] : List (Nat → Int32)).getD k (fun _ => 0), fun k => ([] : List (Nat → Int64)).getD k (fun _ => 0)), rfl, ⟨(rg_w (c := (-2)) (d := 255) p_13 (by decide)), (fun _ => h_11), (fun _ => h_11), (fun _ => h_11), (fun _ => h_7), (fun _ => h_7), (fun _ => h_7), p_12, trivial⟩, hp_at ht hP⟩, hS.F ht⟩) hS.2.2 dX10_covers_36
    · have h_14 : rg 0 0 r8 := r_eq_l_i (e := 0) (f := 0) c11 p_8 (rgn 0 (x := 0) (by decide)) (by decide)
      refine lv_bipush (v := (-2)) hx hb dX10_covers_14 (by decide) ?_
      exact W.iret (v := (-2)) hx hb hr (fun t ht hW => ⟨⟨(-2), (fun k => ([n88_2] : List Int32).getD k 0, fun k => ([f89, f90] : List (Nat → Int32)).getD k (fun _ => 0), fun k => ([] : List (Nat → Int64)).getD k (fun _ => 0)), rfl, ⟨(rg_w (c := (-2)) (d := 255) (rgn (-2) (x := (-2)) (by decide)) (by decide)), (fun hq => absurd hq (rne (rgn (-2) (x := (-2)) (by decide)) (y := 0) (c := 0) (by decide) (by decide))), (fun hq => absurd hq (rne (rgn (-2) (x := (-2)) (by decide)) (y := (-1)) (c := (-1)) (by decide) (by decide))), (fun hq => absurd (req (rgn (-2) (x := (-2)) (by decide)) (y := (-2)) (by decide)) hq), (fun _ => h_7), (fun _ => h_7), (fun _ => h_7), hp_n88_2, trivial⟩, hp_at ht hP⟩, hS.F ht⟩) hS.2.2 dX10_covers_16

set_option maxHeartbeats 4000000 in
set_option maxRecDepth 100000 in
theorem a_X10_cover (l : Launch) (G : va_G) (ct : Nat → ClassId) (a0 : Nat) (a1 : Nat) (a3 : Nat) (a11 : Nat) (a25 : Nat) (a68 : Nat) (a69 : Nat) (a77 : Nat) (a82 : Nat) (a84 : Nat) (a88 : Nat) (a91 : Nat) (a12 : Nat) (a19 : Nat) (a24 : Nat) (n11_3 : Int32) (a13 : Nat) (a15 : Nat) (a16 : Nat) (a17 : Nat) (a18 : Nat) (n12_5 : Int32) (n12_6 : Int32) (a14 : Nat) (n13_1 : Int32) (f16 : Nat → Int32) (a20 : Nat) (a22 : Nat) (a23 : Nat) (n19_4 : Int32) (n19_5 : Int32) (n19_6 : Int32) (n19_7 : Int32) (a21 : Nat) (n20_1 : Int32) (f21 : Nat → Int32) (a89 : Nat) (a90 : Nat) (n88_2 : Int32) (f89 : Nat → Int32) (f90 : Nat → Int32) (p0 : Int32) (hp_n13_1 : rg 0 8 n13_1) (hp_n20_1 : rg 0 8 n20_1) (hp_n88_2 : rg 0 256 n88_2) : Met l yX10_cover wsX10_cover ({ frames := 5, cells := 0, slots := 0, locals := 108 }) (va_Pc [.ref a0, .int p0] (wrP G ct [(a0, .inr (10, [.ref a1, .ref a3, .ref a11, .ref a25, .ref a68, .ref a69, .ref a77, .ref a82, .ref a84, .ref a88, .ref a91])), (a11, .inr (4, [.ref a12, .ref a19, .ref a24, .int n11_3])), (a12, .inr (9, [.ref a13, .ref a15, .ref a16, .ref a17, .ref a18, .int n12_5, .int n12_6])), (a13, .inr (0, [.ref a14, .int n13_1])), (a16, .inl (ct 0, 8, .inl f16)), (a19, .inr (2, [.ref a12, .ref a20, .ref a22, .ref a23, .int n19_4, .int n19_5, .int n19_6, .int n19_7])), (a20, .inr (0, [.ref a21, .int n20_1])), (a21, .inl (ct 0, 8, .inl f21)), (a88, .inr (1, [.ref a89, .ref a90, .int n88_2])), (a89, .inl (ct 0, 256, .inl f89)), (a90, .inl (ct 0, 256, .inl f90))])) (va_Qi (fun (r : Int32) (u : SU) => rg (-2) 63 r ∧ (r = 0 → rg 0 63 p0) ∧ (r = (-1) → rg 0 63 p0) ∧ (¬ r = (-2) → rg 0 63 p0) ∧ (r = 0 → rg 1 2147483647 n12_5) ∧ (r = (-1) → rg 1 2147483647 n12_5) ∧ (¬ r = (-2) → rg 1 2147483647 n12_5) ∧ rg 0 256 (u.1 0) ∧ True) (fun u t => va_P G vwCl ((fun u : SU => [(a0, .inr (10, [.ref a1, .ref a3, .ref a11, .ref a25, .ref a68, .ref a69, .ref a77, .ref a82, .ref a84, .ref a88, .ref a91])), (a11, .inr (4, [.ref a12, .ref a19, .ref a24, .int n11_3])), (a12, .inr (9, [.ref a13, .ref a15, .ref a16, .ref a17, .ref a18, .int n12_5, .int n12_6])), (a13, .inr (0, [.ref a14, .int n13_1])), (a16, .inl (ct 0, 8, .inl f16)), (a19, .inr (2, [.ref a12, .ref a20, .ref a22, .ref a23, .int n19_4, .int n19_5, .int n19_6, .int n19_7])), (a20, .inr (0, [.ref a21, .int n20_1])), (a21, .inl (ct 0, 8, .inl f21)), (a88, .inr (1, [.ref a89, .ref a90, .int (u.1 0)])), (a89, .inl (ct 0, 256, .inl (u.2.1 0))), (a90, .inl (ct 0, 256, .inl (u.2.1 1)))]) u) t.heap) (aset [(a0, .inr (10, [.ref a1, .ref a3, .ref a11, .ref a25, .ref a68, .ref a69, .ref a77, .ref a82, .ref a84, .ref a88, .ref a91])), (a11, .inr (4, [.ref a12, .ref a19, .ref a24, .int n11_3])), (a12, .inr (9, [.ref a13, .ref a15, .ref a16, .ref a17, .ref a18, .int n12_5, .int n12_6])), (a13, .inr (0, [.ref a14, .int n13_1])), (a16, .inl (ct 0, 8, .inl f16)), (a19, .inr (2, [.ref a12, .ref a20, .ref a22, .ref a23, .int n19_4, .int n19_5, .int n19_6, .int n19_7])), (a20, .inr (0, [.ref a21, .int n20_1])), (a21, .inl (ct 0, 8, .inl f21)), (a88, .inr (1, [.ref a89, .ref a90, .int n88_2])), (a89, .inl (ct 0, 256, .inl f89)), (a90, .inl (ct 0, 256, .inl f90))])) 0 0 (aset [(a0, .inr (10, [.ref a1, .ref a3, .ref a11, .ref a25, .ref a68, .ref a69, .ref a77, .ref a82, .ref a84, .ref a88, .ref a91])), (a11, .inr (4, [.ref a12, .ref a19, .ref a24, .int n11_3])), (a12, .inr (9, [.ref a13, .ref a15, .ref a16, .ref a17, .ref a18, .int n12_5, .int n12_6])), (a13, .inr (0, [.ref a14, .int n13_1])), (a16, .inl (ct 0, 8, .inl f16)), (a19, .inr (2, [.ref a12, .ref a20, .ref a22, .ref a23, .int n19_4, .int n19_5, .int n19_6, .int n19_7])), (a20, .inr (0, [.ref a21, .int n20_1])), (a21, .inl (ct 0, 8, .inl f21)), (a88, .inr (1, [.ref a89, .ref a90, .int n88_2])), (a89, .inl (ct 0, 256, .inl f89)), (a90, .inl (ct 0, 256, .inl f90))]) := by
  refine Met.ofW (cc := cX10_cover) (maxL := 3) (ret := (some .int)) (by decide) rfl ?_
  intro p e s m args below meth c s₁ B hml hv
  obtain ⟨rfl, hP, hK, hD0⟩ := hv
  have hx := B.exec
  have hb := B.bytes
  have hr := B.returns
  have hts := atoms_spec (ws := wsX10_cover) B.pre
  have hown : s.vm.findClass RX10 = some m.cls := findClass_of_methodNamed B.named
  have hlocks := B.notSynchronized
  have hD := hD0.aself
  generalize hAe : aset [(a0, .inr (10, [.ref a1, .ref a3, .ref a11, .ref a25, .ref a68, .ref a69, .ref a77, .ref a82, .ref a84, .ref a88, .ref a91])), (a11, .inr (4, [.ref a12, .ref a19, .ref a24, .int n11_3])), (a12, .inr (9, [.ref a13, .ref a15, .ref a16, .ref a17, .ref a18, .int n12_5, .int n12_6])), (a13, .inr (0, [.ref a14, .int n13_1])), (a16, .inl (ct 0, 8, .inl f16)), (a19, .inr (2, [.ref a12, .ref a20, .ref a22, .ref a23, .int n19_4, .int n19_5, .int n19_6, .int n19_7])), (a20, .inr (0, [.ref a21, .int n20_1])), (a21, .inl (ct 0, 8, .inl f21)), (a88, .inr (1, [.ref a89, .ref a90, .int n88_2])), (a89, .inl (ct 0, 256, .inl f89)), (a90, .inl (ct 0, 256, .inl f90))] = A at hD ⊢
  have hS : va_S A s.heap s.heap [] := va_S.rf
  have hl := lv_entry ([.ref a0, .int p0]) (n := 3) (Nat.le_of_ble_eq_true rfl)
  rw [lg_entry_eq]
  generalize (lg_sl ([.ref a0, .int p0]) ++ List.replicate (3 - (lg_sl ([.ref a0, .int p0])).length) Slot.unset).toArray = ls at hl ⊢
  have hl : lv_has ls 3 [(0, .ref a0), (1, .int p0)] := hl
  refine lv_aload_n hx hb dX10_cover_0 rfl (lv_at hl 0 rfl) ?_
  refine lv_iload_n hx hb dX10_cover_1 rfl (lv_at hl 1 rfl) ?_
  refine wj_calli (wr := []) (w1 := (fun u : SU => [(a0, .inr (10, [.ref a1, .ref a3, .ref a11, .ref a25, .ref a68, .ref a69, .ref a77, .ref a82, .ref a84, .ref a88, .ref a91])), (a11, .inr (4, [.ref a12, .ref a19, .ref a24, .int n11_3])), (a12, .inr (9, [.ref a13, .ref a15, .ref a16, .ref a17, .ref a18, .int n12_5, .int n12_6])), (a13, .inr (0, [.ref a14, .int n13_1])), (a16, .inl (ct 0, 8, .inl f16)), (a19, .inr (2, [.ref a12, .ref a20, .ref a22, .ref a23, .int n19_4, .int n19_5, .int n19_6, .int n19_7])), (a20, .inr (0, [.ref a21, .int n20_1])), (a21, .inl (ct 0, 8, .inl f21)), (a88, .inr (1, [.ref a89, .ref a90, .int (u.1 0)])), (a89, .inl (ct 0, 256, .inl (u.2.1 0))), (a90, .inl (ct 0, 256, .inl (u.2.1 1)))])) (va_runV (As := [.int p0]) (rest := []) ⟨hx, hb, hml, hown, hts⟩ (a_X10_covers l G ct a0 a1 a3 a11 a25 a68 a69 a77 a82 a84 a88 a91 a12 a19 a24 n11_3 a13 a15 a16 a17 a18 n12_5 n12_6 a14 n13_1 f16 a20 a22 a23 n19_4 n19_5 n19_6 n19_7 a21 n20_1 f21 a89 a90 n88_2 f89 f90 p0 hp_n13_1 hp_n20_1 hp_n88_2) (cwV 1 hts gX10_cover_X10_covers rfl rfl rfl (by decide +kernel) ⟨Nat.le_of_ble_eq_true rfl, Nat.le_of_ble_eq_true rfl⟩) (wr_preV 10 0 hK (hP.sub [0, 1, 2, 3, 4, 5, 6, 7, 8, 9, 10] rfl) (hD.sub [0, 1, 2, 3, 4, 5, 6, 7, 8, 9, 10] (by decide) rfl) rfl rfl) rfl rfl hl.1 rfl (lv_room (Nat.le_of_ble_eq_true rfl)) dX10_cover_2 ⟨Nat.zero_le _, Nat.zero_le _⟩) hS hP hD [0, 1, 2, 3, 4, 5, 6, 7, 8, 9, 10] [] rfl rfl (by decide) (fun _ => rfl) (fun r2 ur2 H locs wr2 hP hD hS => ?_)
  have hP : va_P G vwCl [(a0, .inr (10, [.ref a1, .ref a3, .ref a11, .ref a25, .ref a68, .ref a69, .ref a77, .ref a82, .ref a84, .ref a88, .ref a91])), (a11, .inr (4, [.ref a12, .ref a19, .ref a24, .int n11_3])), (a12, .inr (9, [.ref a13, .ref a15, .ref a16, .ref a17, .ref a18, .int n12_5, .int n12_6])), (a13, .inr (0, [.ref a14, .int n13_1])), (a16, .inl (ct 0, 8, .inl f16)), (a19, .inr (2, [.ref a12, .ref a20, .ref a22, .ref a23, .int n19_4, .int n19_5, .int n19_6, .int n19_7])), (a20, .inr (0, [.ref a21, .int n20_1])), (a21, .inl (ct 0, 8, .inl f21)), (a88, .inr (1, [.ref a89, .ref a90, .int (ur2.1 0)])), (a89, .inl (ct 0, 256, .inl (ur2.2.1 0))), (a90, .inl (ct 0, 256, .inl (ur2.2.1 1)))] H := hP.sub [0, 1, 2, 3, 4, 5, 6, 7, 8, 9, 10] rfl
  have hD : va_D A [(a0, .inr (10, [.ref a1, .ref a3, .ref a11, .ref a25, .ref a68, .ref a69, .ref a77, .ref a82, .ref a84, .ref a88, .ref a91])), (a11, .inr (4, [.ref a12, .ref a19, .ref a24, .int n11_3])), (a12, .inr (9, [.ref a13, .ref a15, .ref a16, .ref a17, .ref a18, .int n12_5, .int n12_6])), (a13, .inr (0, [.ref a14, .int n13_1])), (a16, .inl (ct 0, 8, .inl f16)), (a19, .inr (2, [.ref a12, .ref a20, .ref a22, .ref a23, .int n19_4, .int n19_5, .int n19_6, .int n19_7])), (a20, .inr (0, [.ref a21, .int n20_1])), (a21, .inl (ct 0, 8, .inl f21)), (a88, .inr (1, [.ref a89, .ref a90, .int (ur2.1 0)])), (a89, .inl (ct 0, 256, .inl (ur2.2.1 0))), (a90, .inl (ct 0, 256, .inl (ur2.2.1 1)))] := hD.sub [0, 1, 2, 3, 4, 5, 6, 7, 8, 9, 10] (by decide) rfl
  obtain ⟨p_1, p_2, p_3, p_4, p_5, p_6, p_7, p_8, -⟩ := wr2
  refine lv_istore_n (lv' := [(2, .int r2), (0, .ref a0), (1, .int p0)]) hx hb dX10_cover_5 rfl hl (by decide) rfl (fun ls hl => ?_)
  refine lv_iload_n hx hb dX10_cover_6 rfl (lv_at hl 0 rfl) ?_
  refine lv_if_ge (tgt := 14) hx hb dX10_cover_7 (by decide) (fun c7 => ?_) (fun c7 => ?_)
  · have h_9 : rg 0 255 r2 := r_le_r_i c7 (rgn 0 (x := 0) (by decide)) p_1
    have h_10 : rg 0 63 p0 := (p_4 (rne h_9 (y := (-2)) (c := (-2)) (by decide) (by decide)))
    have h_11 : rg 1 2147483647 n12_5 := (p_7 (rne h_9 (y := (-2)) (c := (-2)) (by decide) (by decide)))
    refine lv_iload_n hx hb dX10_cover_14 rfl (lv_at hl 0 rfl) ?_
    refine ro_calli (va_runS (As := [.int r2]) (rest := []) ⟨hx, hb, hml, hown, hts⟩ (a_J6_bitCount_0f7a4 l G ct r2) (va_cwS 1 hts gX10_cover_J6_bitCount_0f7a4 rfl rfl rfl (by decide +kernel) ⟨Nat.le_of_ble_eq_true rfl, Nat.le_of_ble_eq_true rfl⟩) (ro_pre hK (hP.sub [] rfl)) rfl rfl hl.1 rfl (lv_room (Nat.le_of_ble_eq_true rfl)) dX10_cover_15 ⟨Nat.zero_le _, Nat.zero_le _⟩) hS hP (fun r15 H locs wr15 hP hS => ?_)
    obtain ⟨p_12, -⟩ := wr15
    exact W.iret (v := r15) hx hb hr (fun t ht hW => ⟨⟨r15, (fun k => ([ur2.1 0] : List Int32).getD k 0, fun k => ([ur2.2.1 0, ur2.2.1 1] : List (Nat → Int32)).getD k (fun _ => 0), fun k => ([] : List (Nat → Int64)).getD k (fun _ => 0)), rfl, ⟨(rg_w (c := (-2)) (d := 63) p_12 (by decide)), (fun _ => h_10), (fun _ => h_10), (fun _ => h_10), (fun _ => h_11), (fun _ => h_11), (fun _ => h_11), p_8, trivial⟩, hp_at ht hP⟩, hS.F ht⟩) hS.2.2 dX10_cover_18
  · have h_13 : rg (-2) (-1) r2 := r_lt_l_i (nle_i c7) p_1 (rgn 0 (x := 0) (by decide)) (by decide)
    refine lv_iload_n hx hb dX10_cover_10 rfl (lv_at hl 0 rfl) ?_
    refine lv_goto (tgt := 18) hx hb dX10_cover_11 (by decide) ?_
    exact W.iret (v := r2) hx hb hr (fun t ht hW => ⟨⟨r2, (fun k => ([ur2.1 0] : List Int32).getD k 0, fun k => ([ur2.2.1 0, ur2.2.1 1] : List (Nat → Int32)).getD k (fun _ => 0), fun k => ([] : List (Nat → Int64)).getD k (fun _ => 0)), rfl, ⟨(rg_w (c := (-2)) (d := 63) h_13 (by decide)), (fun hq => rg_w (p_2 hq) (by decide)), (fun hq => rg_w (p_3 hq) (by decide)), (fun hq => rg_w (p_4 hq) (by decide)), (fun hq => rg_w (p_5 hq) (by decide)), (fun hq => rg_w (p_6 hq) (by decide)), (fun hq => rg_w (p_7 hq) (by decide)), p_8, trivial⟩, hp_at ht hP⟩, hS.F ht⟩) hS.2.2 dX10_cover_18

set_option maxHeartbeats 4000000 in
set_option maxRecDepth 100000 in
theorem a_X10_bought (l : Launch) (G : va_G) (ct : Nat → ClassId) (a0 : Nat) (a1 : Nat) (a3 : Nat) (a11 : Nat) (a25 : Nat) (a68 : Nat) (a69 : Nat) (a77 : Nat) (a82 : Nat) (a84 : Nat) (a88 : Nat) (a91 : Nat) (a12 : Nat) (a19 : Nat) (a24 : Nat) (n11_3 : Int32) (a13 : Nat) (a15 : Nat) (a16 : Nat) (a17 : Nat) (a18 : Nat) (n12_5 : Int32) (n12_6 : Int32) (a14 : Nat) (n13_1 : Int32) (f15 : Nat → Int32) (f16 : Nat → Int32) (a89 : Nat) (a90 : Nat) (n88_2 : Int32) (f89 : Nat → Int32) (f90 : Nat → Int32) (p0 : Int32) (hp_n13_1 : rg 0 8 n13_1) (hp_n88_2 : rg 0 256 n88_2) : Met l yX10_bought wsX10_bought ({ frames := 3, cells := 0, slots := 0, locals := 64 }) (va_Pc [.ref a0, .int p0] (wrP G ct [(a0, .inr (10, [.ref a1, .ref a3, .ref a11, .ref a25, .ref a68, .ref a69, .ref a77, .ref a82, .ref a84, .ref a88, .ref a91])), (a11, .inr (4, [.ref a12, .ref a19, .ref a24, .int n11_3])), (a12, .inr (9, [.ref a13, .ref a15, .ref a16, .ref a17, .ref a18, .int n12_5, .int n12_6])), (a13, .inr (0, [.ref a14, .int n13_1])), (a15, .inl (ct 0, 8, .inl f15)), (a16, .inl (ct 0, 8, .inl f16)), (a88, .inr (1, [.ref a89, .ref a90, .int n88_2])), (a89, .inl (ct 0, 256, .inl f89)), (a90, .inl (ct 0, 256, .inl f90))])) (va_Qi (fun (r : Int32) (u : SU) => rg (-2) 255 r ∧ (r = 0 → rg 0 63 p0) ∧ (r = (-1) → rg 0 63 p0) ∧ (¬ r = (-2) → rg 0 63 p0) ∧ (r = 0 → rg 1 2147483647 n12_5) ∧ (r = (-1) → rg 1 2147483647 n12_5) ∧ (¬ r = (-2) → rg 1 2147483647 n12_5) ∧ rg 0 256 (u.1 0) ∧ True) (fun u t => va_P G vwCl ((fun u : SU => [(a0, .inr (10, [.ref a1, .ref a3, .ref a11, .ref a25, .ref a68, .ref a69, .ref a77, .ref a82, .ref a84, .ref a88, .ref a91])), (a11, .inr (4, [.ref a12, .ref a19, .ref a24, .int n11_3])), (a12, .inr (9, [.ref a13, .ref a15, .ref a16, .ref a17, .ref a18, .int n12_5, .int n12_6])), (a13, .inr (0, [.ref a14, .int n13_1])), (a15, .inl (ct 0, 8, .inl f15)), (a16, .inl (ct 0, 8, .inl f16)), (a88, .inr (1, [.ref a89, .ref a90, .int (u.1 0)])), (a89, .inl (ct 0, 256, .inl (u.2.1 0))), (a90, .inl (ct 0, 256, .inl (u.2.1 1)))]) u) t.heap) (aset [(a0, .inr (10, [.ref a1, .ref a3, .ref a11, .ref a25, .ref a68, .ref a69, .ref a77, .ref a82, .ref a84, .ref a88, .ref a91])), (a11, .inr (4, [.ref a12, .ref a19, .ref a24, .int n11_3])), (a12, .inr (9, [.ref a13, .ref a15, .ref a16, .ref a17, .ref a18, .int n12_5, .int n12_6])), (a13, .inr (0, [.ref a14, .int n13_1])), (a15, .inl (ct 0, 8, .inl f15)), (a16, .inl (ct 0, 8, .inl f16)), (a88, .inr (1, [.ref a89, .ref a90, .int n88_2])), (a89, .inl (ct 0, 256, .inl f89)), (a90, .inl (ct 0, 256, .inl f90))])) 0 0 (aset [(a0, .inr (10, [.ref a1, .ref a3, .ref a11, .ref a25, .ref a68, .ref a69, .ref a77, .ref a82, .ref a84, .ref a88, .ref a91])), (a11, .inr (4, [.ref a12, .ref a19, .ref a24, .int n11_3])), (a12, .inr (9, [.ref a13, .ref a15, .ref a16, .ref a17, .ref a18, .int n12_5, .int n12_6])), (a13, .inr (0, [.ref a14, .int n13_1])), (a15, .inl (ct 0, 8, .inl f15)), (a16, .inl (ct 0, 8, .inl f16)), (a88, .inr (1, [.ref a89, .ref a90, .int n88_2])), (a89, .inl (ct 0, 256, .inl f89)), (a90, .inl (ct 0, 256, .inl f90))]) := by
  refine Met.ofW (cc := cX10_bought) (maxL := 2) (ret := (some .int)) (by decide) rfl ?_
  intro p e s m args below meth c s₁ B hml hv
  obtain ⟨rfl, hP, hK, hD0⟩ := hv
  have hx := B.exec
  have hb := B.bytes
  have hr := B.returns
  have hts := atoms_spec (ws := wsX10_bought) B.pre
  have hown : s.vm.findClass RX10 = some m.cls := findClass_of_methodNamed B.named
  have hlocks := B.notSynchronized
  have hD := hD0.aself
  generalize hAe : aset [(a0, .inr (10, [.ref a1, .ref a3, .ref a11, .ref a25, .ref a68, .ref a69, .ref a77, .ref a82, .ref a84, .ref a88, .ref a91])), (a11, .inr (4, [.ref a12, .ref a19, .ref a24, .int n11_3])), (a12, .inr (9, [.ref a13, .ref a15, .ref a16, .ref a17, .ref a18, .int n12_5, .int n12_6])), (a13, .inr (0, [.ref a14, .int n13_1])), (a15, .inl (ct 0, 8, .inl f15)), (a16, .inl (ct 0, 8, .inl f16)), (a88, .inr (1, [.ref a89, .ref a90, .int n88_2])), (a89, .inl (ct 0, 256, .inl f89)), (a90, .inl (ct 0, 256, .inl f90))] = A at hD ⊢
  have hS : va_S A s.heap s.heap [] := va_S.rf
  have hl := lv_entry ([.ref a0, .int p0]) (n := 2) (Nat.le_of_ble_eq_true rfl)
  rw [lg_entry_eq]
  generalize (lg_sl ([.ref a0, .int p0]) ++ List.replicate (2 - (lg_sl ([.ref a0, .int p0])).length) Slot.unset).toArray = ls at hl ⊢
  have hl : lv_has ls 2 [(0, .ref a0), (1, .int p0)] := hl
  refine lv_aload_n hx hb dX10_bought_0 rfl (lv_at hl 0 rfl) ?_
  refine ro_calli (va_runV (As := []) (rest := []) ⟨hx, hb, hml, hown, hts⟩ (a_X10_hasCity l G ct a0 a1 a3 a11 a25 a68 a69 a77 a82 a84 a88 a91 a12 a19 a24 n11_3 a13 a15 a16 a17 a18 n12_5 n12_6) (cwV 0 hts gX10_bought_X10_hasCity rfl rfl rfl (by decide +kernel) ⟨Nat.le_of_ble_eq_true rfl, Nat.le_of_ble_eq_true rfl⟩) (ro_preV 10 0 hK (hP.sub [0, 1, 2] rfl) rfl rfl) rfl rfl hl.1 rfl (lv_room (Nat.le_of_ble_eq_true rfl)) dX10_bought_1 ⟨Nat.zero_le _, Nat.zero_le _⟩) hS hP (fun r1 H locs wr1 hP hS => ?_)
  obtain ⟨p_1, p_2, p_3, -⟩ := wr1
  refine lv_if_eq (tgt := 14) hx hb dX10_bought_4 (by decide) (fun c4 => ?_) (fun c4 => ?_)
  · have h_4 : rg 0 0 r1 := r_eq_l_i (e := 0) (f := 0) c4 p_1 (rgn 0 (x := 0) (by decide)) (by decide)
    have h_5 : rg (-2147483648) 0 n12_5 := (p_3 (req h_4 (y := 0) (by decide)))
    refine lv_bipush (v := (-2)) hx hb dX10_bought_14 (by decide) ?_
    exact W.iret (v := (-2)) hx hb hr (fun t ht hW => ⟨⟨(-2), (fun k => ([n88_2] : List Int32).getD k 0, fun k => ([f89, f90] : List (Nat → Int32)).getD k (fun _ => 0), fun k => ([] : List (Nat → Int64)).getD k (fun _ => 0)), rfl, ⟨(rg_w (c := (-2)) (d := 255) (rgn (-2) (x := (-2)) (by decide)) (by decide)), (fun hq => absurd hq (rne (rgn (-2) (x := (-2)) (by decide)) (y := 0) (c := 0) (by decide) (by decide))), (fun hq => absurd hq (rne (rgn (-2) (x := (-2)) (by decide)) (y := (-1)) (c := (-1)) (by decide) (by decide))), (fun hq => absurd (req (rgn (-2) (x := (-2)) (by decide)) (y := (-2)) (by decide)) hq), (fun hq => absurd hq (rne (rgn (-2) (x := (-2)) (by decide)) (y := 0) (c := 0) (by decide) (by decide))), (fun hq => absurd hq (rne (rgn (-2) (x := (-2)) (by decide)) (y := (-1)) (c := (-1)) (by decide) (by decide))), (fun hq => absurd (req (rgn (-2) (x := (-2)) (by decide)) (y := (-2)) (by decide)) hq), hp_n88_2, trivial⟩, hp_at ht hP⟩, hS.F ht⟩) hS.2.2 dX10_bought_16
  · have h_6 : rg 1 1 r1 := r_ne_lo_i c4 p_1 (by decide) (by decide)
    have h_7 : rg 1 2147483647 n12_5 := (p_2 (rne h_6 (y := 0) (c := 0) (by decide) (by decide)))
    refine lv_iload_n hx hb dX10_bought_7 rfl (lv_at hl 1 rfl) ?_
    refine ro_calli (va_runS (As := [.int p0]) (rest := []) ⟨hx, hb, hml, hown, hts⟩ (a_X10_isDeedSet l G ct p0) (va_cwS 1 hts gX10_bought_X10_isDeedSet rfl rfl rfl (by decide +kernel) ⟨Nat.le_of_ble_eq_true rfl, Nat.le_of_ble_eq_true rfl⟩) (ro_pre hK (hP.sub [] rfl)) rfl rfl hl.1 rfl (lv_room (Nat.le_of_ble_eq_true rfl)) dX10_bought_8 ⟨Nat.zero_le _, Nat.zero_le _⟩) hS hP (fun r8 H locs wr8 hP hS => ?_)
    obtain ⟨p_8, p_9, -⟩ := wr8
    refine lv_if_ne (tgt := 17) hx hb dX10_bought_11 (by decide) (fun c11 => ?_) (fun c11 => ?_)
    · have h_10 : rg 1 1 r8 := r_ne_lo_i c11 p_8 (by decide) (by decide)
      have h_11 : rg 0 63 p0 := (p_9 (rne h_10 (y := 0) (c := 0) (by decide) (by decide)))
      refine lv_aload_n hx hb dX10_bought_17 rfl (lv_at hl 0 rfl) ?_
      refine va_get (D := G) (ci := 10) (v := .ref a88) (C := RX10) (T := TX10) (N := 11) hx hb hts (by decide +kernel) hown hK.1 hP 0 rfl rfl 9 (by decide) (hts (.fieldLink RX10 77 "CardHolder" "choice" "LCardHolder$Choice;") (by decide +kernel)) (fun _ h9 => h9) rfl dX10_bought_18 ?_
      refine lv_aload_n hx hb dX10_bought_21 rfl (lv_at hl 0 rfl) ?_
      refine va_get (D := G) (ci := 10) (v := .ref a11) (C := RX10) (T := TX10) (N := 11) hx hb hts (by decide +kernel) hown hK.1 hP 0 rfl rfl 2 (by decide) (hts (.fieldLink RX10 28 "CardHolder" "play" "LCardHolder$Play;") (by decide +kernel)) (fun _ h9 => h9) rfl dX10_bought_22 ?_
      refine wj_callv (wr := [(a0, .inr (10, [.ref a1, .ref a3, .ref a11, .ref a25, .ref a68, .ref a69, .ref a77, .ref a82, .ref a84, .ref a88, .ref a91]))]) (w1 := (fun u : SU => [(a88, .inr (1, [.ref a89, .ref a90, .int (u.1 0)])), (a89, .inl (ct 0, 256, .inl (u.2.1 0))), (a90, .inl (ct 0, 256, .inl (u.2.1 1))), (a11, .inr (4, [.ref a12, .ref a19, .ref a24, .int n11_3])), (a12, .inr (9, [.ref a13, .ref a15, .ref a16, .ref a17, .ref a18, .int n12_5, .int n12_6])), (a13, .inr (0, [.ref a14, .int n13_1])), (a15, .inl (ct 0, 8, .inl f15)), (a16, .inl (ct 0, 8, .inl f16))])) (va_runV (As := [.ref a11]) (rest := []) ⟨hx, hb, hml, hown, hts⟩ (a_X1_takePersons l G ct a88 a89 a90 n88_2 f89 f90 a11 a12 a19 a24 n11_3 a13 a15 a16 a17 a18 n12_5 n12_6 a14 n13_1 f15 f16 hp_n88_2 hp_n13_1) (cwV 1 hts gX10_bought_X1_takePersons rfl rfl rfl (by decide +kernel) ⟨Nat.le_of_ble_eq_true rfl, Nat.le_of_ble_eq_true rfl⟩) (wr_preV 1 0 hK (hP.sub [6, 7, 8, 1, 2, 3, 4, 5] rfl) (hD.sub [6, 7, 8, 1, 2, 3, 4, 5] (by decide) rfl) rfl rfl) rfl rfl hl.1 rfl (lv_room (Nat.le_of_ble_eq_true rfl)) dX10_bought_25 ⟨Nat.zero_le _, Nat.zero_le _⟩) hS hP hD [6, 7, 8, 1, 2, 3, 4, 5] [0] rfl rfl (by decide) (fun _ => rfl) (fun ur25 H locs wr25 hP hD hS => ?_)
      have hP : va_P G vwCl [(a0, .inr (10, [.ref a1, .ref a3, .ref a11, .ref a25, .ref a68, .ref a69, .ref a77, .ref a82, .ref a84, .ref a88, .ref a91])), (a11, .inr (4, [.ref a12, .ref a19, .ref a24, .int n11_3])), (a12, .inr (9, [.ref a13, .ref a15, .ref a16, .ref a17, .ref a18, .int n12_5, .int n12_6])), (a13, .inr (0, [.ref a14, .int n13_1])), (a15, .inl (ct 0, 8, .inl f15)), (a16, .inl (ct 0, 8, .inl f16)), (a88, .inr (1, [.ref a89, .ref a90, .int (ur25.1 0)])), (a89, .inl (ct 0, 256, .inl (ur25.2.1 0))), (a90, .inl (ct 0, 256, .inl (ur25.2.1 1)))] H := hP.sub [0, 4, 5, 6, 7, 8, 1, 2, 3] rfl
      have hD : va_D A [(a0, .inr (10, [.ref a1, .ref a3, .ref a11, .ref a25, .ref a68, .ref a69, .ref a77, .ref a82, .ref a84, .ref a88, .ref a91])), (a11, .inr (4, [.ref a12, .ref a19, .ref a24, .int n11_3])), (a12, .inr (9, [.ref a13, .ref a15, .ref a16, .ref a17, .ref a18, .int n12_5, .int n12_6])), (a13, .inr (0, [.ref a14, .int n13_1])), (a15, .inl (ct 0, 8, .inl f15)), (a16, .inl (ct 0, 8, .inl f16)), (a88, .inr (1, [.ref a89, .ref a90, .int (ur25.1 0)])), (a89, .inl (ct 0, 256, .inl (ur25.2.1 0))), (a90, .inl (ct 0, 256, .inl (ur25.2.1 1)))] := hD.sub [0, 4, 5, 6, 7, 8, 1, 2, 3] (by decide) rfl
      obtain ⟨p_12, -⟩ := wr25
      refine lv_aload_n hx hb dX10_bought_28 rfl (lv_at hl 0 rfl) ?_
      refine va_get (D := G) (ci := 10) (v := .ref a88) (C := RX10) (T := TX10) (N := 11) hx hb hts (by decide +kernel) hown hK.1 hP 0 rfl rfl 9 (by decide) (hts (.fieldLink RX10 77 "CardHolder" "choice" "LCardHolder$Choice;") (by decide +kernel)) (fun _ h9 => h9) rfl dX10_bought_29 ?_
      refine lv_iload_n hx hb dX10_bought_32 rfl (lv_at hl 1 rfl) ?_
      refine ro_calli (va_runV (As := [.int p0]) (rest := []) ⟨hx, hb, hml, hown, hts⟩ (a_X1_cheapest l G ct a88 a89 a90 (ur25.1 0) (ur25.2.1 0) (ur25.2.1 1) p0 p_12) (cwV 1 hts gX10_bought_X1_cheapest rfl rfl rfl (by decide +kernel) ⟨Nat.le_of_ble_eq_true rfl, Nat.le_of_ble_eq_true rfl⟩) (ro_preV 1 0 hK (hP.sub [6, 7, 8] rfl) rfl rfl) rfl rfl hl.1 rfl (lv_room (Nat.le_of_ble_eq_true rfl)) dX10_bought_33 ⟨Nat.zero_le _, Nat.zero_le _⟩) hS hP (fun r33 H locs wr33 hP hS => ?_)
      obtain ⟨p_13, -⟩ := wr33
      exact W.iret (v := r33) hx hb hr (fun t ht hW => ⟨⟨r33, (fun k => ([ur25.1 0] : List Int32).getD k 0, fun k => ([ur25.2.1 0, ur25.2.1 1] : List (Nat → Int32)).getD k (fun _ => 0), fun k => ([] : List (Nat → Int64)).getD k (fun _ => 0)), rfl, ⟨(rg_w (c := (-2)) (d := 255) p_13 (by decide)), (fun _ => h_11), (fun _ => h_11), (fun _ => h_11), (fun _ => h_7), (fun _ => h_7), (fun _ => h_7), p_12, trivial⟩, hp_at ht hP⟩, hS.F ht⟩) hS.2.2 dX10_bought_36
    · have h_14 : rg 0 0 r8 := r_eq_l_i (e := 0) (f := 0) c11 p_8 (rgn 0 (x := 0) (by decide)) (by decide)
      refine lv_bipush (v := (-2)) hx hb dX10_bought_14 (by decide) ?_
      exact W.iret (v := (-2)) hx hb hr (fun t ht hW => ⟨⟨(-2), (fun k => ([n88_2] : List Int32).getD k 0, fun k => ([f89, f90] : List (Nat → Int32)).getD k (fun _ => 0), fun k => ([] : List (Nat → Int64)).getD k (fun _ => 0)), rfl, ⟨(rg_w (c := (-2)) (d := 255) (rgn (-2) (x := (-2)) (by decide)) (by decide)), (fun hq => absurd hq (rne (rgn (-2) (x := (-2)) (by decide)) (y := 0) (c := 0) (by decide) (by decide))), (fun hq => absurd hq (rne (rgn (-2) (x := (-2)) (by decide)) (y := (-1)) (c := (-1)) (by decide) (by decide))), (fun hq => absurd (req (rgn (-2) (x := (-2)) (by decide)) (y := (-2)) (by decide)) hq), (fun _ => h_7), (fun _ => h_7), (fun _ => h_7), hp_n88_2, trivial⟩, hp_at ht hP⟩, hS.F ht⟩) hS.2.2 dX10_bought_16

set_option maxHeartbeats 4000000 in
set_option maxRecDepth 100000 in
theorem a_X10_buy (l : Launch) (G : va_G) (ct : Nat → ClassId) (a0 : Nat) (a1 : Nat) (a3 : Nat) (a11 : Nat) (a25 : Nat) (a68 : Nat) (a69 : Nat) (a77 : Nat) (a82 : Nat) (a84 : Nat) (a88 : Nat) (a91 : Nat) (a12 : Nat) (a19 : Nat) (a24 : Nat) (n11_3 : Int32) (a13 : Nat) (a15 : Nat) (a16 : Nat) (a17 : Nat) (a18 : Nat) (n12_5 : Int32) (n12_6 : Int32) (a14 : Nat) (n13_1 : Int32) (f15 : Nat → Int32) (f16 : Nat → Int32) (a89 : Nat) (a90 : Nat) (n88_2 : Int32) (f89 : Nat → Int32) (f90 : Nat → Int32) (p0 : Int32) (hp_n13_1 : rg 0 8 n13_1) (hp_n88_2 : rg 0 256 n88_2) : Met l yX10_buy wsX10_buy ({ frames := 4, cells := 0, slots := 0, locals := 85 }) (va_Pc [.ref a0, .int p0] (wrP G ct [(a0, .inr (10, [.ref a1, .ref a3, .ref a11, .ref a25, .ref a68, .ref a69, .ref a77, .ref a82, .ref a84, .ref a88, .ref a91])), (a11, .inr (4, [.ref a12, .ref a19, .ref a24, .int n11_3])), (a12, .inr (9, [.ref a13, .ref a15, .ref a16, .ref a17, .ref a18, .int n12_5, .int n12_6])), (a13, .inr (0, [.ref a14, .int n13_1])), (a15, .inl (ct 0, 8, .inl f15)), (a16, .inl (ct 0, 8, .inl f16)), (a88, .inr (1, [.ref a89, .ref a90, .int n88_2])), (a89, .inl (ct 0, 256, .inl f89)), (a90, .inl (ct 0, 256, .inl f90))])) (va_Qi (fun (r : Int32) (u : SU) => (r = 0 → rg 0 63 p0) ∧ (r = (-1) → rg 0 63 p0) ∧ (¬ r = (-2) → rg 0 63 p0) ∧ (r = 0 → rg 1 2147483647 n12_5) ∧ (r = (-1) → rg 1 2147483647 n12_5) ∧ (¬ r = (-2) → rg 1 2147483647 n12_5) ∧ rg 0 256 (u.1 0) ∧ True) (fun u t => va_P G vwCl ((fun u : SU => [(a0, .inr (10, [.ref a1, .ref a3, .ref a11, .ref a25, .ref a68, .ref a69, .ref a77, .ref a82, .ref a84, .ref a88, .ref a91])), (a11, .inr (4, [.ref a12, .ref a19, .ref a24, .int n11_3])), (a12, .inr (9, [.ref a13, .ref a15, .ref a16, .ref a17, .ref a18, .int n12_5, .int n12_6])), (a13, .inr (0, [.ref a14, .int n13_1])), (a15, .inl (ct 0, 8, .inl f15)), (a16, .inl (ct 0, 8, .inl f16)), (a88, .inr (1, [.ref a89, .ref a90, .int (u.1 0)])), (a89, .inl (ct 0, 256, .inl (u.2.1 0))), (a90, .inl (ct 0, 256, .inl (u.2.1 1)))]) u) t.heap) (aset [(a0, .inr (10, [.ref a1, .ref a3, .ref a11, .ref a25, .ref a68, .ref a69, .ref a77, .ref a82, .ref a84, .ref a88, .ref a91])), (a11, .inr (4, [.ref a12, .ref a19, .ref a24, .int n11_3])), (a12, .inr (9, [.ref a13, .ref a15, .ref a16, .ref a17, .ref a18, .int n12_5, .int n12_6])), (a13, .inr (0, [.ref a14, .int n13_1])), (a15, .inl (ct 0, 8, .inl f15)), (a16, .inl (ct 0, 8, .inl f16)), (a88, .inr (1, [.ref a89, .ref a90, .int n88_2])), (a89, .inl (ct 0, 256, .inl f89)), (a90, .inl (ct 0, 256, .inl f90))])) 0 0 (aset [(a0, .inr (10, [.ref a1, .ref a3, .ref a11, .ref a25, .ref a68, .ref a69, .ref a77, .ref a82, .ref a84, .ref a88, .ref a91])), (a11, .inr (4, [.ref a12, .ref a19, .ref a24, .int n11_3])), (a12, .inr (9, [.ref a13, .ref a15, .ref a16, .ref a17, .ref a18, .int n12_5, .int n12_6])), (a13, .inr (0, [.ref a14, .int n13_1])), (a15, .inl (ct 0, 8, .inl f15)), (a16, .inl (ct 0, 8, .inl f16)), (a88, .inr (1, [.ref a89, .ref a90, .int n88_2])), (a89, .inl (ct 0, 256, .inl f89)), (a90, .inl (ct 0, 256, .inl f90))]) := by
  refine Met.ofW (cc := cX10_buy) (maxL := 3) (ret := (some .int)) (by decide) rfl ?_
  intro p e s m args below meth c s₁ B hml hv
  obtain ⟨rfl, hP, hK, hD0⟩ := hv
  have hx := B.exec
  have hb := B.bytes
  have hr := B.returns
  have hts := atoms_spec (ws := wsX10_buy) B.pre
  have hown : s.vm.findClass RX10 = some m.cls := findClass_of_methodNamed B.named
  have hlocks := B.notSynchronized
  have hD := hD0.aself
  generalize hAe : aset [(a0, .inr (10, [.ref a1, .ref a3, .ref a11, .ref a25, .ref a68, .ref a69, .ref a77, .ref a82, .ref a84, .ref a88, .ref a91])), (a11, .inr (4, [.ref a12, .ref a19, .ref a24, .int n11_3])), (a12, .inr (9, [.ref a13, .ref a15, .ref a16, .ref a17, .ref a18, .int n12_5, .int n12_6])), (a13, .inr (0, [.ref a14, .int n13_1])), (a15, .inl (ct 0, 8, .inl f15)), (a16, .inl (ct 0, 8, .inl f16)), (a88, .inr (1, [.ref a89, .ref a90, .int n88_2])), (a89, .inl (ct 0, 256, .inl f89)), (a90, .inl (ct 0, 256, .inl f90))] = A at hD ⊢
  have hS : va_S A s.heap s.heap [] := va_S.rf
  have hl := lv_entry ([.ref a0, .int p0]) (n := 3) (Nat.le_of_ble_eq_true rfl)
  rw [lg_entry_eq]
  generalize (lg_sl ([.ref a0, .int p0]) ++ List.replicate (3 - (lg_sl ([.ref a0, .int p0])).length) Slot.unset).toArray = ls at hl ⊢
  have hl : lv_has ls 3 [(0, .ref a0), (1, .int p0)] := hl
  refine lv_aload_n hx hb dX10_buy_0 rfl (lv_at hl 0 rfl) ?_
  refine lv_iload_n hx hb dX10_buy_1 rfl (lv_at hl 1 rfl) ?_
  refine wj_calli (wr := []) (w1 := (fun u : SU => [(a0, .inr (10, [.ref a1, .ref a3, .ref a11, .ref a25, .ref a68, .ref a69, .ref a77, .ref a82, .ref a84, .ref a88, .ref a91])), (a11, .inr (4, [.ref a12, .ref a19, .ref a24, .int n11_3])), (a12, .inr (9, [.ref a13, .ref a15, .ref a16, .ref a17, .ref a18, .int n12_5, .int n12_6])), (a13, .inr (0, [.ref a14, .int n13_1])), (a15, .inl (ct 0, 8, .inl f15)), (a16, .inl (ct 0, 8, .inl f16)), (a88, .inr (1, [.ref a89, .ref a90, .int (u.1 0)])), (a89, .inl (ct 0, 256, .inl (u.2.1 0))), (a90, .inl (ct 0, 256, .inl (u.2.1 1)))])) (va_runV (As := [.int p0]) (rest := []) ⟨hx, hb, hml, hown, hts⟩ (a_X10_bought l G ct a0 a1 a3 a11 a25 a68 a69 a77 a82 a84 a88 a91 a12 a19 a24 n11_3 a13 a15 a16 a17 a18 n12_5 n12_6 a14 n13_1 f15 f16 a89 a90 n88_2 f89 f90 p0 hp_n13_1 hp_n88_2) (cwV 1 hts gX10_buy_X10_bought rfl rfl rfl (by decide +kernel) ⟨Nat.le_of_ble_eq_true rfl, Nat.le_of_ble_eq_true rfl⟩) (wr_preV 10 0 hK (hP.sub [0, 1, 2, 3, 4, 5, 6, 7, 8] rfl) (hD.sub [0, 1, 2, 3, 4, 5, 6, 7, 8] (by decide) rfl) rfl rfl) rfl rfl hl.1 rfl (lv_room (Nat.le_of_ble_eq_true rfl)) dX10_buy_2 ⟨Nat.zero_le _, Nat.zero_le _⟩) hS hP hD [0, 1, 2, 3, 4, 5, 6, 7, 8] [] rfl rfl (by decide) (fun _ => rfl) (fun r2 ur2 H locs wr2 hP hD hS => ?_)
  have hP : va_P G vwCl [(a0, .inr (10, [.ref a1, .ref a3, .ref a11, .ref a25, .ref a68, .ref a69, .ref a77, .ref a82, .ref a84, .ref a88, .ref a91])), (a11, .inr (4, [.ref a12, .ref a19, .ref a24, .int n11_3])), (a12, .inr (9, [.ref a13, .ref a15, .ref a16, .ref a17, .ref a18, .int n12_5, .int n12_6])), (a13, .inr (0, [.ref a14, .int n13_1])), (a15, .inl (ct 0, 8, .inl f15)), (a16, .inl (ct 0, 8, .inl f16)), (a88, .inr (1, [.ref a89, .ref a90, .int (ur2.1 0)])), (a89, .inl (ct 0, 256, .inl (ur2.2.1 0))), (a90, .inl (ct 0, 256, .inl (ur2.2.1 1)))] H := hP.sub [0, 1, 2, 3, 4, 5, 6, 7, 8] rfl
  have hD : va_D A [(a0, .inr (10, [.ref a1, .ref a3, .ref a11, .ref a25, .ref a68, .ref a69, .ref a77, .ref a82, .ref a84, .ref a88, .ref a91])), (a11, .inr (4, [.ref a12, .ref a19, .ref a24, .int n11_3])), (a12, .inr (9, [.ref a13, .ref a15, .ref a16, .ref a17, .ref a18, .int n12_5, .int n12_6])), (a13, .inr (0, [.ref a14, .int n13_1])), (a15, .inl (ct 0, 8, .inl f15)), (a16, .inl (ct 0, 8, .inl f16)), (a88, .inr (1, [.ref a89, .ref a90, .int (ur2.1 0)])), (a89, .inl (ct 0, 256, .inl (ur2.2.1 0))), (a90, .inl (ct 0, 256, .inl (ur2.2.1 1)))] := hD.sub [0, 1, 2, 3, 4, 5, 6, 7, 8] (by decide) rfl
  obtain ⟨p_1, p_2, p_3, p_4, p_5, p_6, p_7, p_8, -⟩ := wr2
  refine lv_istore_n (lv' := [(2, .int r2), (0, .ref a0), (1, .int p0)]) hx hb dX10_buy_5 rfl hl (by decide) rfl (fun ls hl => ?_)
  refine lv_iload_n hx hb dX10_buy_6 rfl (lv_at hl 0 rfl) ?_
  refine lv_if_ge (tgt := 14) hx hb dX10_buy_7 (by decide) (fun c7 => ?_) (fun c7 => ?_)
  · have h_9 : rg 0 255 r2 := r_le_r_i c7 (rgn 0 (x := 0) (by decide)) p_1
    have h_10 : rg 0 63 p0 := (p_4 (rne h_9 (y := (-2)) (c := (-2)) (by decide) (by decide)))
    have h_11 : rg 1 2147483647 n12_5 := (p_7 (rne h_9 (y := (-2)) (c := (-2)) (by decide) (by decide)))
    refine lv_aload_n hx hb dX10_buy_14 rfl (lv_at hl 1 rfl) ?_
    refine va_get (D := G) (ci := 10) (v := .ref a88) (C := RX10) (T := TX10) (N := 11) hx hb hts (by decide +kernel) hown hK.1 hP 0 rfl rfl 9 (by decide) (hts (.fieldLink RX10 77 "CardHolder" "choice" "LCardHolder$Choice;") (by decide +kernel)) (fun _ h9 => h9) rfl dX10_buy_15 ?_
    refine lv_iload_n hx hb dX10_buy_18 rfl (lv_at hl 0 rfl) ?_
    refine ro_calli (va_runV (As := [.int r2]) (rest := []) ⟨hx, hb, hml, hown, hts⟩ (a_X1_costOf l G ct a88 a89 a90 (ur2.1 0) (ur2.2.1 0) r2 p_8) (cwV 1 hts gX10_buy_X1_costOf rfl rfl rfl (by decide +kernel) ⟨Nat.le_of_ble_eq_true rfl, Nat.le_of_ble_eq_true rfl⟩) (ro_preV 1 0 hK (hP.sub [6, 7] rfl) rfl rfl) rfl rfl hl.1 rfl (lv_room (Nat.le_of_ble_eq_true rfl)) dX10_buy_19 ⟨Nat.zero_le _, Nat.zero_le _⟩) hS hP (fun r19 H locs wr19 hP hS => ?_)
    obtain ⟨p_12, p_13, p_14, p_15, -⟩ := wr19
    exact W.iret (v := r19) hx hb hr (fun t ht hW => ⟨⟨r19, (fun k => ([ur2.1 0] : List Int32).getD k 0, fun k => ([ur2.2.1 0, ur2.2.1 1] : List (Nat → Int32)).getD k (fun _ => 0), fun k => ([] : List (Nat → Int64)).getD k (fun _ => 0)), rfl, ⟨(fun _ => h_10), (fun _ => h_10), (fun _ => h_10), (fun _ => h_11), (fun _ => h_11), (fun _ => h_11), p_8, trivial⟩, hp_at ht hP⟩, hS.F ht⟩) hS.2.2 dX10_buy_22
  · have h_16 : rg (-2) (-1) r2 := r_lt_l_i (nle_i c7) p_1 (rgn 0 (x := 0) (by decide)) (by decide)
    refine lv_iload_n hx hb dX10_buy_10 rfl (lv_at hl 0 rfl) ?_
    refine lv_goto (tgt := 22) hx hb dX10_buy_11 (by decide) ?_
    exact W.iret (v := r2) hx hb hr (fun t ht hW => ⟨⟨r2, (fun k => ([ur2.1 0] : List Int32).getD k 0, fun k => ([ur2.2.1 0, ur2.2.1 1] : List (Nat → Int32)).getD k (fun _ => 0), fun k => ([] : List (Nat → Int64)).getD k (fun _ => 0)), rfl, ⟨(fun hq => rg_w (p_2 hq) (by decide)), (fun hq => rg_w (p_3 hq) (by decide)), (fun hq => rg_w (p_4 hq) (by decide)), (fun hq => rg_w (p_5 hq) (by decide)), (fun hq => rg_w (p_6 hq) (by decide)), (fun hq => rg_w (p_7 hq) (by decide)), p_8, trivial⟩, hp_at ht hP⟩, hS.F ht⟩) hS.2.2 dX10_buy_22

set_option maxHeartbeats 4000000 in
set_option maxRecDepth 100000 in
theorem a_X10_hired (l : Launch) (G : va_G) (ct : Nat → ClassId) (a0 : Nat) (a1 : Nat) (a3 : Nat) (a11 : Nat) (a25 : Nat) (a68 : Nat) (a69 : Nat) (a77 : Nat) (a82 : Nat) (a84 : Nat) (a88 : Nat) (a91 : Nat) (a12 : Nat) (a19 : Nat) (a24 : Nat) (n11_3 : Int32) (a13 : Nat) (a15 : Nat) (a16 : Nat) (a17 : Nat) (a18 : Nat) (n12_5 : Int32) (n12_6 : Int32) (a14 : Nat) (n13_1 : Int32) (f15 : Nat → Int32) (f16 : Nat → Int32) (a89 : Nat) (a90 : Nat) (n88_2 : Int32) (f89 : Nat → Int32) (f90 : Nat → Int32) (p0 : Int32) (hp_n13_1 : rg 0 8 n13_1) (hp_n88_2 : rg 0 256 n88_2) : Met l yX10_hired wsX10_hired ({ frames := 3, cells := 0, slots := 0, locals := 64 }) (va_Pc [.ref a0, .int p0] (wrP G ct [(a0, .inr (10, [.ref a1, .ref a3, .ref a11, .ref a25, .ref a68, .ref a69, .ref a77, .ref a82, .ref a84, .ref a88, .ref a91])), (a11, .inr (4, [.ref a12, .ref a19, .ref a24, .int n11_3])), (a12, .inr (9, [.ref a13, .ref a15, .ref a16, .ref a17, .ref a18, .int n12_5, .int n12_6])), (a13, .inr (0, [.ref a14, .int n13_1])), (a15, .inl (ct 0, 8, .inl f15)), (a16, .inl (ct 0, 8, .inl f16)), (a88, .inr (1, [.ref a89, .ref a90, .int n88_2])), (a89, .inl (ct 0, 256, .inl f89)), (a90, .inl (ct 0, 256, .inl f90))])) (va_Qi (fun (r : Int32) (u : SU) => rg (-2) 255 r ∧ (r = 0 → rg 0 2000 p0) ∧ (¬ r = (-2) → rg 0 2000 p0) ∧ (r = 0 → rg 1 2147483647 n12_5) ∧ (¬ r = (-2) → rg 1 2147483647 n12_5) ∧ rg 0 256 (u.1 0) ∧ True) (fun u t => va_P G vwCl ((fun u : SU => [(a0, .inr (10, [.ref a1, .ref a3, .ref a11, .ref a25, .ref a68, .ref a69, .ref a77, .ref a82, .ref a84, .ref a88, .ref a91])), (a11, .inr (4, [.ref a12, .ref a19, .ref a24, .int n11_3])), (a12, .inr (9, [.ref a13, .ref a15, .ref a16, .ref a17, .ref a18, .int n12_5, .int n12_6])), (a13, .inr (0, [.ref a14, .int n13_1])), (a15, .inl (ct 0, 8, .inl f15)), (a16, .inl (ct 0, 8, .inl f16)), (a88, .inr (1, [.ref a89, .ref a90, .int (u.1 0)])), (a89, .inl (ct 0, 256, .inl (u.2.1 0))), (a90, .inl (ct 0, 256, .inl (u.2.1 1)))]) u) t.heap) (aset [(a0, .inr (10, [.ref a1, .ref a3, .ref a11, .ref a25, .ref a68, .ref a69, .ref a77, .ref a82, .ref a84, .ref a88, .ref a91])), (a11, .inr (4, [.ref a12, .ref a19, .ref a24, .int n11_3])), (a12, .inr (9, [.ref a13, .ref a15, .ref a16, .ref a17, .ref a18, .int n12_5, .int n12_6])), (a13, .inr (0, [.ref a14, .int n13_1])), (a15, .inl (ct 0, 8, .inl f15)), (a16, .inl (ct 0, 8, .inl f16)), (a88, .inr (1, [.ref a89, .ref a90, .int n88_2])), (a89, .inl (ct 0, 256, .inl f89)), (a90, .inl (ct 0, 256, .inl f90))])) 0 0 (aset [(a0, .inr (10, [.ref a1, .ref a3, .ref a11, .ref a25, .ref a68, .ref a69, .ref a77, .ref a82, .ref a84, .ref a88, .ref a91])), (a11, .inr (4, [.ref a12, .ref a19, .ref a24, .int n11_3])), (a12, .inr (9, [.ref a13, .ref a15, .ref a16, .ref a17, .ref a18, .int n12_5, .int n12_6])), (a13, .inr (0, [.ref a14, .int n13_1])), (a15, .inl (ct 0, 8, .inl f15)), (a16, .inl (ct 0, 8, .inl f16)), (a88, .inr (1, [.ref a89, .ref a90, .int n88_2])), (a89, .inl (ct 0, 256, .inl f89)), (a90, .inl (ct 0, 256, .inl f90))]) := by
  refine Met.ofW (cc := cX10_hired) (maxL := 2) (ret := (some .int)) (by decide) rfl ?_
  intro p e s m args below meth c s₁ B hml hv
  obtain ⟨rfl, hP, hK, hD0⟩ := hv
  have hx := B.exec
  have hb := B.bytes
  have hr := B.returns
  have hts := atoms_spec (ws := wsX10_hired) B.pre
  have hown : s.vm.findClass RX10 = some m.cls := findClass_of_methodNamed B.named
  have hlocks := B.notSynchronized
  have hD := hD0.aself
  generalize hAe : aset [(a0, .inr (10, [.ref a1, .ref a3, .ref a11, .ref a25, .ref a68, .ref a69, .ref a77, .ref a82, .ref a84, .ref a88, .ref a91])), (a11, .inr (4, [.ref a12, .ref a19, .ref a24, .int n11_3])), (a12, .inr (9, [.ref a13, .ref a15, .ref a16, .ref a17, .ref a18, .int n12_5, .int n12_6])), (a13, .inr (0, [.ref a14, .int n13_1])), (a15, .inl (ct 0, 8, .inl f15)), (a16, .inl (ct 0, 8, .inl f16)), (a88, .inr (1, [.ref a89, .ref a90, .int n88_2])), (a89, .inl (ct 0, 256, .inl f89)), (a90, .inl (ct 0, 256, .inl f90))] = A at hD ⊢
  have hS : va_S A s.heap s.heap [] := va_S.rf
  have hl := lv_entry ([.ref a0, .int p0]) (n := 2) (Nat.le_of_ble_eq_true rfl)
  rw [lg_entry_eq]
  generalize (lg_sl ([.ref a0, .int p0]) ++ List.replicate (2 - (lg_sl ([.ref a0, .int p0])).length) Slot.unset).toArray = ls at hl ⊢
  have hl : lv_has ls 2 [(0, .ref a0), (1, .int p0)] := hl
  refine lv_aload_n hx hb dX10_hired_0 rfl (lv_at hl 0 rfl) ?_
  refine ro_calli (va_runV (As := []) (rest := []) ⟨hx, hb, hml, hown, hts⟩ (a_X10_hasCity l G ct a0 a1 a3 a11 a25 a68 a69 a77 a82 a84 a88 a91 a12 a19 a24 n11_3 a13 a15 a16 a17 a18 n12_5 n12_6) (cwV 0 hts gX10_hired_X10_hasCity rfl rfl rfl (by decide +kernel) ⟨Nat.le_of_ble_eq_true rfl, Nat.le_of_ble_eq_true rfl⟩) (ro_preV 10 0 hK (hP.sub [0, 1, 2] rfl) rfl rfl) rfl rfl hl.1 rfl (lv_room (Nat.le_of_ble_eq_true rfl)) dX10_hired_1 ⟨Nat.zero_le _, Nat.zero_le _⟩) hS hP (fun r1 H locs wr1 hP hS => ?_)
  obtain ⟨p_1, p_2, p_3, -⟩ := wr1
  refine lv_if_eq (tgt := 18) hx hb dX10_hired_4 (by decide) (fun c4 => ?_) (fun c4 => ?_)
  · have h_4 : rg 0 0 r1 := r_eq_l_i (e := 0) (f := 0) c4 p_1 (rgn 0 (x := 0) (by decide)) (by decide)
    have h_5 : rg (-2147483648) 0 n12_5 := (p_3 (req h_4 (y := 0) (by decide)))
    refine lv_bipush (v := (-2)) hx hb dX10_hired_18 (by decide) ?_
    exact W.iret (v := (-2)) hx hb hr (fun t ht hW => ⟨⟨(-2), (fun k => ([n88_2] : List Int32).getD k 0, fun k => ([f89, f90] : List (Nat → Int32)).getD k (fun _ => 0), fun k => ([] : List (Nat → Int64)).getD k (fun _ => 0)), rfl, ⟨(rg_w (c := (-2)) (d := 255) (rgn (-2) (x := (-2)) (by decide)) (by decide)), (fun hq => absurd hq (rne (rgn (-2) (x := (-2)) (by decide)) (y := 0) (c := 0) (by decide) (by decide))), (fun hq => absurd (req (rgn (-2) (x := (-2)) (by decide)) (y := (-2)) (by decide)) hq), (fun hq => absurd hq (rne (rgn (-2) (x := (-2)) (by decide)) (y := 0) (c := 0) (by decide) (by decide))), (fun hq => absurd (req (rgn (-2) (x := (-2)) (by decide)) (y := (-2)) (by decide)) hq), hp_n88_2, trivial⟩, hp_at ht hP⟩, hS.F ht⟩) hS.2.2 dX10_hired_20
  · have h_6 : rg 1 1 r1 := r_ne_lo_i c4 p_1 (by decide) (by decide)
    have h_7 : rg 1 2147483647 n12_5 := (p_2 (rne h_6 (y := 0) (c := 0) (by decide) (by decide)))
    refine lv_iload_n hx hb dX10_hired_7 rfl (lv_at hl 1 rfl) ?_
    refine lv_if_lt (tgt := 18) hx hb dX10_hired_8 (by decide) (fun c8 => ?_) (fun c8 => ?_)
    · have h_8 : rg (-2147483648) (-1) p0 := r_lt_l_i c8 (rg_t p0) (rgn 0 (x := 0) (by decide)) (by decide)
      refine lv_bipush (v := (-2)) hx hb dX10_hired_18 (by decide) ?_
      exact W.iret (v := (-2)) hx hb hr (fun t ht hW => ⟨⟨(-2), (fun k => ([n88_2] : List Int32).getD k 0, fun k => ([f89, f90] : List (Nat → Int32)).getD k (fun _ => 0), fun k => ([] : List (Nat → Int64)).getD k (fun _ => 0)), rfl, ⟨(rg_w (c := (-2)) (d := 255) (rgn (-2) (x := (-2)) (by decide)) (by decide)), (fun hq => absurd hq (rne (rgn (-2) (x := (-2)) (by decide)) (y := 0) (c := 0) (by decide) (by decide))), (fun hq => absurd (req (rgn (-2) (x := (-2)) (by decide)) (y := (-2)) (by decide)) hq), (fun _ => h_7), (fun _ => h_7), hp_n88_2, trivial⟩, hp_at ht hP⟩, hS.F ht⟩) hS.2.2 dX10_hired_20
    · have h_9 : rg 0 2147483647 p0 := r_le_r_i (nlt_i c8) (rgn 0 (x := 0) (by decide)) (rg_t p0)
      refine lv_iload_n hx hb dX10_hired_11 rfl (lv_at hl 1 rfl) ?_
      refine lv_sipush (v := 2000) hx hb dX10_hired_12 (by decide) ?_
      refine lv_icmp_le (tgt := 21) hx hb dX10_hired_15 (by decide) (fun c15 => ?_) (fun c15 => ?_)
      · have h_10 : rg 0 2000 p0 := r_le_l_i c15 h_9 (rgn 2000 (x := 2000) (by decide))
        refine lv_aload_n hx hb dX10_hired_21 rfl (lv_at hl 0 rfl) ?_
        refine va_get (D := G) (ci := 10) (v := .ref a88) (C := RX10) (T := TX10) (N := 11) hx hb hts (by decide +kernel) hown hK.1 hP 0 rfl rfl 9 (by decide) (hts (.fieldLink RX10 77 "CardHolder" "choice" "LCardHolder$Choice;") (by decide +kernel)) (fun _ h9 => h9) rfl dX10_hired_22 ?_
        refine lv_aload_n hx hb dX10_hired_25 rfl (lv_at hl 0 rfl) ?_
        refine va_get (D := G) (ci := 10) (v := .ref a11) (C := RX10) (T := TX10) (N := 11) hx hb hts (by decide +kernel) hown hK.1 hP 0 rfl rfl 2 (by decide) (hts (.fieldLink RX10 28 "CardHolder" "play" "LCardHolder$Play;") (by decide +kernel)) (fun _ h9 => h9) rfl dX10_hired_26 ?_
        refine wj_callv (wr := [(a0, .inr (10, [.ref a1, .ref a3, .ref a11, .ref a25, .ref a68, .ref a69, .ref a77, .ref a82, .ref a84, .ref a88, .ref a91]))]) (w1 := (fun u : SU => [(a88, .inr (1, [.ref a89, .ref a90, .int (u.1 0)])), (a89, .inl (ct 0, 256, .inl (u.2.1 0))), (a90, .inl (ct 0, 256, .inl (u.2.1 1))), (a11, .inr (4, [.ref a12, .ref a19, .ref a24, .int n11_3])), (a12, .inr (9, [.ref a13, .ref a15, .ref a16, .ref a17, .ref a18, .int n12_5, .int n12_6])), (a13, .inr (0, [.ref a14, .int n13_1])), (a15, .inl (ct 0, 8, .inl f15)), (a16, .inl (ct 0, 8, .inl f16))])) (va_runV (As := [.ref a11]) (rest := []) ⟨hx, hb, hml, hown, hts⟩ (a_X1_takePersons l G ct a88 a89 a90 n88_2 f89 f90 a11 a12 a19 a24 n11_3 a13 a15 a16 a17 a18 n12_5 n12_6 a14 n13_1 f15 f16 hp_n88_2 hp_n13_1) (cwV 1 hts gX10_hired_X1_takePersons rfl rfl rfl (by decide +kernel) ⟨Nat.le_of_ble_eq_true rfl, Nat.le_of_ble_eq_true rfl⟩) (wr_preV 1 0 hK (hP.sub [6, 7, 8, 1, 2, 3, 4, 5] rfl) (hD.sub [6, 7, 8, 1, 2, 3, 4, 5] (by decide) rfl) rfl rfl) rfl rfl hl.1 rfl (lv_room (Nat.le_of_ble_eq_true rfl)) dX10_hired_29 ⟨Nat.zero_le _, Nat.zero_le _⟩) hS hP hD [6, 7, 8, 1, 2, 3, 4, 5] [0] rfl rfl (by decide) (fun _ => rfl) (fun ur29 H locs wr29 hP hD hS => ?_)
        have hP : va_P G vwCl [(a0, .inr (10, [.ref a1, .ref a3, .ref a11, .ref a25, .ref a68, .ref a69, .ref a77, .ref a82, .ref a84, .ref a88, .ref a91])), (a11, .inr (4, [.ref a12, .ref a19, .ref a24, .int n11_3])), (a12, .inr (9, [.ref a13, .ref a15, .ref a16, .ref a17, .ref a18, .int n12_5, .int n12_6])), (a13, .inr (0, [.ref a14, .int n13_1])), (a15, .inl (ct 0, 8, .inl f15)), (a16, .inl (ct 0, 8, .inl f16)), (a88, .inr (1, [.ref a89, .ref a90, .int (ur29.1 0)])), (a89, .inl (ct 0, 256, .inl (ur29.2.1 0))), (a90, .inl (ct 0, 256, .inl (ur29.2.1 1)))] H := hP.sub [0, 4, 5, 6, 7, 8, 1, 2, 3] rfl
        have hD : va_D A [(a0, .inr (10, [.ref a1, .ref a3, .ref a11, .ref a25, .ref a68, .ref a69, .ref a77, .ref a82, .ref a84, .ref a88, .ref a91])), (a11, .inr (4, [.ref a12, .ref a19, .ref a24, .int n11_3])), (a12, .inr (9, [.ref a13, .ref a15, .ref a16, .ref a17, .ref a18, .int n12_5, .int n12_6])), (a13, .inr (0, [.ref a14, .int n13_1])), (a15, .inl (ct 0, 8, .inl f15)), (a16, .inl (ct 0, 8, .inl f16)), (a88, .inr (1, [.ref a89, .ref a90, .int (ur29.1 0)])), (a89, .inl (ct 0, 256, .inl (ur29.2.1 0))), (a90, .inl (ct 0, 256, .inl (ur29.2.1 1)))] := hD.sub [0, 4, 5, 6, 7, 8, 1, 2, 3] (by decide) rfl
        obtain ⟨p_11, -⟩ := wr29
        refine lv_aload_n hx hb dX10_hired_32 rfl (lv_at hl 0 rfl) ?_
        refine va_get (D := G) (ci := 10) (v := .ref a88) (C := RX10) (T := TX10) (N := 11) hx hb hts (by decide +kernel) hown hK.1 hP 0 rfl rfl 9 (by decide) (hts (.fieldLink RX10 77 "CardHolder" "choice" "LCardHolder$Choice;") (by decide +kernel)) (fun _ h9 => h9) rfl dX10_hired_33 ?_
        refine lv_iload_n hx hb dX10_hired_36 rfl (lv_at hl 1 rfl) ?_
        refine ro_calli (va_runV (As := [.int p0]) (rest := []) ⟨hx, hb, hml, hown, hts⟩ (a_X1_richest l G ct a88 a89 a90 (ur29.1 0) (ur29.2.1 0) (ur29.2.1 1) p0 p_11) (cwV 1 hts gX10_hired_X1_richest rfl rfl rfl (by decide +kernel) ⟨Nat.le_of_ble_eq_true rfl, Nat.le_of_ble_eq_true rfl⟩) (ro_preV 1 0 hK (hP.sub [6, 7, 8] rfl) rfl rfl) rfl rfl hl.1 rfl (lv_room (Nat.le_of_ble_eq_true rfl)) dX10_hired_37 ⟨Nat.zero_le _, Nat.zero_le _⟩) hS hP (fun r37 H locs wr37 hP hS => ?_)
        obtain ⟨p_12, -⟩ := wr37
        exact W.iret (v := r37) hx hb hr (fun t ht hW => ⟨⟨r37, (fun k => ([ur29.1 0] : List Int32).getD k 0, fun k => ([ur29.2.1 0, ur29.2.1 1] : List (Nat → Int32)).getD k (fun _ => 0), fun k => ([] : List (Nat → Int64)).getD k (fun _ => 0)), rfl, ⟨(rg_w (c := (-2)) (d := 255) p_12 (by decide)), (fun _ => h_10), (fun _ => h_10), (fun _ => h_7), (fun _ => h_7), p_11, trivial⟩, hp_at ht hP⟩, hS.F ht⟩) hS.2.2 dX10_hired_40
      · have h_13 : rg 2001 2147483647 p0 := r_lt_r_i (nle_i c15) (rgn 2000 (x := 2000) (by decide)) h_9 (by decide)
        refine lv_bipush (v := (-2)) hx hb dX10_hired_18 (by decide) ?_
        exact W.iret (v := (-2)) hx hb hr (fun t ht hW => ⟨⟨(-2), (fun k => ([n88_2] : List Int32).getD k 0, fun k => ([f89, f90] : List (Nat → Int32)).getD k (fun _ => 0), fun k => ([] : List (Nat → Int64)).getD k (fun _ => 0)), rfl, ⟨(rg_w (c := (-2)) (d := 255) (rgn (-2) (x := (-2)) (by decide)) (by decide)), (fun hq => absurd hq (rne (rgn (-2) (x := (-2)) (by decide)) (y := 0) (c := 0) (by decide) (by decide))), (fun hq => absurd (req (rgn (-2) (x := (-2)) (by decide)) (y := (-2)) (by decide)) hq), (fun _ => h_7), (fun _ => h_7), hp_n88_2, trivial⟩, hp_at ht hP⟩, hS.F ht⟩) hS.2.2 dX10_hired_20

set_option maxHeartbeats 4000000 in
set_option maxRecDepth 100000 in
theorem a_X10_deeds (l : Launch) (G : va_G) (ct : Nat → ClassId) (a0 : Nat) (a1 : Nat) (a3 : Nat) (a11 : Nat) (a25 : Nat) (a68 : Nat) (a69 : Nat) (a77 : Nat) (a82 : Nat) (a84 : Nat) (a88 : Nat) (a91 : Nat) (a12 : Nat) (a19 : Nat) (a24 : Nat) (n11_3 : Int32) (a13 : Nat) (a15 : Nat) (a16 : Nat) (a17 : Nat) (a18 : Nat) (n12_5 : Int32) (n12_6 : Int32) (a14 : Nat) (n13_1 : Int32) (f15 : Nat → Int32) (f16 : Nat → Int32) (a89 : Nat) (a90 : Nat) (n88_2 : Int32) (f89 : Nat → Int32) (f90 : Nat → Int32) (p0 : Int32) (hp_n13_1 : rg 0 8 n13_1) (hp_n88_2 : rg 0 256 n88_2) : Met l yX10_deeds wsX10_deeds ({ frames := 4, cells := 0, slots := 0, locals := 85 }) (va_Pc [.ref a0, .int p0] (wrP G ct [(a0, .inr (10, [.ref a1, .ref a3, .ref a11, .ref a25, .ref a68, .ref a69, .ref a77, .ref a82, .ref a84, .ref a88, .ref a91])), (a11, .inr (4, [.ref a12, .ref a19, .ref a24, .int n11_3])), (a12, .inr (9, [.ref a13, .ref a15, .ref a16, .ref a17, .ref a18, .int n12_5, .int n12_6])), (a13, .inr (0, [.ref a14, .int n13_1])), (a15, .inl (ct 0, 8, .inl f15)), (a16, .inl (ct 0, 8, .inl f16)), (a88, .inr (1, [.ref a89, .ref a90, .int n88_2])), (a89, .inl (ct 0, 256, .inl f89)), (a90, .inl (ct 0, 256, .inl f90))])) (va_Qi (fun (r : Int32) (u : SU) => rg (-2) 63 r ∧ (r = 0 → rg 0 2000 p0) ∧ (¬ r = (-2) → rg 0 2000 p0) ∧ (r = 0 → rg 1 2147483647 n12_5) ∧ (¬ r = (-2) → rg 1 2147483647 n12_5) ∧ rg 0 256 (u.1 0) ∧ True) (fun u t => va_P G vwCl ((fun u : SU => [(a0, .inr (10, [.ref a1, .ref a3, .ref a11, .ref a25, .ref a68, .ref a69, .ref a77, .ref a82, .ref a84, .ref a88, .ref a91])), (a11, .inr (4, [.ref a12, .ref a19, .ref a24, .int n11_3])), (a12, .inr (9, [.ref a13, .ref a15, .ref a16, .ref a17, .ref a18, .int n12_5, .int n12_6])), (a13, .inr (0, [.ref a14, .int n13_1])), (a15, .inl (ct 0, 8, .inl f15)), (a16, .inl (ct 0, 8, .inl f16)), (a88, .inr (1, [.ref a89, .ref a90, .int (u.1 0)])), (a89, .inl (ct 0, 256, .inl (u.2.1 0))), (a90, .inl (ct 0, 256, .inl (u.2.1 1)))]) u) t.heap) (aset [(a0, .inr (10, [.ref a1, .ref a3, .ref a11, .ref a25, .ref a68, .ref a69, .ref a77, .ref a82, .ref a84, .ref a88, .ref a91])), (a11, .inr (4, [.ref a12, .ref a19, .ref a24, .int n11_3])), (a12, .inr (9, [.ref a13, .ref a15, .ref a16, .ref a17, .ref a18, .int n12_5, .int n12_6])), (a13, .inr (0, [.ref a14, .int n13_1])), (a15, .inl (ct 0, 8, .inl f15)), (a16, .inl (ct 0, 8, .inl f16)), (a88, .inr (1, [.ref a89, .ref a90, .int n88_2])), (a89, .inl (ct 0, 256, .inl f89)), (a90, .inl (ct 0, 256, .inl f90))])) 0 0 (aset [(a0, .inr (10, [.ref a1, .ref a3, .ref a11, .ref a25, .ref a68, .ref a69, .ref a77, .ref a82, .ref a84, .ref a88, .ref a91])), (a11, .inr (4, [.ref a12, .ref a19, .ref a24, .int n11_3])), (a12, .inr (9, [.ref a13, .ref a15, .ref a16, .ref a17, .ref a18, .int n12_5, .int n12_6])), (a13, .inr (0, [.ref a14, .int n13_1])), (a15, .inl (ct 0, 8, .inl f15)), (a16, .inl (ct 0, 8, .inl f16)), (a88, .inr (1, [.ref a89, .ref a90, .int n88_2])), (a89, .inl (ct 0, 256, .inl f89)), (a90, .inl (ct 0, 256, .inl f90))]) := by
  refine Met.ofW (cc := cX10_deeds) (maxL := 3) (ret := (some .int)) (by decide) rfl ?_
  intro p e s m args below meth c s₁ B hml hv
  obtain ⟨rfl, hP, hK, hD0⟩ := hv
  have hx := B.exec
  have hb := B.bytes
  have hr := B.returns
  have hts := atoms_spec (ws := wsX10_deeds) B.pre
  have hown : s.vm.findClass RX10 = some m.cls := findClass_of_methodNamed B.named
  have hlocks := B.notSynchronized
  have hD := hD0.aself
  generalize hAe : aset [(a0, .inr (10, [.ref a1, .ref a3, .ref a11, .ref a25, .ref a68, .ref a69, .ref a77, .ref a82, .ref a84, .ref a88, .ref a91])), (a11, .inr (4, [.ref a12, .ref a19, .ref a24, .int n11_3])), (a12, .inr (9, [.ref a13, .ref a15, .ref a16, .ref a17, .ref a18, .int n12_5, .int n12_6])), (a13, .inr (0, [.ref a14, .int n13_1])), (a15, .inl (ct 0, 8, .inl f15)), (a16, .inl (ct 0, 8, .inl f16)), (a88, .inr (1, [.ref a89, .ref a90, .int n88_2])), (a89, .inl (ct 0, 256, .inl f89)), (a90, .inl (ct 0, 256, .inl f90))] = A at hD ⊢
  have hS : va_S A s.heap s.heap [] := va_S.rf
  have hl := lv_entry ([.ref a0, .int p0]) (n := 3) (Nat.le_of_ble_eq_true rfl)
  rw [lg_entry_eq]
  generalize (lg_sl ([.ref a0, .int p0]) ++ List.replicate (3 - (lg_sl ([.ref a0, .int p0])).length) Slot.unset).toArray = ls at hl ⊢
  have hl : lv_has ls 3 [(0, .ref a0), (1, .int p0)] := hl
  refine lv_aload_n hx hb dX10_deeds_0 rfl (lv_at hl 0 rfl) ?_
  refine lv_iload_n hx hb dX10_deeds_1 rfl (lv_at hl 1 rfl) ?_
  refine wj_calli (wr := []) (w1 := (fun u : SU => [(a0, .inr (10, [.ref a1, .ref a3, .ref a11, .ref a25, .ref a68, .ref a69, .ref a77, .ref a82, .ref a84, .ref a88, .ref a91])), (a11, .inr (4, [.ref a12, .ref a19, .ref a24, .int n11_3])), (a12, .inr (9, [.ref a13, .ref a15, .ref a16, .ref a17, .ref a18, .int n12_5, .int n12_6])), (a13, .inr (0, [.ref a14, .int n13_1])), (a15, .inl (ct 0, 8, .inl f15)), (a16, .inl (ct 0, 8, .inl f16)), (a88, .inr (1, [.ref a89, .ref a90, .int (u.1 0)])), (a89, .inl (ct 0, 256, .inl (u.2.1 0))), (a90, .inl (ct 0, 256, .inl (u.2.1 1)))])) (va_runV (As := [.int p0]) (rest := []) ⟨hx, hb, hml, hown, hts⟩ (a_X10_hired l G ct a0 a1 a3 a11 a25 a68 a69 a77 a82 a84 a88 a91 a12 a19 a24 n11_3 a13 a15 a16 a17 a18 n12_5 n12_6 a14 n13_1 f15 f16 a89 a90 n88_2 f89 f90 p0 hp_n13_1 hp_n88_2) (cwV 1 hts gX10_deeds_X10_hired rfl rfl rfl (by decide +kernel) ⟨Nat.le_of_ble_eq_true rfl, Nat.le_of_ble_eq_true rfl⟩) (wr_preV 10 0 hK (hP.sub [0, 1, 2, 3, 4, 5, 6, 7, 8] rfl) (hD.sub [0, 1, 2, 3, 4, 5, 6, 7, 8] (by decide) rfl) rfl rfl) rfl rfl hl.1 rfl (lv_room (Nat.le_of_ble_eq_true rfl)) dX10_deeds_2 ⟨Nat.zero_le _, Nat.zero_le _⟩) hS hP hD [0, 1, 2, 3, 4, 5, 6, 7, 8] [] rfl rfl (by decide) (fun _ => rfl) (fun r2 ur2 H locs wr2 hP hD hS => ?_)
  have hP : va_P G vwCl [(a0, .inr (10, [.ref a1, .ref a3, .ref a11, .ref a25, .ref a68, .ref a69, .ref a77, .ref a82, .ref a84, .ref a88, .ref a91])), (a11, .inr (4, [.ref a12, .ref a19, .ref a24, .int n11_3])), (a12, .inr (9, [.ref a13, .ref a15, .ref a16, .ref a17, .ref a18, .int n12_5, .int n12_6])), (a13, .inr (0, [.ref a14, .int n13_1])), (a15, .inl (ct 0, 8, .inl f15)), (a16, .inl (ct 0, 8, .inl f16)), (a88, .inr (1, [.ref a89, .ref a90, .int (ur2.1 0)])), (a89, .inl (ct 0, 256, .inl (ur2.2.1 0))), (a90, .inl (ct 0, 256, .inl (ur2.2.1 1)))] H := hP.sub [0, 1, 2, 3, 4, 5, 6, 7, 8] rfl
  have hD : va_D A [(a0, .inr (10, [.ref a1, .ref a3, .ref a11, .ref a25, .ref a68, .ref a69, .ref a77, .ref a82, .ref a84, .ref a88, .ref a91])), (a11, .inr (4, [.ref a12, .ref a19, .ref a24, .int n11_3])), (a12, .inr (9, [.ref a13, .ref a15, .ref a16, .ref a17, .ref a18, .int n12_5, .int n12_6])), (a13, .inr (0, [.ref a14, .int n13_1])), (a15, .inl (ct 0, 8, .inl f15)), (a16, .inl (ct 0, 8, .inl f16)), (a88, .inr (1, [.ref a89, .ref a90, .int (ur2.1 0)])), (a89, .inl (ct 0, 256, .inl (ur2.2.1 0))), (a90, .inl (ct 0, 256, .inl (ur2.2.1 1)))] := hD.sub [0, 1, 2, 3, 4, 5, 6, 7, 8] (by decide) rfl
  obtain ⟨p_1, p_2, p_3, p_4, p_5, p_6, -⟩ := wr2
  refine lv_istore_n (lv' := [(2, .int r2), (0, .ref a0), (1, .int p0)]) hx hb dX10_deeds_5 rfl hl (by decide) rfl (fun ls hl => ?_)
  refine lv_iload_n hx hb dX10_deeds_6 rfl (lv_at hl 0 rfl) ?_
  refine lv_if_ge (tgt := 14) hx hb dX10_deeds_7 (by decide) (fun c7 => ?_) (fun c7 => ?_)
  · have h_7 : rg 0 255 r2 := r_le_r_i c7 (rgn 0 (x := 0) (by decide)) p_1
    have h_8 : rg 0 2000 p0 := (p_3 (rne h_7 (y := (-2)) (c := (-2)) (by decide) (by decide)))
    have h_9 : rg 1 2147483647 n12_5 := (p_5 (rne h_7 (y := (-2)) (c := (-2)) (by decide) (by decide)))
    refine lv_aload_n hx hb dX10_deeds_14 rfl (lv_at hl 1 rfl) ?_
    refine va_get (D := G) (ci := 10) (v := .ref a88) (C := RX10) (T := TX10) (N := 11) hx hb hts (by decide +kernel) hown hK.1 hP 0 rfl rfl 9 (by decide) (hts (.fieldLink RX10 77 "CardHolder" "choice" "LCardHolder$Choice;") (by decide +kernel)) (fun _ h9 => h9) rfl dX10_deeds_15 ?_
    refine lv_iload_n hx hb dX10_deeds_18 rfl (lv_at hl 0 rfl) ?_
    refine ro_calli (va_runV (As := [.int r2]) (rest := []) ⟨hx, hb, hml, hown, hts⟩ (a_X1_deedsOf l G ct a88 a89 a90 (ur2.1 0) (ur2.2.1 1) r2 p_6) (cwV 1 hts gX10_deeds_X1_deedsOf rfl rfl rfl (by decide +kernel) ⟨Nat.le_of_ble_eq_true rfl, Nat.le_of_ble_eq_true rfl⟩) (ro_preV 1 0 hK (hP.sub [6, 8] rfl) rfl rfl) rfl rfl hl.1 rfl (lv_room (Nat.le_of_ble_eq_true rfl)) dX10_deeds_19 ⟨Nat.zero_le _, Nat.zero_le _⟩) hS hP (fun r19 H locs wr19 hP hS => ?_)
    obtain ⟨p_10, p_11, p_12, p_13, -⟩ := wr19
    refine ro_calli (va_runS (As := [.int r19]) (rest := []) ⟨hx, hb, hml, hown, hts⟩ (a_J6_bitCount_0f7a4 l G ct r19) (va_cwS 1 hts gX10_deeds_J6_bitCount_0f7a4 rfl rfl rfl (by decide +kernel) ⟨Nat.le_of_ble_eq_true rfl, Nat.le_of_ble_eq_true rfl⟩) (ro_pre hK (hP.sub [] rfl)) rfl rfl hl.1 rfl (lv_room (Nat.le_of_ble_eq_true rfl)) dX10_deeds_22 ⟨Nat.zero_le _, Nat.zero_le _⟩) hS hP (fun r22 H locs wr22 hP hS => ?_)
    obtain ⟨p_14, -⟩ := wr22
    exact W.iret (v := r22) hx hb hr (fun t ht hW => ⟨⟨r22, (fun k => ([ur2.1 0] : List Int32).getD k 0, fun k => ([ur2.2.1 0, ur2.2.1 1] : List (Nat → Int32)).getD k (fun _ => 0), fun k => ([] : List (Nat → Int64)).getD k (fun _ => 0)), rfl, ⟨(rg_w (c := (-2)) (d := 63) p_14 (by decide)), (fun _ => h_8), (fun _ => h_8), (fun _ => h_9), (fun _ => h_9), p_6, trivial⟩, hp_at ht hP⟩, hS.F ht⟩) hS.2.2 dX10_deeds_25
  · have h_15 : rg (-2) (-1) r2 := r_lt_l_i (nle_i c7) p_1 (rgn 0 (x := 0) (by decide)) (by decide)
    refine lv_iload_n hx hb dX10_deeds_10 rfl (lv_at hl 0 rfl) ?_
    refine lv_goto (tgt := 25) hx hb dX10_deeds_11 (by decide) ?_
    exact W.iret (v := r2) hx hb hr (fun t ht hW => ⟨⟨r2, (fun k => ([ur2.1 0] : List Int32).getD k 0, fun k => ([ur2.2.1 0, ur2.2.1 1] : List (Nat → Int32)).getD k (fun _ => 0), fun k => ([] : List (Nat → Int64)).getD k (fun _ => 0)), rfl, ⟨(rg_w (c := (-2)) (d := 63) h_15 (by decide)), (fun hq => rg_w (p_2 hq) (by decide)), (fun hq => rg_w (p_3 hq) (by decide)), (fun hq => rg_w (p_4 hq) (by decide)), (fun hq => rg_w (p_5 hq) (by decide)), p_6, trivial⟩, hp_at ht hP⟩, hS.F ht⟩) hS.2.2 dX10_deeds_25
