theorem dX10_fault_0 : decode cX10_fault 0 = .ok (.iload_n 1, 1) := by decide +kernel
theorem dX10_fault_1 : decode cX10_fault 1 = .ok (.lookupswitch 43 #[(0, 27), (1, 35)], 27) := by decide +kernel
theorem dX10_fault_28 : decode cX10_fault 28 = .ok (.aload_n 0, 1) := by decide +kernel
theorem dX10_fault_29 : decode cX10_fault 29 = .ok (.getfield 21, 3) := by decide +kernel
theorem dX10_fault_32 : decode cX10_fault 32 = .ok (.getfield 118, 3) := by decide +kernel
theorem dX10_fault_35 : decode cX10_fault 35 = .ok (.ireturn, 1) := by decide +kernel
theorem dX10_fault_36 : decode cX10_fault 36 = .ok (.aload_n 0, 1) := by decide +kernel
theorem dX10_fault_37 : decode cX10_fault 37 = .ok (.getfield 21, 3) := by decide +kernel
theorem dX10_fault_40 : decode cX10_fault 40 = .ok (.getfield 121, 3) := by decide +kernel
theorem dX10_fault_43 : decode cX10_fault 43 = .ok (.ireturn, 1) := by decide +kernel
theorem dX10_fault_44 : decode cX10_fault 44 = .ok (.iconst (-1), 1) := by decide +kernel
theorem dX10_fault_45 : decode cX10_fault 45 = .ok (.ireturn, 1) := by decide +kernel
theorem dJ6_bitCount_0f7a4_0 : decode cJ6_bitCount_0f7a4 0 = .ok (.iload_n 0, 1) := by decide +kernel
theorem dJ6_bitCount_0f7a4_1 : decode cJ6_bitCount_0f7a4 1 = .ok (.iload_n 0, 1) := by decide +kernel
theorem dJ6_bitCount_0f7a4_2 : decode cJ6_bitCount_0f7a4 2 = .ok (.iconst 1, 1) := by decide +kernel
theorem dJ6_bitCount_0f7a4_3 : decode cJ6_bitCount_0f7a4 3 = .ok (.iushr, 1) := by decide +kernel
theorem dJ6_bitCount_0f7a4_4 : decode cJ6_bitCount_0f7a4 4 = .ok (.ldc_w 265, 3) := by decide +kernel
theorem dJ6_bitCount_0f7a4_7 : decode cJ6_bitCount_0f7a4 7 = .ok (.iand, 1) := by decide +kernel
theorem dJ6_bitCount_0f7a4_8 : decode cJ6_bitCount_0f7a4 8 = .ok (.isub, 1) := by decide +kernel
theorem dJ6_bitCount_0f7a4_9 : decode cJ6_bitCount_0f7a4 9 = .ok (.istore_n 0, 1) := by decide +kernel
theorem dJ6_bitCount_0f7a4_10 : decode cJ6_bitCount_0f7a4 10 = .ok (.iload_n 0, 1) := by decide +kernel
theorem dJ6_bitCount_0f7a4_11 : decode cJ6_bitCount_0f7a4 11 = .ok (.ldc_w 266, 3) := by decide +kernel
theorem dJ6_bitCount_0f7a4_14 : decode cJ6_bitCount_0f7a4 14 = .ok (.iand, 1) := by decide +kernel
theorem dJ6_bitCount_0f7a4_15 : decode cJ6_bitCount_0f7a4 15 = .ok (.iload_n 0, 1) := by decide +kernel
theorem dJ6_bitCount_0f7a4_16 : decode cJ6_bitCount_0f7a4 16 = .ok (.iconst 2, 1) := by decide +kernel
theorem dJ6_bitCount_0f7a4_17 : decode cJ6_bitCount_0f7a4 17 = .ok (.iushr, 1) := by decide +kernel
theorem dJ6_bitCount_0f7a4_18 : decode cJ6_bitCount_0f7a4 18 = .ok (.ldc_w 266, 3) := by decide +kernel
theorem dJ6_bitCount_0f7a4_21 : decode cJ6_bitCount_0f7a4 21 = .ok (.iand, 1) := by decide +kernel
theorem dJ6_bitCount_0f7a4_22 : decode cJ6_bitCount_0f7a4 22 = .ok (.iadd, 1) := by decide +kernel
theorem dJ6_bitCount_0f7a4_23 : decode cJ6_bitCount_0f7a4 23 = .ok (.istore_n 0, 1) := by decide +kernel
theorem dJ6_bitCount_0f7a4_24 : decode cJ6_bitCount_0f7a4 24 = .ok (.iload_n 0, 1) := by decide +kernel
theorem dJ6_bitCount_0f7a4_25 : decode cJ6_bitCount_0f7a4 25 = .ok (.iload_n 0, 1) := by decide +kernel
theorem dJ6_bitCount_0f7a4_26 : decode cJ6_bitCount_0f7a4 26 = .ok (.iconst 4, 1) := by decide +kernel
theorem dJ6_bitCount_0f7a4_27 : decode cJ6_bitCount_0f7a4 27 = .ok (.iushr, 1) := by decide +kernel
theorem dJ6_bitCount_0f7a4_28 : decode cJ6_bitCount_0f7a4 28 = .ok (.iadd, 1) := by decide +kernel
theorem dJ6_bitCount_0f7a4_29 : decode cJ6_bitCount_0f7a4 29 = .ok (.ldc_w 267, 3) := by decide +kernel
theorem dJ6_bitCount_0f7a4_32 : decode cJ6_bitCount_0f7a4 32 = .ok (.iand, 1) := by decide +kernel
theorem dJ6_bitCount_0f7a4_33 : decode cJ6_bitCount_0f7a4 33 = .ok (.istore_n 0, 1) := by decide +kernel
theorem dJ6_bitCount_0f7a4_34 : decode cJ6_bitCount_0f7a4 34 = .ok (.iload_n 0, 1) := by decide +kernel
theorem dJ6_bitCount_0f7a4_35 : decode cJ6_bitCount_0f7a4 35 = .ok (.iload_n 0, 1) := by decide +kernel
theorem dJ6_bitCount_0f7a4_36 : decode cJ6_bitCount_0f7a4 36 = .ok (.bipush 8, 2) := by decide +kernel
theorem dJ6_bitCount_0f7a4_38 : decode cJ6_bitCount_0f7a4 38 = .ok (.iushr, 1) := by decide +kernel
theorem dJ6_bitCount_0f7a4_39 : decode cJ6_bitCount_0f7a4 39 = .ok (.iadd, 1) := by decide +kernel
theorem dJ6_bitCount_0f7a4_40 : decode cJ6_bitCount_0f7a4 40 = .ok (.istore_n 0, 1) := by decide +kernel
theorem dJ6_bitCount_0f7a4_41 : decode cJ6_bitCount_0f7a4 41 = .ok (.iload_n 0, 1) := by decide +kernel
theorem dJ6_bitCount_0f7a4_42 : decode cJ6_bitCount_0f7a4 42 = .ok (.iload_n 0, 1) := by decide +kernel
theorem dJ6_bitCount_0f7a4_43 : decode cJ6_bitCount_0f7a4 43 = .ok (.bipush 16, 2) := by decide +kernel
theorem dJ6_bitCount_0f7a4_45 : decode cJ6_bitCount_0f7a4 45 = .ok (.iushr, 1) := by decide +kernel
theorem dJ6_bitCount_0f7a4_46 : decode cJ6_bitCount_0f7a4 46 = .ok (.iadd, 1) := by decide +kernel
theorem dJ6_bitCount_0f7a4_47 : decode cJ6_bitCount_0f7a4 47 = .ok (.istore_n 0, 1) := by decide +kernel
theorem dJ6_bitCount_0f7a4_48 : decode cJ6_bitCount_0f7a4 48 = .ok (.iload_n 0, 1) := by decide +kernel
theorem dJ6_bitCount_0f7a4_49 : decode cJ6_bitCount_0f7a4 49 = .ok (.bipush 63, 2) := by decide +kernel
theorem dJ6_bitCount_0f7a4_51 : decode cJ6_bitCount_0f7a4 51 = .ok (.iand, 1) := by decide +kernel
theorem dJ6_bitCount_0f7a4_52 : decode cJ6_bitCount_0f7a4 52 = .ok (.ireturn, 1) := by decide +kernel
theorem dX0_handOf_0 : decode cX0_handOf 0 = .ok (.iconst 0, 1) := by decide +kernel
theorem dX0_handOf_1 : decode cX0_handOf 1 = .ok (.istore_n 2, 1) := by decide +kernel
theorem dX0_handOf_2 : decode cX0_handOf 2 = .ok (.iconst 0, 1) := by decide +kernel
theorem dX0_handOf_3 : decode cX0_handOf 3 = .ok (.istore_n 3, 1) := by decide +kernel
theorem dX0_handOf_4 : decode cX0_handOf 4 = .ok (.iload_n 3, 1) := by decide +kernel
theorem dX0_handOf_5 : decode cX0_handOf 5 = .ok (.aload_n 0, 1) := by decide +kernel
theorem dX0_handOf_6 : decode cX0_handOf 6 = .ok (.getfield 15, 3) := by decide +kernel
theorem dX0_handOf_9 : decode cX0_handOf 9 = .ok (.if_icmp .ge 24, 3) := by decide +kernel
theorem dX0_handOf_33 : decode cX0_handOf 33 = .ok (.iload_n 2, 1) := by decide +kernel
theorem dX0_handOf_34 : decode cX0_handOf 34 = .ok (.ireturn, 1) := by decide +kernel
theorem dX0_freeOnes_0 : decode cX0_freeOnes 0 = .ok (.aload_n 0, 1) := by decide +kernel
theorem dX0_freeOnes_1 : decode cX0_freeOnes 1 = .ok (.iconst (-1), 1) := by decide +kernel
set_option maxRecDepth 20000 in
theorem ggX0_freeOnes_X0_handOf : GoodIn wsX0_freeOnes wsX0_handOf := goodIn_r _ [5, 6, 7, 8, 9, 4, 10, 11, 12, 13, 14, 15, 16, 17] (by decide +kernel) (by decide +kernel)
set_option maxRecDepth 20000 in
theorem gX0_freeOnes_X0_handOf : GoodIn wsX0_freeOnes (wsV RX0 33 RX0 yX0_handOf wsX0_handOf) := goodIn_app (goodIn_of _ (by decide +kernel)) ggX0_freeOnes_X0_handOf
theorem dX0_freeOnes_2 : decode cX0_freeOnes 2 = .ok (.invokevirtual 33, 3) := by decide +kernel
theorem dX0_freeOnes_5 : decode cX0_freeOnes 5 = .ok (.ireturn, 1) := by decide +kernel
theorem dX9_forgedCards_0 : decode cX9_forgedCards 0 = .ok (.iconst 0, 1) := by decide +kernel
theorem dX9_forgedCards_1 : decode cX9_forgedCards 1 = .ok (.istore_n 1, 1) := by decide +kernel
theorem dX9_forgedCards_2 : decode cX9_forgedCards 2 = .ok (.iconst 0, 1) := by decide +kernel
theorem dX9_forgedCards_3 : decode cX9_forgedCards 3 = .ok (.istore_n 2, 1) := by decide +kernel
theorem dX9_forgedCards_4 : decode cX9_forgedCards 4 = .ok (.iload_n 2, 1) := by decide +kernel
theorem dX9_forgedCards_5 : decode cX9_forgedCards 5 = .ok (.aload_n 0, 1) := by decide +kernel
theorem dX9_forgedCards_6 : decode cX9_forgedCards 6 = .ok (.getfield 12, 3) := by decide +kernel
theorem dX9_forgedCards_9 : decode cX9_forgedCards 9 = .ok (.getfield 31, 3) := by decide +kernel
theorem dX9_forgedCards_12 : decode cX9_forgedCards 12 = .ok (.if_icmp .ge 17, 3) := by decide +kernel
theorem dX9_forgedCards_29 : decode cX9_forgedCards 29 = .ok (.iload_n 1, 1) := by decide +kernel
theorem dX9_forgedCards_30 : decode cX9_forgedCards 30 = .ok (.ireturn, 1) := by decide +kernel
theorem dX6_kept_0 : decode cX6_kept 0 = .ok (.aload_n 0, 1) := by decide +kernel
theorem dX6_kept_1 : decode cX6_kept 1 = .ok (.getfield 27, 3) := by decide +kernel
set_option maxRecDepth 20000 in
theorem ggX6_kept_J6_bitCount_0f7a4 : GoodIn wsX6_kept wsJ6_bitCount_0f7a4 := goodIn_r _ [5, 6, 7, 8] (by decide +kernel) (by decide +kernel)
set_option maxRecDepth 20000 in
theorem gX6_kept_J6_bitCount_0f7a4 : GoodIn wsX6_kept (va_wsS RX6 35 yJ6_bitCount_0f7a4 wsJ6_bitCount_0f7a4) := goodIn_app (goodIn_of _ (by decide +kernel)) ggX6_kept_J6_bitCount_0f7a4
theorem dX6_kept_4 : decode cX6_kept 4 = .ok (.invokestatic 35, 3) := by decide +kernel
theorem dX6_kept_7 : decode cX6_kept 7 = .ok (.ireturn, 1) := by decide +kernel
theorem dX10_bonds_0 : decode cX10_bonds 0 = .ok (.aload_n 0, 1) := by decide +kernel
theorem dX10_bonds_1 : decode cX10_bonds 1 = .ok (.getfield 28, 3) := by decide +kernel
theorem dX10_bonds_4 : decode cX10_bonds 4 = .ok (.getfield 147, 3) := by decide +kernel
theorem dX10_bonds_7 : decode cX10_bonds 7 = .ok (.getfield 366, 3) := by decide +kernel
theorem dX10_bonds_10 : decode cX10_bonds 10 = .ok (.areturn, 1) := by decide +kernel
theorem dX10_count_0 : decode cX10_count 0 = .ok (.iload_n 1, 1) := by decide +kernel
theorem dX10_count_1 : decode cX10_count 1 = .ok (.tableswitch 131 0 7 #[47, 55, 66, 85, 96, 104, 115, 123], 47) := by decide +kernel
theorem dX10_count_48 : decode cX10_count 48 = .ok (.aload_n 0, 1) := by decide +kernel
set_option maxRecDepth 20000 in
theorem ggX10_count_X10_bonds : GoodIn wsX10_count wsX10_bonds := goodIn_r _ [14, 2, 15, 16, 65, 66, 67, 68, 69, 70, 71, 72, 73, 74, 75, 76, 77, 78, 79, 89, 90, 91, 92, 93, 94, 95, 96] (by decide +kernel) (by decide +kernel)
set_option maxRecDepth 20000 in
theorem gX10_count_X10_bonds : GoodIn wsX10_count (wsV RX10 134 RX10 yX10_bonds wsX10_bonds) := goodIn_app (goodIn_of _ (by decide +kernel)) ggX10_count_X10_bonds
theorem dX10_count_49 : decode cX10_count 49 = .ok (.invokevirtual 134, 3) := by decide +kernel
theorem dX10_count_52 : decode cX10_count 52 = .ok (.getfield 238, 3) := by decide +kernel
theorem dX10_count_55 : decode cX10_count 55 = .ok (.ireturn, 1) := by decide +kernel
theorem dX10_count_56 : decode cX10_count 56 = .ok (.aload_n 0, 1) := by decide +kernel
theorem dX10_count_57 : decode cX10_count 57 = .ok (.getfield 28, 3) := by decide +kernel
theorem dX10_count_60 : decode cX10_count 60 = .ok (.getfield 49, 3) := by decide +kernel
theorem dX10_count_63 : decode cX10_count 63 = .ok (.getfield 387, 3) := by decide +kernel
theorem dX10_count_66 : decode cX10_count 66 = .ok (.ireturn, 1) := by decide +kernel
theorem dX10_count_67 : decode cX10_count 67 = .ok (.aload_n 0, 1) := by decide +kernel
theorem dX10_count_68 : decode cX10_count 68 = .ok (.invokevirtual 134, 3) := by decide +kernel
theorem dX10_count_71 : decode cX10_count 71 = .ok (.getfield 238, 3) := by decide +kernel
theorem dX10_count_74 : decode cX10_count 74 = .ok (.aload_n 0, 1) := by decide +kernel
theorem dX10_count_75 : decode cX10_count 75 = .ok (.invokevirtual 134, 3) := by decide +kernel
set_option maxRecDepth 20000 in
theorem ggX10_count_X0_freeOnes : GoodIn wsX10_count wsX0_freeOnes := goodIn_r _ [21, 22, 23, 24, 20, 25, 26, 27, 28, 29, 30, 31, 32, 33, 34, 35, 63, 64] (by decide +kernel) (by decide +kernel)
set_option maxRecDepth 20000 in
theorem gX10_count_X0_freeOnes : GoodIn wsX10_count (wsV RX10 166 RX0 yX0_freeOnes wsX0_freeOnes) := goodIn_app (goodIn_of _ (by decide +kernel)) ggX10_count_X0_freeOnes
theorem dX10_count_78 : decode cX10_count 78 = .ok (.invokevirtual 166, 3) := by decide +kernel
set_option maxRecDepth 20000 in
theorem ggX10_count_J6_bitCount_0f7a4 : GoodIn wsX10_count wsJ6_bitCount_0f7a4 := goodIn_r _ [39, 40, 41, 42] (by decide +kernel) (by decide +kernel)
set_option maxRecDepth 20000 in
theorem gX10_count_J6_bitCount_0f7a4 : GoodIn wsX10_count (va_wsS RX10 256 yJ6_bitCount_0f7a4 wsJ6_bitCount_0f7a4) := goodIn_app (goodIn_of _ (by decide +kernel)) ggX10_count_J6_bitCount_0f7a4
theorem dX10_count_81 : decode cX10_count 81 = .ok (.invokestatic 256, 3) := by decide +kernel
theorem dX10_count_84 : decode cX10_count 84 = .ok (.isub, 1) := by decide +kernel
theorem dX10_count_85 : decode cX10_count 85 = .ok (.ireturn, 1) := by decide +kernel
theorem dX10_count_86 : decode cX10_count 86 = .ok (.aload_n 0, 1) := by decide +kernel
theorem dX10_count_87 : decode cX10_count 87 = .ok (.getfield 28, 3) := by decide +kernel
theorem dX10_count_90 : decode cX10_count 90 = .ok (.getfield 49, 3) := by decide +kernel
set_option maxRecDepth 20000 in
theorem ggX10_count_X9_forgedCards : GoodIn wsX10_count wsX9_forgedCards := goodIn_r _ [47, 48, 49, 50, 51, 52, 46, 53, 54, 55, 33, 34, 20, 35, 26, 80, 81, 82, 83, 84, 85, 86, 63, 64] (by decide +kernel) (by decide +kernel)
set_option maxRecDepth 20000 in
theorem gX10_count_X9_forgedCards : GoodIn wsX10_count (wsV RX10 390 RX9 yX9_forgedCards wsX9_forgedCards) := goodIn_app (goodIn_of _ (by decide +kernel)) ggX10_count_X9_forgedCards
theorem dX10_count_93 : decode cX10_count 93 = .ok (.invokevirtual 390, 3) := by decide +kernel
theorem dX10_count_96 : decode cX10_count 96 = .ok (.ireturn, 1) := by decide +kernel
theorem dX10_count_97 : decode cX10_count 97 = .ok (.aload_n 0, 1) := by decide +kernel
theorem dX10_count_98 : decode cX10_count 98 = .ok (.getfield 28, 3) := by decide +kernel
theorem dX10_count_101 : decode cX10_count 101 = .ok (.getfield 226, 3) := by decide +kernel
theorem dX10_count_104 : decode cX10_count 104 = .ok (.ireturn, 1) := by decide +kernel
theorem dX10_count_105 : decode cX10_count 105 = .ok (.aload_n 0, 1) := by decide +kernel
theorem dX10_count_106 : decode cX10_count 106 = .ok (.getfield 28, 3) := by decide +kernel
theorem dX10_count_109 : decode cX10_count 109 = .ok (.getfield 49, 3) := by decide +kernel
theorem dX10_count_112 : decode cX10_count 112 = .ok (.getfield 113, 3) := by decide +kernel
theorem dX10_count_115 : decode cX10_count 115 = .ok (.ireturn, 1) := by decide +kernel
theorem dX10_count_116 : decode cX10_count 116 = .ok (.aload_n 0, 1) := by decide +kernel
theorem dX10_count_117 : decode cX10_count 117 = .ok (.getfield 10, 3) := by decide +kernel
theorem dX10_count_120 : decode cX10_count 120 = .ok (.getfield 96, 3) := by decide +kernel
theorem dX10_count_123 : decode cX10_count 123 = .ok (.ireturn, 1) := by decide +kernel
theorem dX10_count_124 : decode cX10_count 124 = .ok (.aload_n 0, 1) := by decide +kernel
theorem dX10_count_125 : decode cX10_count 125 = .ok (.getfield 43, 3) := by decide +kernel
set_option maxRecDepth 20000 in
theorem ggX10_count_X6_kept : GoodIn wsX10_count wsX6_kept := goodIn_r _ [60, 61, 62, 37, 38, 39, 40, 41, 42, 97, 98, 99, 100] (by decide +kernel) (by decide +kernel)
set_option maxRecDepth 20000 in
theorem gX10_count_X6_kept : GoodIn wsX10_count (wsV RX10 393 RX6 yX6_kept wsX6_kept) := goodIn_app (goodIn_of _ (by decide +kernel)) ggX10_count_X6_kept
theorem dX10_count_128 : decode cX10_count 128 = .ok (.invokevirtual 393, 3) := by decide +kernel
theorem dX10_count_131 : decode cX10_count 131 = .ok (.ireturn, 1) := by decide +kernel
theorem dX10_count_132 : decode cX10_count 132 = .ok (.iconst (-1), 1) := by decide +kernel
theorem dX10_count_133 : decode cX10_count 133 = .ok (.ireturn, 1) := by decide +kernel
theorem dX10_back_0 : decode cX10_back 0 = .ok (.iload_n 1, 1) := by decide +kernel
theorem dX10_back_1 : decode cX10_back 1 = .ok (.ifCond .lt 8, 3) := by decide +kernel
theorem dX10_back_9 : decode cX10_back 9 = .ok (.bipush (-2), 2) := by decide +kernel
theorem dX10_back_11 : decode cX10_back 11 = .ok (.ireturn, 1) := by decide +kernel
theorem dX10_back_4 : decode cX10_back 4 = .ok (.iload_n 1, 1) := by decide +kernel
theorem dX10_back_5 : decode cX10_back 5 = .ok (.iconst 3, 1) := by decide +kernel
theorem dX10_back_6 : decode cX10_back 6 = .ok (.if_icmp .lt 6, 3) := by decide +kernel
theorem dX10_back_12 : decode cX10_back 12 = .ok (.aload_n 0, 1) := by decide +kernel
theorem dX10_back_13 : decode cX10_back 13 = .ok (.getfield 36, 3) := by decide +kernel
theorem dX10_back_16 : decode cX10_back 16 = .ok (.iload_n 1, 1) := by decide +kernel
theorem dX10_back_17 : decode cX10_back 17 = .ok (.baload, 1) := by decide +kernel
theorem dX10_back_18 : decode cX10_back 18 = .ok (.ifCond .ne 6, 3) := by decide +kernel
theorem dX10_back_21 : decode cX10_back 21 = .ok (.bipush (-6), 2) := by decide +kernel
theorem dX10_back_23 : decode cX10_back 23 = .ok (.ireturn, 1) := by decide +kernel
theorem dX10_bitOf_0 : decode cX10_bitOf 0 = .ok (.iload_n 0, 1) := by decide +kernel
theorem dX10_bitOf_1 : decode cX10_bitOf 1 = .ok (.iload_n 1, 1) := by decide +kernel
theorem dX10_bitOf_2 : decode cX10_bitOf 2 = .ok (.ishr, 1) := by decide +kernel
theorem dX10_bitOf_3 : decode cX10_bitOf 3 = .ok (.iconst 1, 1) := by decide +kernel
theorem dX10_bitOf_4 : decode cX10_bitOf 4 = .ok (.iand, 1) := by decide +kernel
theorem dX10_bitOf_5 : decode cX10_bitOf 5 = .ok (.ireturn, 1) := by decide +kernel
theorem dX6_isKept_0 : decode cX6_isKept 0 = .ok (.aload_n 0, 1) := by decide +kernel
theorem dX6_isKept_1 : decode cX6_isKept 1 = .ok (.iload_n 1, 1) := by decide +kernel
set_option maxRecDepth 20000 in
theorem ggX6_isKept_X6_isSlot : GoodIn wsX6_isKept wsX6_isSlot := goodIn_r _ [6] (by decide +kernel) (by decide +kernel)
set_option maxRecDepth 20000 in
theorem gX6_isKept_X6_isSlot : GoodIn wsX6_isKept (wsV RX6 23 RX6 yX6_isSlot wsX6_isSlot) := goodIn_app (goodIn_of _ (by decide +kernel)) ggX6_isKept_X6_isSlot
theorem dX6_isKept_2 : decode cX6_isKept 2 = .ok (.invokevirtual 23, 3) := by decide +kernel
theorem dX6_isKept_5 : decode cX6_isKept 5 = .ok (.ifCond .eq 19, 3) := by decide +kernel
theorem dX6_isKept_24 : decode cX6_isKept 24 = .ok (.iconst 0, 1) := by decide +kernel
theorem dX6_isKept_25 : decode cX6_isKept 25 = .ok (.ireturn, 1) := by decide +kernel
theorem dX6_isKept_8 : decode cX6_isKept 8 = .ok (.aload_n 0, 1) := by decide +kernel
theorem dX6_isKept_9 : decode cX6_isKept 9 = .ok (.getfield 27, 3) := by decide +kernel
theorem dX6_isKept_12 : decode cX6_isKept 12 = .ok (.iload_n 1, 1) := by decide +kernel
set_option maxRecDepth 20000 in
theorem ggX6_isKept_X10_bitOf : GoodIn wsX6_isKept wsX10_bitOf := goodIn_r _ [9] (by decide +kernel) (by decide +kernel)
set_option maxRecDepth 20000 in
theorem gX6_isKept_X10_bitOf_n31 : GoodIn wsX6_isKept (wsX10_bitOf) := ggX6_isKept_X10_bitOf
theorem dX6_isKept_13 : decode cX6_isKept 13 = .ok (.invokestatic 31, 3) := by decide +kernel
theorem dX6_isKept_16 : decode cX6_isKept 16 = .ok (.iconst 1, 1) := by decide +kernel
theorem dX6_isKept_17 : decode cX6_isKept 17 = .ok (.if_icmp .ne 7, 3) := by decide +kernel
theorem dX10_write_0 : decode cX10_write 0 = .ok (.aload_n 0, 1) := by decide +kernel
theorem dX10_write_1 : decode cX10_write 1 = .ok (.getfield 43, 3) := by decide +kernel
theorem dX10_write_4 : decode cX10_write 4 = .ok (.iload_n 1, 1) := by decide +kernel
set_option maxRecDepth 20000 in
theorem ggX10_write_X6_isSlot : GoodIn wsX10_write wsX6_isSlot := goodIn_r _ [6] (by decide +kernel) (by decide +kernel)
set_option maxRecDepth 20000 in
theorem gX10_write_X6_isSlot : GoodIn wsX10_write (wsV RX10 397 RX6 yX6_isSlot wsX6_isSlot) := goodIn_app (goodIn_of _ (by decide +kernel)) ggX10_write_X6_isSlot
theorem dX10_write_5 : decode cX10_write 5 = .ok (.invokevirtual 397, 3) := by decide +kernel
theorem dX10_write_8 : decode cX10_write 8 = .ok (.ifCond .ne 6, 3) := by decide +kernel
theorem dX10_write_14 : decode cX10_write 14 = .ok (.aload_n 0, 1) := by decide +kernel
theorem dX10_write_15 : decode cX10_write 15 = .ok (.getfield 43, 3) := by decide +kernel
theorem dX10_write_18 : decode cX10_write 18 = .ok (.iload_n 1, 1) := by decide +kernel
set_option maxRecDepth 20000 in
theorem ggX10_write_X6_isKept : GoodIn wsX10_write wsX6_isKept := goodIn_r _ [10, 11, 12, 3, 4, 5, 6, 13, 14, 15, 46, 47, 48, 49] (by decide +kernel) (by decide +kernel)
set_option maxRecDepth 20000 in
theorem gX10_write_X6_isKept : GoodIn wsX10_write (wsV RX10 404 RX6 yX6_isKept wsX6_isKept) := goodIn_app (goodIn_of _ (by decide +kernel)) ggX10_write_X6_isKept
theorem dX10_write_19 : decode cX10_write 19 = .ok (.invokevirtual 404, 3) := by decide +kernel
theorem dX10_write_22 : decode cX10_write 22 = .ok (.ifCond .ne 6, 3) := by decide +kernel
theorem dX10_write_25 : decode cX10_write 25 = .ok (.bipush (-6), 2) := by decide +kernel
theorem dX10_write_27 : decode cX10_write 27 = .ok (.ireturn, 1) := by decide +kernel
theorem dX10_write_11 : decode cX10_write 11 = .ok (.bipush (-2), 2) := by decide +kernel
theorem dX10_write_13 : decode cX10_write 13 = .ok (.ireturn, 1) := by decide +kernel
theorem dX10_paste_0 : decode cX10_paste 0 = .ok (.aload_n 0, 1) := by decide +kernel
theorem dX10_paste_1 : decode cX10_paste 1 = .ok (.getfield 43, 3) := by decide +kernel
theorem dX10_paste_4 : decode cX10_paste 4 = .ok (.iload_n 1, 1) := by decide +kernel
set_option maxRecDepth 20000 in
theorem ggX10_paste_X6_isSlot : GoodIn wsX10_paste wsX6_isSlot := goodIn_r _ [12] (by decide +kernel) (by decide +kernel)
set_option maxRecDepth 20000 in
theorem gX10_paste_X6_isSlot : GoodIn wsX10_paste (wsV RX10 397 RX6 yX6_isSlot wsX6_isSlot) := goodIn_app (goodIn_of _ (by decide +kernel)) ggX10_paste_X6_isSlot
theorem dX10_paste_5 : decode cX10_paste 5 = .ok (.invokevirtual 397, 3) := by decide +kernel
theorem dX10_paste_8 : decode cX10_paste 8 = .ok (.ifCond .eq 14, 3) := by decide +kernel
theorem dX10_paste_22 : decode cX10_paste 22 = .ok (.bipush (-2), 2) := by decide +kernel
theorem dX10_paste_24 : decode cX10_paste 24 = .ok (.ireturn, 1) := by decide +kernel
theorem dX10_paste_11 : decode cX10_paste 11 = .ok (.aload_n 0, 1) := by decide +kernel
theorem dX10_paste_12 : decode cX10_paste 12 = .ok (.getfield 43, 3) := by decide +kernel
theorem dX10_paste_15 : decode cX10_paste 15 = .ok (.iload_n 3, 1) := by decide +kernel
theorem dX10_paste_16 : decode cX10_paste 16 = .ok (.invokevirtual 397, 3) := by decide +kernel
theorem dX10_paste_19 : decode cX10_paste 19 = .ok (.ifCond .ne 6, 3) := by decide +kernel
theorem dX10_paste_25 : decode cX10_paste 25 = .ok (.aload_n 0, 1) := by decide +kernel
theorem dX10_paste_26 : decode cX10_paste 26 = .ok (.getfield 43, 3) := by decide +kernel
theorem dX10_paste_29 : decode cX10_paste 29 = .ok (.iload_n 1, 1) := by decide +kernel
set_option maxRecDepth 20000 in
theorem ggX10_paste_X6_isKept : GoodIn wsX10_paste wsX6_isKept := goodIn_r _ [16, 17, 18, 9, 10, 11, 12, 19, 20, 21, 42, 43, 44, 45] (by decide +kernel) (by decide +kernel)
set_option maxRecDepth 20000 in
theorem gX10_paste_X6_isKept : GoodIn wsX10_paste (wsV RX10 404 RX6 yX6_isKept wsX6_isKept) := goodIn_app (goodIn_of _ (by decide +kernel)) ggX10_paste_X6_isKept
theorem dX10_paste_30 : decode cX10_paste 30 = .ok (.invokevirtual 404, 3) := by decide +kernel
theorem dX10_paste_33 : decode cX10_paste 33 = .ok (.ifCond .eq 14, 3) := by decide +kernel
theorem dX10_paste_47 : decode cX10_paste 47 = .ok (.bipush (-6), 2) := by decide +kernel
theorem dX10_paste_49 : decode cX10_paste 49 = .ok (.ireturn, 1) := by decide +kernel
def fFault (p0 : Int32) : Int32 := if p0.toInt = 0 then 0 else -1
def fCount (p0 : Int32) : Int32 := if 0 ≤ p0.toInt ∧ p0.toInt ≤ 7 then 0 else -1
def fEnd (p0 : Int32) : Int32 := if p0.toInt = 0 then 0 else -1
def fImage (p0 : Int32) : Int32 := if 0 ≤ p0.toInt ∧ p0.toInt ≤ 2 then 0 else -2
def fBack (p0 : Int32) : Int32 := if 0 ≤ p0.toInt ∧ p0.toInt ≤ 2 then -6 else -2
def fRow (p0 p1 p2 : Int32) : Int32 := if 0 ≤ p0.toInt ∧ p0.toInt ≤ 3 ∧ 0 ≤ p1.toInt ∧ p1.toInt ≤ 3 ∧ p2.toInt ≤ 60 then (if p2.toInt < 0 then -3 else 0) else -2
def fWrite (p0 : Int32) : Int32 := if 0 ≤ p0.toInt ∧ p0.toInt ≤ 3 then -6 else -2
def fPaste (p0 p2 : Int32) : Int32 := if 0 ≤ p0.toInt ∧ p0.toInt ≤ 3 ∧ 0 ≤ p2.toInt ∧ p2.toInt ≤ 3 then -6 else -2
theorem bit0 (y : Int32) : ((0 : Int32) >>> (y &&& 31)) &&& 1 = 0 := by
  have h : (0 : Int32) >>> (y &&& 31) = 0 := Int32.toInt_inj.mp (by rw [pk_shr _ _ _ rfl]; simp)
  rw [h]; rfl
set_option maxHeartbeats 4000000 in
set_option maxRecDepth 100000 in
theorem c_X10_fault (l : Launch) (G : va_G) (ct : Nat → ClassId) (a : Nat → Nat) (rr : Nat → Nat) (p0 : Int32)  : Met l yX10_fault wsX10_fault ({ frames := 0, cells := 0, slots := 0, locals := 0 }) (va_Pc [.ref (a 0), .int p0] (roP G ct (xF a rr ct))) (roQ (fun r => r = fFault p0)) 0 0 no := by
  refine Met.ofW (cc := cX10_fault) (maxL := 2) (ret := (some .int)) (by decide) rfl ?_
  intro p e s m args below meth c s₁ B hml hv
  obtain ⟨rfl, hP, hK⟩ := hv
  have hx := B.exec
  have hb := B.bytes
  have hr := B.returns
  have hts := atoms_spec (ws := wsX10_fault) B.pre
  have hown : s.vm.findClass RX10 = some m.cls := findClass_of_methodNamed B.named
  have hlocks := B.notSynchronized
  have hS : va_S no s.heap s.heap [] := va_S.rf
  have hl := lv_entry ([.ref (a 0), .int p0]) (n := 2) (Nat.le_of_ble_eq_true rfl)
  rw [lg_entry_eq]
  generalize (lg_sl ([.ref (a 0), .int p0]) ++ List.replicate (2 - (lg_sl ([.ref (a 0), .int p0])).length) Slot.unset).toArray = ls at hl ⊢
  have hl : lv_has ls 2 [(0, .ref (a 0)), (1, .int p0)] := hl
  refine lv_iload_n hx hb dX10_fault_0 rfl (lv_at hl 1 rfl) ?_
  by_cases h_1 : p0 = 0 ∨ p0 = 1
  · rcases h_1 with h_1 | h_1
    · refine lv_lookup (tgt := 28) (off := 27) hx hb dX10_fault_1 (by decide) (by rw [h_1]; decide) (by decide) ?_
      refine lv_aload_n hx hb dX10_fault_28 rfl (lv_at hl 0 rfl) ?_
      refine va_get (D := G) (ci := 10) (v := .ref (a 3)) (C := RX10) (T := TX10) (N := 11) hx hb hts (by decide +kernel) hown hK.1 hP 0 rfl rfl 1 (by decide) (hts (.fieldLink RX10 21 "CardHolder" "reader" "LCardHolder$Reader;") (by decide +kernel)) (fun _ h9 => h9) rfl dX10_fault_29 ?_
      refine va_get (D := G) (ci := 5) (v := .int 0) (C := RX5) (T := TX5) (N := 8) hx hb hts (by decide +kernel) hown hK.1 hP 3 rfl rfl 2 (by decide) (hts (.fieldLink RX10 118 "CardHolder$Reader" "wrong" "I") (by decide +kernel)) (fun _ h9 => h9) rfl dX10_fault_32 ?_
      exact W.iret (v := 0) hx hb hr (fun t ht hW => ⟨⟨0, (), rfl, by have f0 := i_eq h_1; have : (0 : Int32).toInt = 0 := (by decide); show (0 : Int32) = fFault p0; unfold fFault; (repeat' split) <;> first | rfl | (exfalso; omega), trivial⟩, hS.F ht⟩) hS.2.2 dX10_fault_35
    · refine lv_lookup (tgt := 36) (off := 35) hx hb dX10_fault_1 (by decide) (by rw [h_1]; decide) (by decide) ?_
      refine lv_aload_n hx hb dX10_fault_36 rfl (lv_at hl 0 rfl) ?_
      refine va_get (D := G) (ci := 10) (v := .ref (a 3)) (C := RX10) (T := TX10) (N := 11) hx hb hts (by decide +kernel) hown hK.1 hP 0 rfl rfl 1 (by decide) (hts (.fieldLink RX10 21 "CardHolder" "reader" "LCardHolder$Reader;") (by decide +kernel)) (fun _ h9 => h9) rfl dX10_fault_37 ?_
      refine va_get (D := G) (ci := 5) (v := .int (-1)) (C := RX5) (T := TX5) (N := 8) hx hb hts (by decide +kernel) hown hK.1 hP 3 rfl rfl 3 (by decide) (hts (.fieldLink RX10 121 "CardHolder$Reader" "wrongPlace" "I") (by decide +kernel)) (fun _ h9 => h9) rfl dX10_fault_40 ?_
      exact W.iret (v := (-1)) hx hb hr (fun t ht hW => ⟨⟨(-1), (), rfl, by have f0 := i_eq h_1; have : ((-1) : Int32).toInt = -1 := (by decide); have : (1 : Int32).toInt = 1 := (by decide); show ((-1) : Int32) = fFault p0; unfold fFault; (repeat' split) <;> first | rfl | (exfalso; omega), trivial⟩, hS.F ht⟩) hS.2.2 dX10_fault_43
  · obtain ⟨d_2, h_1⟩ := not_or.mp h_1
    have d_3 := h_1
    refine lv_lookup (tgt := 44) (off := 43) hx hb dX10_fault_1 (by decide) ((lv_osw d_2 (by decide)).trans ((lv_osw d_3 (by decide)).trans (rfl))) (by decide) ?_
    refine lv_iconst (v := (-1)) hx hb dX10_fault_44 (by decide) ?_
    exact W.iret (v := (-1)) hx hb hr (fun t ht hW => ⟨⟨(-1), (), rfl, by have f0 := i_ne d_2; have f1 := i_ne d_3; have : ((-1) : Int32).toInt = -1 := (by decide); have : (0 : Int32).toInt = 0 := (by decide); have : (1 : Int32).toInt = 1 := (by decide); show ((-1) : Int32) = fFault p0; unfold fFault; (repeat' split) <;> first | rfl | (exfalso; omega), trivial⟩, hS.F ht⟩) hS.2.2 dX10_fault_45

set_option maxHeartbeats 4000000 in
set_option maxRecDepth 100000 in
theorem c_J6_bitCount_0f7a4 (l : Launch) (G : va_G) (ct : Nat → ClassId)  : Met l yJ6_bitCount_0f7a4 wsJ6_bitCount_0f7a4 ({ frames := 0, cells := 0, slots := 0, locals := 0 }) (va_Pc [.int 0] (roP G ct [])) (roQ (fun r => r = 0)) 0 0 no := by
  refine Met.ofW (cc := cJ6_bitCount_0f7a4) (maxL := 1) (ret := (some .int)) (by decide) rfl ?_
  intro p e s m args below meth c s₁ B hml hv
  obtain ⟨rfl, hP, hK⟩ := hv
  have hx := B.exec
  have hb := B.bytes
  have hr := B.returns
  have hts := atoms_spec (ws := wsJ6_bitCount_0f7a4) B.pre
  have hown : s.vm.findClass RJ6 = some m.cls := findClass_of_methodNamed B.named
  have hlocks := B.notSynchronized
  have hS : va_S no s.heap s.heap [] := va_S.rf
  have hl := lv_entry ([.int 0]) (n := 1) (Nat.le_of_ble_eq_true rfl)
  rw [lg_entry_eq]
  generalize (lg_sl ([.int 0]) ++ List.replicate (1 - (lg_sl ([.int 0])).length) Slot.unset).toArray = ls at hl ⊢
  have hl : lv_has ls 1 [(0, .int 0)] := hl
  refine lv_iload_n hx hb dJ6_bitCount_0f7a4_0 rfl (lv_at hl 0 rfl) ?_
  refine lv_iload_n hx hb dJ6_bitCount_0f7a4_1 rfl (lv_at hl 0 rfl) ?_
  refine lv_iconst (v := 1) hx hb dJ6_bitCount_0f7a4_2 (by decide) ?_
  refine lv_iushr (v := 0) hx hb dJ6_bitCount_0f7a4_3 (by decide) ?_
  refine lv_ldcw (own := RJ6) (v := 1431655765) hx hb hown (hts (.constant RJ6 265 (1431655765)) (by decide +kernel)) dJ6_bitCount_0f7a4_4 ?_
  refine lv_iand hx hb dJ6_bitCount_0f7a4_7 ?_
  refine ix_i (y := 0) (by decide) ?_
  refine lv_isub hx hb dJ6_bitCount_0f7a4_8 ?_
  refine ix_i (y := 0) (by decide) ?_
  refine lv_istore_n (lv' := [(0, .int 0)]) hx hb dJ6_bitCount_0f7a4_9 rfl hl (by decide) rfl (fun ls hl => ?_)
  refine lv_iload_n hx hb dJ6_bitCount_0f7a4_10 rfl (lv_at hl 0 rfl) ?_
  refine lv_ldcw (own := RJ6) (v := 858993459) hx hb hown (hts (.constant RJ6 266 (858993459)) (by decide +kernel)) dJ6_bitCount_0f7a4_11 ?_
  refine lv_iand hx hb dJ6_bitCount_0f7a4_14 ?_
  refine ix_i (y := 0) (by decide) ?_
  refine lv_iload_n hx hb dJ6_bitCount_0f7a4_15 rfl (lv_at hl 0 rfl) ?_
  refine lv_iconst (v := 2) hx hb dJ6_bitCount_0f7a4_16 (by decide) ?_
  refine lv_iushr (v := 0) hx hb dJ6_bitCount_0f7a4_17 (by decide) ?_
  refine lv_ldcw (own := RJ6) (v := 858993459) hx hb hown (hts (.constant RJ6 266 (858993459)) (by decide +kernel)) dJ6_bitCount_0f7a4_18 ?_
  refine lv_iand hx hb dJ6_bitCount_0f7a4_21 ?_
  refine ix_i (y := 0) (by decide) ?_
  refine lv_iadd hx hb dJ6_bitCount_0f7a4_22 ?_
  refine ix_i (y := 0) (by decide) ?_
  refine lv_istore_n (lv' := [(0, .int 0)]) hx hb dJ6_bitCount_0f7a4_23 rfl hl (by decide) rfl (fun ls hl => ?_)
  refine lv_iload_n hx hb dJ6_bitCount_0f7a4_24 rfl (lv_at hl 0 rfl) ?_
  refine lv_iload_n hx hb dJ6_bitCount_0f7a4_25 rfl (lv_at hl 0 rfl) ?_
  refine lv_iconst (v := 4) hx hb dJ6_bitCount_0f7a4_26 (by decide) ?_
  refine lv_iushr (v := 0) hx hb dJ6_bitCount_0f7a4_27 (by decide) ?_
  refine lv_iadd hx hb dJ6_bitCount_0f7a4_28 ?_
  refine ix_i (y := 0) (by decide) ?_
  refine lv_ldcw (own := RJ6) (v := 252645135) hx hb hown (hts (.constant RJ6 267 (252645135)) (by decide +kernel)) dJ6_bitCount_0f7a4_29 ?_
  refine lv_iand hx hb dJ6_bitCount_0f7a4_32 ?_
  refine ix_i (y := 0) (by decide) ?_
  refine lv_istore_n (lv' := [(0, .int 0)]) hx hb dJ6_bitCount_0f7a4_33 rfl hl (by decide) rfl (fun ls hl => ?_)
  refine lv_iload_n hx hb dJ6_bitCount_0f7a4_34 rfl (lv_at hl 0 rfl) ?_
  refine lv_iload_n hx hb dJ6_bitCount_0f7a4_35 rfl (lv_at hl 0 rfl) ?_
  refine lv_bipush (v := 8) hx hb dJ6_bitCount_0f7a4_36 (by decide) ?_
  refine lv_iushr (v := 0) hx hb dJ6_bitCount_0f7a4_38 (by decide) ?_
  refine lv_iadd hx hb dJ6_bitCount_0f7a4_39 ?_
  refine ix_i (y := 0) (by decide) ?_
  refine lv_istore_n (lv' := [(0, .int 0)]) hx hb dJ6_bitCount_0f7a4_40 rfl hl (by decide) rfl (fun ls hl => ?_)
  refine lv_iload_n hx hb dJ6_bitCount_0f7a4_41 rfl (lv_at hl 0 rfl) ?_
  refine lv_iload_n hx hb dJ6_bitCount_0f7a4_42 rfl (lv_at hl 0 rfl) ?_
  refine lv_bipush (v := 16) hx hb dJ6_bitCount_0f7a4_43 (by decide) ?_
  refine lv_iushr (v := 0) hx hb dJ6_bitCount_0f7a4_45 (by decide) ?_
  refine lv_iadd hx hb dJ6_bitCount_0f7a4_46 ?_
  refine ix_i (y := 0) (by decide) ?_
  refine lv_istore_n (lv' := [(0, .int 0)]) hx hb dJ6_bitCount_0f7a4_47 rfl hl (by decide) rfl (fun ls hl => ?_)
  refine lv_iload_n hx hb dJ6_bitCount_0f7a4_48 rfl (lv_at hl 0 rfl) ?_
  refine lv_bipush (v := 63) hx hb dJ6_bitCount_0f7a4_49 (by decide) ?_
  refine lv_iand hx hb dJ6_bitCount_0f7a4_51 ?_
  refine ix_i (y := 0) (by decide) ?_
  exact W.iret (v := 0) hx hb hr (fun t ht hW => ⟨⟨0, (), rfl, rfl, trivial⟩, hS.F ht⟩) hS.2.2 dJ6_bitCount_0f7a4_52

set_option maxHeartbeats 4000000 in
set_option maxRecDepth 100000 in
theorem c0_X0_handOf (l : Launch) (G : va_G) (ct : Nat → ClassId) (h0 : Nat) (a1 : Nat) (p0 : Int32)  : Met l yX0_handOf wsX0_handOf ({ frames := 2, cells := 0, slots := 0, locals := 42 }) (va_Pc [.ref h0, .int p0] (roP G ct [(h0, .inr (0, [.ref a1, .int 0]))])) (roQ (fun r => r = 0)) 0 0 no := by
  refine Met.ofW (cc := cX0_handOf) (maxL := 4) (ret := (some .int)) (by decide) rfl ?_
  intro p e s m args below meth c s₁ B hml hv
  obtain ⟨rfl, hP, hK⟩ := hv
  have hx := B.exec
  have hb := B.bytes
  have hr := B.returns
  have hts := atoms_spec (ws := wsX0_handOf) B.pre
  have hown : s.vm.findClass RX0 = some m.cls := findClass_of_methodNamed B.named
  have hlocks := B.notSynchronized
  have hS : va_S no s.heap s.heap [] := va_S.rf
  have hl := lv_entry ([.ref h0, .int p0]) (n := 4) (Nat.le_of_ble_eq_true rfl)
  rw [lg_entry_eq]
  generalize (lg_sl ([.ref h0, .int p0]) ++ List.replicate (4 - (lg_sl ([.ref h0, .int p0])).length) Slot.unset).toArray = ls at hl ⊢
  have hl : lv_has ls 4 [(0, .ref h0), (1, .int p0)] := hl
  refine lv_iconst (v := 0) hx hb dX0_handOf_0 (by decide) ?_
  refine lv_istore_n (lv' := [(2, .int 0), (0, .ref h0), (1, .int p0)]) hx hb dX0_handOf_1 rfl hl (by decide) rfl (fun ls hl => ?_)
  refine lv_iconst (v := 0) hx hb dX0_handOf_2 (by decide) ?_
  refine lv_istore_n (lv' := [(3, .int 0), (2, .int 0), (0, .ref h0), (1, .int p0)]) hx hb dX0_handOf_3 rfl hl (by decide) rfl (fun ls hl => ?_)
  refine lv_iload_n hx hb dX0_handOf_4 rfl (lv_at hl 0 rfl) ?_
  refine lv_aload_n hx hb dX0_handOf_5 rfl (lv_at hl 2 rfl) ?_
  refine va_get (D := G) (ci := 0) (v := .int 0) (C := RX0) (T := TX0) (N := 2) hx hb hts (by decide +kernel) hown hK.1 hP 0 rfl rfl 1 (by decide) (hts (.fieldLink RX0 15 "CardHolder$Bonds" "persons" "I") (by decide +kernel)) (fun _ h9 => h9) rfl dX0_handOf_6 ?_
  refine lv_icmp_ge (tgt := 33) hx hb dX0_handOf_9 (by decide) (fun c_1 => ?_) (fun c_1 => ?_)
  · refine lv_iload_n hx hb dX0_handOf_33 rfl (lv_at hl 1 rfl) ?_
    exact W.iret (v := 0) hx hb hr (fun t ht hW => ⟨⟨0, (), rfl, rfl, trivial⟩, hS.F ht⟩) hS.2.2 dX0_handOf_34
  · exact absurd c_1 (by decide)

set_option maxHeartbeats 4000000 in
set_option maxRecDepth 100000 in
theorem c0_X0_freeOnes (l : Launch) (G : va_G) (ct : Nat → ClassId) (h0 : Nat) (a1 : Nat)  : Met l yX0_freeOnes wsX0_freeOnes ({ frames := 3, cells := 0, slots := 0, locals := 65 }) (va_Pc [.ref h0] (roP G ct [(h0, .inr (0, [.ref a1, .int 0]))])) (roQ (fun r => r = 0)) 0 0 no := by
  refine Met.ofW (cc := cX0_freeOnes) (maxL := 1) (ret := (some .int)) (by decide) rfl ?_
  intro p e s m args below meth c s₁ B hml hv
  obtain ⟨rfl, hP, hK⟩ := hv
  have hx := B.exec
  have hb := B.bytes
  have hr := B.returns
  have hts := atoms_spec (ws := wsX0_freeOnes) B.pre
  have hown : s.vm.findClass RX0 = some m.cls := findClass_of_methodNamed B.named
  have hlocks := B.notSynchronized
  have hS : va_S no s.heap s.heap [] := va_S.rf
  have hl := lv_entry ([.ref h0]) (n := 1) (Nat.le_of_ble_eq_true rfl)
  rw [lg_entry_eq]
  generalize (lg_sl ([.ref h0]) ++ List.replicate (1 - (lg_sl ([.ref h0])).length) Slot.unset).toArray = ls at hl ⊢
  have hl : lv_has ls 1 [(0, .ref h0)] := hl
  refine lv_aload_n hx hb dX0_freeOnes_0 rfl (lv_at hl 0 rfl) ?_
  refine lv_iconst (v := (-1)) hx hb dX0_freeOnes_1 (by decide) ?_
  refine ro_calli (va_runV (As := [.int (-1)]) (rest := []) ⟨hx, hb, hml, hown, hts⟩ (c0_X0_handOf l G ct h0 a1 (-1)) (cwV 1 hts gX0_freeOnes_X0_handOf rfl rfl rfl (by decide +kernel) ⟨Nat.le_of_ble_eq_true rfl, Nat.le_of_ble_eq_true rfl⟩) (ro_preV 0 0 hK (hP.sub [0] rfl) rfl rfl) rfl rfl hl.1 rfl (lv_room (Nat.le_of_ble_eq_true rfl)) dX0_freeOnes_2 ⟨Nat.zero_le _, Nat.zero_le _⟩) hS hP (fun r_1 H locs wr_1 hP hS => ?_)
  obtain rfl := wr_1
  exact W.iret (v := 0) hx hb hr (fun t ht hW => ⟨⟨0, (), rfl, rfl, trivial⟩, hS.F ht⟩) hS.2.2 dX0_freeOnes_5

set_option maxHeartbeats 4000000 in
set_option maxRecDepth 100000 in
theorem c0_X9_forgedCards (l : Launch) (G : va_G) (ct : Nat → ClassId) (h0 : Nat) (b0 : Nat) (a1 : Nat) (t1 : Nat) (t2 : Nat) (t3 : Nat) (t4 : Nat) (i1 : Int32) (i2 : Int32)  : Met l yX9_forgedCards wsX9_forgedCards ({ frames := 2, cells := 0, slots := 0, locals := 42 }) (va_Pc [.ref h0] (roP G ct [(h0, .inr (9, [.ref b0, .ref t1, .ref t2, .ref t3, .ref t4, .int i1, .int i2])), (b0, .inr (0, [.ref a1, .int 0]))])) (roQ (fun r => r = 0)) 0 0 no := by
  refine Met.ofW (cc := cX9_forgedCards) (maxL := 3) (ret := (some .int)) (by decide) rfl ?_
  intro p e s m args below meth c s₁ B hml hv
  obtain ⟨rfl, hP, hK⟩ := hv
  have hx := B.exec
  have hb := B.bytes
  have hr := B.returns
  have hts := atoms_spec (ws := wsX9_forgedCards) B.pre
  have hown : s.vm.findClass RX9 = some m.cls := findClass_of_methodNamed B.named
  have hlocks := B.notSynchronized
  have hS : va_S no s.heap s.heap [] := va_S.rf
  have hl := lv_entry ([.ref h0]) (n := 3) (Nat.le_of_ble_eq_true rfl)
  rw [lg_entry_eq]
  generalize (lg_sl ([.ref h0]) ++ List.replicate (3 - (lg_sl ([.ref h0])).length) Slot.unset).toArray = ls at hl ⊢
  have hl : lv_has ls 3 [(0, .ref h0)] := hl
  refine lv_iconst (v := 0) hx hb dX9_forgedCards_0 (by decide) ?_
  refine lv_istore_n (lv' := [(1, .int 0), (0, .ref h0)]) hx hb dX9_forgedCards_1 rfl hl (by decide) rfl (fun ls hl => ?_)
  refine lv_iconst (v := 0) hx hb dX9_forgedCards_2 (by decide) ?_
  refine lv_istore_n (lv' := [(2, .int 0), (1, .int 0), (0, .ref h0)]) hx hb dX9_forgedCards_3 rfl hl (by decide) rfl (fun ls hl => ?_)
  refine lv_iload_n hx hb dX9_forgedCards_4 rfl (lv_at hl 0 rfl) ?_
  refine lv_aload_n hx hb dX9_forgedCards_5 rfl (lv_at hl 2 rfl) ?_
  refine va_get (D := G) (ci := 9) (v := .ref b0) (C := RX9) (T := TX9) (N := 7) hx hb hts (by decide +kernel) hown hK.1 hP 0 rfl rfl 0 (by decide) (hts (.fieldLink RX9 12 "CardHolder$Town" "bonds" "LCardHolder$Bonds;") (by decide +kernel)) (fun _ h9 => h9) rfl dX9_forgedCards_6 ?_
  refine va_get (D := G) (ci := 0) (v := .int 0) (C := RX0) (T := TX0) (N := 2) hx hb hts (by decide +kernel) hown hK.1 hP 1 rfl rfl 1 (by decide) (hts (.fieldLink RX9 31 "CardHolder$Bonds" "persons" "I") (by decide +kernel)) (fun _ h9 => h9) rfl dX9_forgedCards_9 ?_
  refine lv_icmp_ge (tgt := 29) hx hb dX9_forgedCards_12 (by decide) (fun c_1 => ?_) (fun c_1 => ?_)
  · refine lv_iload_n hx hb dX9_forgedCards_29 rfl (lv_at hl 1 rfl) ?_
    exact W.iret (v := 0) hx hb hr (fun t ht hW => ⟨⟨0, (), rfl, rfl, trivial⟩, hS.F ht⟩) hS.2.2 dX9_forgedCards_30
  · exact absurd c_1 (by decide)

set_option maxHeartbeats 4000000 in
set_option maxRecDepth 100000 in
theorem c0_X6_kept (l : Launch) (G : va_G) (ct : Nat → ClassId) (h0 : Nat) (n0 : Nat) (n1 : Nat) (n2 : Nat)  : Met l yX6_kept wsX6_kept ({ frames := 1, cells := 0, slots := 0, locals := 20 }) (va_Pc [.ref h0] (roP G ct [(h0, .inr (6, [.ref n0, .ref n1, .ref n2, .int 0]))])) (roQ (fun r => r = 0)) 0 0 no := by
  refine Met.ofW (cc := cX6_kept) (maxL := 1) (ret := (some .int)) (by decide) rfl ?_
  intro p e s m args below meth c s₁ B hml hv
  obtain ⟨rfl, hP, hK⟩ := hv
  have hx := B.exec
  have hb := B.bytes
  have hr := B.returns
  have hts := atoms_spec (ws := wsX6_kept) B.pre
  have hown : s.vm.findClass RX6 = some m.cls := findClass_of_methodNamed B.named
  have hlocks := B.notSynchronized
  have hS : va_S no s.heap s.heap [] := va_S.rf
  have hl := lv_entry ([.ref h0]) (n := 1) (Nat.le_of_ble_eq_true rfl)
  rw [lg_entry_eq]
  generalize (lg_sl ([.ref h0]) ++ List.replicate (1 - (lg_sl ([.ref h0])).length) Slot.unset).toArray = ls at hl ⊢
  have hl : lv_has ls 1 [(0, .ref h0)] := hl
  refine lv_aload_n hx hb dX6_kept_0 rfl (lv_at hl 0 rfl) ?_
  refine va_get (D := G) (ci := 6) (v := .int 0) (C := RX6) (T := TX6) (N := 4) hx hb hts (by decide +kernel) hown hK.1 hP 0 rfl rfl 3 (by decide) (hts (.fieldLink RX6 27 "CardHolder$Rows" "keptSlots" "I") (by decide +kernel)) (fun _ h9 => h9) rfl dX6_kept_1 ?_
  refine ro_calli (va_runS (As := [.int 0]) (rest := []) ⟨hx, hb, hml, hown, hts⟩ (c_J6_bitCount_0f7a4 l G ct ) (va_cwS 1 hts gX6_kept_J6_bitCount_0f7a4 rfl rfl rfl (by decide +kernel) ⟨Nat.le_of_ble_eq_true rfl, Nat.le_of_ble_eq_true rfl⟩) (ro_pre hK (hP.sub [] rfl)) rfl rfl hl.1 rfl (lv_room (Nat.le_of_ble_eq_true rfl)) dX6_kept_4 ⟨Nat.zero_le _, Nat.zero_le _⟩) hS hP (fun r_1 H locs wr_1 hP hS => ?_)
  obtain rfl := wr_1
  exact W.iret (v := 0) hx hb hr (fun t ht hW => ⟨⟨0, (), rfl, rfl, trivial⟩, hS.F ht⟩) hS.2.2 dX6_kept_7

set_option maxHeartbeats 4000000 in
set_option maxRecDepth 100000 in
theorem c_X10_bonds (l : Launch) (G : va_G) (ct : Nat → ClassId) (a : Nat → Nat) (rr : Nat → Nat)  : Met l yX10_bonds wsX10_bonds ({ frames := 0, cells := 0, slots := 0, locals := 0 }) (va_Pc [.ref (a 0)] (roP G ct (xF a rr ct))) (roQr (a 20)) 0 0 no := by
  refine Met.ofW (cc := cX10_bonds) (maxL := 1) (ret := (some (.object "CardHolder$Bonds"))) (by decide) rfl ?_
  intro p e s m args below meth c s₁ B hml hv
  obtain ⟨rfl, hP, hK⟩ := hv
  have hx := B.exec
  have hb := B.bytes
  have hr := B.returns
  have hts := atoms_spec (ws := wsX10_bonds) B.pre
  have hown : s.vm.findClass RX10 = some m.cls := findClass_of_methodNamed B.named
  have hlocks := B.notSynchronized
  have hS : va_S no s.heap s.heap [] := va_S.rf
  have hl := lv_entry ([.ref (a 0)]) (n := 1) (Nat.le_of_ble_eq_true rfl)
  rw [lg_entry_eq]
  generalize (lg_sl ([.ref (a 0)]) ++ List.replicate (1 - (lg_sl ([.ref (a 0)])).length) Slot.unset).toArray = ls at hl ⊢
  have hl : lv_has ls 1 [(0, .ref (a 0))] := hl
  refine lv_aload_n hx hb dX10_bonds_0 rfl (lv_at hl 0 rfl) ?_
  refine va_get (D := G) (ci := 10) (v := .ref (a 11)) (C := RX10) (T := TX10) (N := 11) hx hb hts (by decide +kernel) hown hK.1 hP 0 rfl rfl 2 (by decide) (hts (.fieldLink RX10 28 "CardHolder" "play" "LCardHolder$Play;") (by decide +kernel)) (fun _ h9 => h9) rfl dX10_bonds_1 ?_
  refine va_get (D := G) (ci := 4) (v := .ref (a 19)) (C := RX4) (T := TX4) (N := 4) hx hb hts (by decide +kernel) hown hK.1 hP 11 rfl rfl 1 (by decide) (hts (.fieldLink RX10 147 "CardHolder$Play" "hands" "LCardHolder$Hands;") (by decide +kernel)) (fun _ h9 => h9) rfl dX10_bonds_4 ?_
  refine va_get (D := G) (ci := 2) (v := .ref (a 20)) (C := RX2) (T := TX2) (N := 8) hx hb hts (by decide +kernel) hown hK.1 hP 19 rfl rfl 1 (by decide) (hts (.fieldLink RX10 366 "CardHolder$Hands" "bonds" "LCardHolder$Bonds;") (by decide +kernel)) (fun _ h9 => h9) rfl dX10_bonds_7 ?_
  exact W.aret (v := .ref (a 20)) hx hb hr (Or.inl ⟨_, rfl⟩) (Or.inr ⟨_, rfl⟩) (fun t ht hW => ⟨⟨(), (a 20), rfl, trivial, rfl⟩, hS.F ht⟩) hS.2.2 dX10_bonds_10

set_option maxHeartbeats 4000000 in
set_option maxRecDepth 100000 in
theorem c_X10_count (l : Launch) (G : va_G) (ct : Nat → ClassId) (a : Nat → Nat) (rr : Nat → Nat) (p0 : Int32)  : Met l yX10_count wsX10_count ({ frames := 4, cells := 0, slots := 0, locals := 85 }) (va_Pc [.ref (a 0), .int p0] (roP G ct (xF a rr ct))) (roQ (fun r => r = fCount p0)) 0 0 no := by
  refine Met.ofW (cc := cX10_count) (maxL := 2) (ret := (some .int)) (by decide) rfl ?_
  intro p e s m args below meth c s₁ B hml hv
  obtain ⟨rfl, hP, hK⟩ := hv
  have hx := B.exec
  have hb := B.bytes
  have hr := B.returns
  have hts := atoms_spec (ws := wsX10_count) B.pre
  have hown : s.vm.findClass RX10 = some m.cls := findClass_of_methodNamed B.named
  have hlocks := B.notSynchronized
  have hS : va_S no s.heap s.heap [] := va_S.rf
  have hl := lv_entry ([.ref (a 0), .int p0]) (n := 2) (Nat.le_of_ble_eq_true rfl)
  rw [lg_entry_eq]
  generalize (lg_sl ([.ref (a 0), .int p0]) ++ List.replicate (2 - (lg_sl ([.ref (a 0), .int p0])).length) Slot.unset).toArray = ls at hl ⊢
  have hl : lv_has ls 2 [(0, .ref (a 0)), (1, .int p0)] := hl
  refine lv_iload_n hx hb dX10_count_0 rfl (lv_at hl 1 rfl) ?_
  by_cases h_1 : p0 = 0 ∨ p0 = 1 ∨ p0 = 2 ∨ p0 = 3 ∨ p0 = 4 ∨ p0 = 5 ∨ p0 = 6 ∨ p0 = 7
  · rcases h_1 with h_1 | h_1 | h_1 | h_1 | h_1 | h_1 | h_1 | h_1
    · refine lv_tableIn (tgt := 48) hx hb dX10_count_1 (by rw [h_1]; decide) (by rw [h_1]; decide) (by rw [h_1]; rfl) (by decide) ?_
      refine lv_aload_n hx hb dX10_count_48 rfl (lv_at hl 0 rfl) ?_
      refine ro_callr (va_runV (As := []) (rest := []) ⟨hx, hb, hml, hown, hts⟩ (c_X10_bonds l G ct a rr) (cwV 0 hts gX10_count_X10_bonds rfl rfl rfl (by decide +kernel) ⟨Nat.le_of_ble_eq_true rfl, Nat.le_of_ble_eq_true rfl⟩) (ro_preV 10 0 hK hP rfl rfl) rfl rfl hl.1 rfl (lv_room (Nat.le_of_ble_eq_true rfl)) dX10_count_49 ⟨Nat.zero_le _, Nat.zero_le _⟩) hS hP (fun H locs hP hS => ?_)
      refine va_get (D := G) (ci := 0) (v := .int 0) (C := RX0) (T := TX0) (N := 2) hx hb hts (by decide +kernel) hown hK.1 hP 20 rfl rfl 1 (by decide) (hts (.fieldLink RX10 238 "CardHolder$Bonds" "persons" "I") (by decide +kernel)) (fun _ h9 => h9) rfl dX10_count_52 ?_
      exact W.iret (v := 0) hx hb hr (fun t ht hW => ⟨⟨0, (), rfl, by have f0 := i_eq h_1; have : (0 : Int32).toInt = 0 := (by decide); show (0 : Int32) = fCount p0; unfold fCount; (repeat' split) <;> first | rfl | (exfalso; omega), trivial⟩, hS.F ht⟩) hS.2.2 dX10_count_55
    · refine lv_tableIn (tgt := 56) hx hb dX10_count_1 (by rw [h_1]; decide) (by rw [h_1]; decide) (by rw [h_1]; rfl) (by decide) ?_
      refine lv_aload_n hx hb dX10_count_56 rfl (lv_at hl 0 rfl) ?_
      refine va_get (D := G) (ci := 10) (v := .ref (a 11)) (C := RX10) (T := TX10) (N := 11) hx hb hts (by decide +kernel) hown hK.1 hP 0 rfl rfl 2 (by decide) (hts (.fieldLink RX10 28 "CardHolder" "play" "LCardHolder$Play;") (by decide +kernel)) (fun _ h9 => h9) rfl dX10_count_57 ?_
      refine va_get (D := G) (ci := 4) (v := .ref (a 12)) (C := RX4) (T := TX4) (N := 4) hx hb hts (by decide +kernel) hown hK.1 hP 11 rfl rfl 0 (by decide) (hts (.fieldLink RX10 49 "CardHolder$Play" "town" "LCardHolder$Town;") (by decide +kernel)) (fun _ h9 => h9) rfl dX10_count_60 ?_
      refine va_get (D := G) (ci := 9) (v := .int 0) (C := RX9) (T := TX9) (N := 7) hx hb hts (by decide +kernel) hown hK.1 hP 12 rfl rfl 6 (by decide) (hts (.fieldLink RX10 387 "CardHolder$Town" "wear" "I") (by decide +kernel)) (fun _ h9 => h9) rfl dX10_count_63 ?_
      exact W.iret (v := 0) hx hb hr (fun t ht hW => ⟨⟨0, (), rfl, by have f0 := i_eq h_1; have : (0 : Int32).toInt = 0 := (by decide); have : (1 : Int32).toInt = 1 := (by decide); show (0 : Int32) = fCount p0; unfold fCount; (repeat' split) <;> first | rfl | (exfalso; omega), trivial⟩, hS.F ht⟩) hS.2.2 dX10_count_66
    · refine lv_tableIn (tgt := 67) hx hb dX10_count_1 (by rw [h_1]; decide) (by rw [h_1]; decide) (by rw [h_1]; rfl) (by decide) ?_
      refine lv_aload_n hx hb dX10_count_67 rfl (lv_at hl 0 rfl) ?_
      refine ro_callr (va_runV (As := []) (rest := []) ⟨hx, hb, hml, hown, hts⟩ (c_X10_bonds l G ct a rr) (cwV 0 hts gX10_count_X10_bonds rfl rfl rfl (by decide +kernel) ⟨Nat.le_of_ble_eq_true rfl, Nat.le_of_ble_eq_true rfl⟩) (ro_preV 10 0 hK hP rfl rfl) rfl rfl hl.1 rfl (lv_room (Nat.le_of_ble_eq_true rfl)) dX10_count_68 ⟨Nat.zero_le _, Nat.zero_le _⟩) hS hP (fun H locs hP hS => ?_)
      refine va_get (D := G) (ci := 0) (v := .int 0) (C := RX0) (T := TX0) (N := 2) hx hb hts (by decide +kernel) hown hK.1 hP 20 rfl rfl 1 (by decide) (hts (.fieldLink RX10 238 "CardHolder$Bonds" "persons" "I") (by decide +kernel)) (fun _ h9 => h9) rfl dX10_count_71 ?_
      refine lv_aload_n hx hb dX10_count_74 rfl (lv_at hl 0 rfl) ?_
      refine ro_callr (va_runV (As := []) (rest := [.int 0]) ⟨hx, hb, hml, hown, hts⟩ (c_X10_bonds l G ct a rr) (cwV 0 hts gX10_count_X10_bonds rfl rfl rfl (by decide +kernel) ⟨Nat.le_of_ble_eq_true rfl, Nat.le_of_ble_eq_true rfl⟩) (ro_preV 10 0 hK hP rfl rfl) rfl rfl hl.1 rfl (lv_room (Nat.le_of_ble_eq_true rfl)) dX10_count_75 ⟨Nat.zero_le _, Nat.zero_le _⟩) hS hP (fun H locs hP hS => ?_)
      refine ro_calli (va_runV (As := []) (rest := [.int 0]) ⟨hx, hb, hml, hown, hts⟩ (c0_X0_freeOnes l G ct (a 20) (a 21)) (cwV 0 hts gX10_count_X0_freeOnes rfl rfl rfl (by decide +kernel) ⟨Nat.le_of_ble_eq_true rfl, Nat.le_of_ble_eq_true rfl⟩) (ro_preV 0 0 hK (hP.sub [20] rfl) rfl rfl) rfl rfl hl.1 rfl (lv_room (Nat.le_of_ble_eq_true rfl)) dX10_count_78 ⟨Nat.zero_le _, Nat.zero_le _⟩) hS hP (fun r_2 H locs wr_2 hP hS => ?_)
      obtain rfl := wr_2
      refine ro_calli (va_runS (As := [.int 0]) (rest := [.int 0]) ⟨hx, hb, hml, hown, hts⟩ (c_J6_bitCount_0f7a4 l G ct ) (va_cwS 1 hts gX10_count_J6_bitCount_0f7a4 rfl rfl rfl (by decide +kernel) ⟨Nat.le_of_ble_eq_true rfl, Nat.le_of_ble_eq_true rfl⟩) (ro_pre hK (hP.sub [] rfl)) rfl rfl hl.1 rfl (lv_room (Nat.le_of_ble_eq_true rfl)) dX10_count_81 ⟨Nat.zero_le _, Nat.zero_le _⟩) hS hP (fun r_3 H locs wr_3 hP hS => ?_)
      obtain rfl := wr_3
      refine lv_isub hx hb dX10_count_84 ?_
      refine ix_i (y := 0) (by decide) ?_
      exact W.iret (v := 0) hx hb hr (fun t ht hW => ⟨⟨0, (), rfl, by have f0 := i_eq h_1; have : (0 : Int32).toInt = 0 := (by decide); have : (2 : Int32).toInt = 2 := (by decide); show (0 : Int32) = fCount p0; unfold fCount; (repeat' split) <;> first | rfl | (exfalso; omega), trivial⟩, hS.F ht⟩) hS.2.2 dX10_count_85
    · refine lv_tableIn (tgt := 86) hx hb dX10_count_1 (by rw [h_1]; decide) (by rw [h_1]; decide) (by rw [h_1]; rfl) (by decide) ?_
      refine lv_aload_n hx hb dX10_count_86 rfl (lv_at hl 0 rfl) ?_
      refine va_get (D := G) (ci := 10) (v := .ref (a 11)) (C := RX10) (T := TX10) (N := 11) hx hb hts (by decide +kernel) hown hK.1 hP 0 rfl rfl 2 (by decide) (hts (.fieldLink RX10 28 "CardHolder" "play" "LCardHolder$Play;") (by decide +kernel)) (fun _ h9 => h9) rfl dX10_count_87 ?_
      refine va_get (D := G) (ci := 4) (v := .ref (a 12)) (C := RX4) (T := TX4) (N := 4) hx hb hts (by decide +kernel) hown hK.1 hP 11 rfl rfl 0 (by decide) (hts (.fieldLink RX10 49 "CardHolder$Play" "town" "LCardHolder$Town;") (by decide +kernel)) (fun _ h9 => h9) rfl dX10_count_90 ?_
      refine ro_calli (va_runV (As := []) (rest := []) ⟨hx, hb, hml, hown, hts⟩ (c0_X9_forgedCards l G ct (a 12) (a 13) (a 14) (a 15) (a 16) (a 17) (a 18) 0 0) (cwV 0 hts gX10_count_X9_forgedCards rfl rfl rfl (by decide +kernel) ⟨Nat.le_of_ble_eq_true rfl, Nat.le_of_ble_eq_true rfl⟩) (ro_preV 9 0 hK (hP.sub [12, 13] rfl) rfl rfl) rfl rfl hl.1 rfl (lv_room (Nat.le_of_ble_eq_true rfl)) dX10_count_93 ⟨Nat.zero_le _, Nat.zero_le _⟩) hS hP (fun r_4 H locs wr_4 hP hS => ?_)
      obtain rfl := wr_4
      exact W.iret (v := 0) hx hb hr (fun t ht hW => ⟨⟨0, (), rfl, by have f0 := i_eq h_1; have : (0 : Int32).toInt = 0 := (by decide); have : (3 : Int32).toInt = 3 := (by decide); show (0 : Int32) = fCount p0; unfold fCount; (repeat' split) <;> first | rfl | (exfalso; omega), trivial⟩, hS.F ht⟩) hS.2.2 dX10_count_96
    · refine lv_tableIn (tgt := 97) hx hb dX10_count_1 (by rw [h_1]; decide) (by rw [h_1]; decide) (by rw [h_1]; rfl) (by decide) ?_
      refine lv_aload_n hx hb dX10_count_97 rfl (lv_at hl 0 rfl) ?_
      refine va_get (D := G) (ci := 10) (v := .ref (a 11)) (C := RX10) (T := TX10) (N := 11) hx hb hts (by decide +kernel) hown hK.1 hP 0 rfl rfl 2 (by decide) (hts (.fieldLink RX10 28 "CardHolder" "play" "LCardHolder$Play;") (by decide +kernel)) (fun _ h9 => h9) rfl dX10_count_98 ?_
      refine va_get (D := G) (ci := 4) (v := .int 0) (C := RX4) (T := TX4) (N := 4) hx hb hts (by decide +kernel) hown hK.1 hP 11 rfl rfl 3 (by decide) (hts (.fieldLink RX10 226 "CardHolder$Play" "acts" "I") (by decide +kernel)) (fun _ h9 => h9) rfl dX10_count_101 ?_
      exact W.iret (v := 0) hx hb hr (fun t ht hW => ⟨⟨0, (), rfl, by have f0 := i_eq h_1; have : (0 : Int32).toInt = 0 := (by decide); have : (4 : Int32).toInt = 4 := (by decide); show (0 : Int32) = fCount p0; unfold fCount; (repeat' split) <;> first | rfl | (exfalso; omega), trivial⟩, hS.F ht⟩) hS.2.2 dX10_count_104
    · refine lv_tableIn (tgt := 105) hx hb dX10_count_1 (by rw [h_1]; decide) (by rw [h_1]; decide) (by rw [h_1]; rfl) (by decide) ?_
      refine lv_aload_n hx hb dX10_count_105 rfl (lv_at hl 0 rfl) ?_
      refine va_get (D := G) (ci := 10) (v := .ref (a 11)) (C := RX10) (T := TX10) (N := 11) hx hb hts (by decide +kernel) hown hK.1 hP 0 rfl rfl 2 (by decide) (hts (.fieldLink RX10 28 "CardHolder" "play" "LCardHolder$Play;") (by decide +kernel)) (fun _ h9 => h9) rfl dX10_count_106 ?_
      refine va_get (D := G) (ci := 4) (v := .ref (a 12)) (C := RX4) (T := TX4) (N := 4) hx hb hts (by decide +kernel) hown hK.1 hP 11 rfl rfl 0 (by decide) (hts (.fieldLink RX10 49 "CardHolder$Play" "town" "LCardHolder$Town;") (by decide +kernel)) (fun _ h9 => h9) rfl dX10_count_109 ?_
      refine va_get (D := G) (ci := 9) (v := .int 0) (C := RX9) (T := TX9) (N := 7) hx hb hts (by decide +kernel) hown hK.1 hP 12 rfl rfl 5 (by decide) (hts (.fieldLink RX10 113 "CardHolder$Town" "lines" "I") (by decide +kernel)) (fun _ h9 => h9) rfl dX10_count_112 ?_
      exact W.iret (v := 0) hx hb hr (fun t ht hW => ⟨⟨0, (), rfl, by have f0 := i_eq h_1; have : (0 : Int32).toInt = 0 := (by decide); have : (5 : Int32).toInt = 5 := (by decide); show (0 : Int32) = fCount p0; unfold fCount; (repeat' split) <;> first | rfl | (exfalso; omega), trivial⟩, hS.F ht⟩) hS.2.2 dX10_count_115
    · refine lv_tableIn (tgt := 116) hx hb dX10_count_1 (by rw [h_1]; decide) (by rw [h_1]; decide) (by rw [h_1]; rfl) (by decide) ?_
      refine lv_aload_n hx hb dX10_count_116 rfl (lv_at hl 0 rfl) ?_
      refine va_get (D := G) (ci := 10) (v := .ref (a 1)) (C := RX10) (T := TX10) (N := 11) hx hb hts (by decide +kernel) hown hK.1 hP 0 rfl rfl 0 (by decide) (hts (.fieldLink RX10 10 "CardHolder" "tape" "LCardHolder$Tape;") (by decide +kernel)) (fun _ h9 => h9) rfl dX10_count_117 ?_
      refine va_get (D := G) (ci := 8) (v := .int 0) (C := RX8) (T := TX8) (N := 2) hx hb hts (by decide +kernel) hown hK.1 hP 1 rfl rfl 1 (by decide) (hts (.fieldLink RX10 96 "CardHolder$Tape" "size" "I") (by decide +kernel)) (fun _ h9 => h9) rfl dX10_count_120 ?_
      exact W.iret (v := 0) hx hb hr (fun t ht hW => ⟨⟨0, (), rfl, by have f0 := i_eq h_1; have : (0 : Int32).toInt = 0 := (by decide); have : (6 : Int32).toInt = 6 := (by decide); show (0 : Int32) = fCount p0; unfold fCount; (repeat' split) <;> first | rfl | (exfalso; omega), trivial⟩, hS.F ht⟩) hS.2.2 dX10_count_123
    · refine lv_tableIn (tgt := 124) hx hb dX10_count_1 (by rw [h_1]; decide) (by rw [h_1]; decide) (by rw [h_1]; rfl) (by decide) ?_
      refine lv_aload_n hx hb dX10_count_124 rfl (lv_at hl 0 rfl) ?_
      refine va_get (D := G) (ci := 10) (v := .ref (a 69)) (C := RX10) (T := TX10) (N := 11) hx hb hts (by decide +kernel) hown hK.1 hP 0 rfl rfl 5 (by decide) (hts (.fieldLink RX10 43 "CardHolder" "rows" "LCardHolder$Rows;") (by decide +kernel)) (fun _ h9 => h9) rfl dX10_count_125 ?_
      refine ro_calli (va_runV (As := []) (rest := []) ⟨hx, hb, hml, hown, hts⟩ (c0_X6_kept l G ct (a 69) (a 70) (a 75) (a 76)) (cwV 0 hts gX10_count_X6_kept rfl rfl rfl (by decide +kernel) ⟨Nat.le_of_ble_eq_true rfl, Nat.le_of_ble_eq_true rfl⟩) (ro_preV 6 0 hK (hP.sub [69] rfl) rfl rfl) rfl rfl hl.1 rfl (lv_room (Nat.le_of_ble_eq_true rfl)) dX10_count_128 ⟨Nat.zero_le _, Nat.zero_le _⟩) hS hP (fun r_5 H locs wr_5 hP hS => ?_)
      obtain rfl := wr_5
      exact W.iret (v := 0) hx hb hr (fun t ht hW => ⟨⟨0, (), rfl, by have f0 := i_eq h_1; have : (0 : Int32).toInt = 0 := (by decide); have : (7 : Int32).toInt = 7 := (by decide); show (0 : Int32) = fCount p0; unfold fCount; (repeat' split) <;> first | rfl | (exfalso; omega), trivial⟩, hS.F ht⟩) hS.2.2 dX10_count_131
  · obtain ⟨d_6, h_1⟩ := not_or.mp h_1
    obtain ⟨d_7, h_1⟩ := not_or.mp h_1
    obtain ⟨d_8, h_1⟩ := not_or.mp h_1
    obtain ⟨d_9, h_1⟩ := not_or.mp h_1
    obtain ⟨d_10, h_1⟩ := not_or.mp h_1
    obtain ⟨d_11, h_1⟩ := not_or.mp h_1
    obtain ⟨d_12, h_1⟩ := not_or.mp h_1
    have d_13 := h_1
    refine lv_tableOut (tgt := 132) hx hb dX10_count_1 (by have := i_ne d_6; have := i_ne d_7; have := i_ne d_8; have := i_ne d_9; have := i_ne d_10; have := i_ne d_11; have := i_ne d_12; have := i_ne d_13; have : (0 : Int32).toInt = 0 := (by decide); have : (1 : Int32).toInt = 1 := (by decide); have : (2 : Int32).toInt = 2 := (by decide); have : (3 : Int32).toInt = 3 := (by decide); have : (4 : Int32).toInt = 4 := (by decide); have : (5 : Int32).toInt = 5 := (by decide); have : (6 : Int32).toInt = 6 := (by decide); have : (7 : Int32).toInt = 7 := (by decide); omega) (by decide) ?_
    refine lv_iconst (v := (-1)) hx hb dX10_count_132 (by decide) ?_
    exact W.iret (v := (-1)) hx hb hr (fun t ht hW => ⟨⟨(-1), (), rfl, by have f0 := i_ne d_6; have f1 := i_ne d_7; have f2 := i_ne d_8; have f3 := i_ne d_9; have f4 := i_ne d_10; have f5 := i_ne d_11; have f6 := i_ne d_12; have f7 := i_ne d_13; have : ((-1) : Int32).toInt = -1 := (by decide); have : (0 : Int32).toInt = 0 := (by decide); have : (1 : Int32).toInt = 1 := (by decide); have : (2 : Int32).toInt = 2 := (by decide); have : (3 : Int32).toInt = 3 := (by decide); have : (4 : Int32).toInt = 4 := (by decide); have : (5 : Int32).toInt = 5 := (by decide); have : (6 : Int32).toInt = 6 := (by decide); have : (7 : Int32).toInt = 7 := (by decide); show ((-1) : Int32) = fCount p0; unfold fCount; (repeat' split) <;> first | rfl | (exfalso; omega), trivial⟩, hS.F ht⟩) hS.2.2 dX10_count_133

set_option maxHeartbeats 4000000 in
set_option maxRecDepth 100000 in
theorem c_X10_back (l : Launch) (G : va_G) (ct : Nat → ClassId) (a : Nat → Nat) (rr : Nat → Nat) (p0 : Int32)  : Met l yX10_back wsX10_back ({ frames := 6, cells := 0, slots := 0, locals := 145 }) (va_Pc [.ref (a 0), .int p0] (roP G ct (xF a rr ct))) (roQ (fun r => r = fBack p0)) 0 0 no := by
  refine Met.ofW (cc := cX10_back) (maxL := 2) (ret := (some .int)) (by decide) rfl ?_
  intro p e s m args below meth c s₁ B hml hv
  obtain ⟨rfl, hP, hK⟩ := hv
  have hx := B.exec
  have hb := B.bytes
  have hr := B.returns
  have hts := atoms_spec (ws := wsX10_back) B.pre
  have hown : s.vm.findClass RX10 = some m.cls := findClass_of_methodNamed B.named
  have hlocks := B.notSynchronized
  have hS : va_S no s.heap s.heap [] := va_S.rf
  have hl := lv_entry ([.ref (a 0), .int p0]) (n := 2) (Nat.le_of_ble_eq_true rfl)
  rw [lg_entry_eq]
  generalize (lg_sl ([.ref (a 0), .int p0]) ++ List.replicate (2 - (lg_sl ([.ref (a 0), .int p0])).length) Slot.unset).toArray = ls at hl ⊢
  have hl : lv_has ls 2 [(0, .ref (a 0)), (1, .int p0)] := hl
  refine lv_iload_n hx hb dX10_back_0 rfl (lv_at hl 1 rfl) ?_
  refine lv_if_lt (tgt := 9) hx hb dX10_back_1 (by decide) (fun c_1 => ?_) (fun c_1 => ?_)
  · refine lv_bipush (v := (-2)) hx hb dX10_back_9 (by decide) ?_
    exact W.iret (v := (-2)) hx hb hr (fun t ht hW => ⟨⟨(-2), (), rfl, by have f0 := i_lt c_1; have : ((-2) : Int32).toInt = -2 := (by decide); have : (0 : Int32).toInt = 0 := (by decide); show ((-2) : Int32) = fBack p0; unfold fBack; (repeat' split) <;> first | rfl | (exfalso; omega), trivial⟩, hS.F ht⟩) hS.2.2 dX10_back_11
  · refine lv_iload_n hx hb dX10_back_4 rfl (lv_at hl 1 rfl) ?_
    refine lv_iconst (v := 3) hx hb dX10_back_5 (by decide) ?_
    refine lv_icmp_lt (tgt := 12) hx hb dX10_back_6 (by decide) (fun c_2 => ?_) (fun c_2 => ?_)
    · refine lv_aload_n hx hb dX10_back_12 rfl (lv_at hl 0 rfl) ?_
      refine va_get (D := G) (ci := 10) (v := .ref (a 68)) (C := RX10) (T := TX10) (N := 11) hx hb hts (by decide +kernel) hown hK.1 hP 0 rfl rfl 4 (by decide) (hts (.fieldLink RX10 36 "CardHolder" "kept" "[Z") (by decide +kernel)) (fun _ h9 => h9) rfl dX10_back_13 ?_
      refine lv_iload_n hx hb dX10_back_16 rfl (lv_at hl 1 rfl) ?_
      refine va_zald hx hb hK.1 hP 68 2 rfl rfl (in_of (by have f0 := i_nlt c_1; have f1 := i_lt c_2; have : (0 : Int32).toInt = 0 := (by decide); have : (3 : Int32).toInt = 3 := (by decide); omega) (by have f0 := i_nlt c_1; have f1 := i_lt c_2; have : (0 : Int32).toInt = 0 := (by decide); have : (3 : Int32).toInt = 3 := (by decide); omega)) dX10_back_17 ?_
      refine ix_i (y := 0) rfl ?_
      refine lv_if_ne (tgt := 24) hx hb dX10_back_18 (by decide) (fun c_3 => ?_) (fun c_3 => ?_)
      · exact absurd c_3 (by decide)
      · refine lv_bipush (v := (-6)) hx hb dX10_back_21 (by decide) ?_
        exact W.iret (v := (-6)) hx hb hr (fun t ht hW => ⟨⟨(-6), (), rfl, by have f0 := i_nlt c_1; have f1 := i_lt c_2; have f2 := i_eq c_3; have : ((-6) : Int32).toInt = -6 := (by decide); have : (0 : Int32).toInt = 0 := (by decide); have : (3 : Int32).toInt = 3 := (by decide); show ((-6) : Int32) = fBack p0; unfold fBack; (repeat' split) <;> first | rfl | (exfalso; omega), trivial⟩, hS.F ht⟩) hS.2.2 dX10_back_23
    · refine lv_bipush (v := (-2)) hx hb dX10_back_9 (by decide) ?_
      exact W.iret (v := (-2)) hx hb hr (fun t ht hW => ⟨⟨(-2), (), rfl, by have f0 := i_nlt c_1; have f1 := i_nlt c_2; have : ((-2) : Int32).toInt = -2 := (by decide); have : (0 : Int32).toInt = 0 := (by decide); have : (3 : Int32).toInt = 3 := (by decide); show ((-2) : Int32) = fBack p0; unfold fBack; (repeat' split) <;> first | rfl | (exfalso; omega), trivial⟩, hS.F ht⟩) hS.2.2 dX10_back_11

set_option maxHeartbeats 4000000 in
set_option maxRecDepth 100000 in
theorem c_X10_bitOf (l : Launch) (G : va_G) (ct : Nat → ClassId) (p0 : Int32) (p1 : Int32)  : Met l yX10_bitOf wsX10_bitOf ({ frames := 0, cells := 0, slots := 0, locals := 0 }) (va_Pc [.int p0, .int p1] (roP G ct [])) (roQ (fun r => r = (p0 >>> (p1 &&& 31)) &&& 1)) 0 0 no := by
  refine Met.ofW (cc := cX10_bitOf) (maxL := 2) (ret := (some .int)) (by decide) rfl ?_
  intro p e s m args below meth c s₁ B hml hv
  obtain ⟨rfl, hP, hK⟩ := hv
  have hx := B.exec
  have hb := B.bytes
  have hr := B.returns
  have hts := atoms_spec (ws := wsX10_bitOf) B.pre
  have hown : s.vm.findClass RX10 = some m.cls := findClass_of_methodNamed B.named
  have hlocks := B.notSynchronized
  have hS : va_S no s.heap s.heap [] := va_S.rf
  have hl := lv_entry ([.int p0, .int p1]) (n := 2) (Nat.le_of_ble_eq_true rfl)
  rw [lg_entry_eq]
  generalize (lg_sl ([.int p0, .int p1]) ++ List.replicate (2 - (lg_sl ([.int p0, .int p1])).length) Slot.unset).toArray = ls at hl ⊢
  have hl : lv_has ls 2 [(0, .int p0), (1, .int p1)] := hl
  refine lv_iload_n hx hb dX10_bitOf_0 rfl (lv_at hl 0 rfl) ?_
  refine lv_iload_n hx hb dX10_bitOf_1 rfl (lv_at hl 1 rfl) ?_
  refine lv_ishr hx hb dX10_bitOf_2 ?_
  refine lv_iconst (v := 1) hx hb dX10_bitOf_3 (by decide) ?_
  refine lv_iand hx hb dX10_bitOf_4 ?_
  exact W.iret (v := (p0 >>> (p1 &&& 31)) &&& 1) hx hb hr (fun t ht hW => ⟨⟨(p0 >>> (p1 &&& 31)) &&& 1, (), rfl, rfl, trivial⟩, hS.F ht⟩) hS.2.2 dX10_bitOf_5

set_option maxHeartbeats 4000000 in
set_option maxRecDepth 100000 in
theorem c0_X6_isKept (l : Launch) (G : va_G) (ct : Nat → ClassId) (h0 : Nat) (n0 : Nat) (n1 : Nat) (n2 : Nat) (p0 : Int32)  : Met l yX6_isKept wsX6_isKept ({ frames := 1, cells := 0, slots := 0, locals := 21 }) (va_Pc [.ref h0, .int p0] (roP G ct [(h0, .inr (6, [.ref n0, .ref n1, .ref n2, .int 0]))])) (roQ (fun r => r = 0)) 0 0 no := by
  refine Met.ofW (cc := cX6_isKept) (maxL := 2) (ret := (some .boolean)) (by decide) rfl ?_
  intro p e s m args below meth c s₁ B hml hv
  obtain ⟨rfl, hP, hK⟩ := hv
  have hx := B.exec
  have hb := B.bytes
  have hr := B.returns
  have hts := atoms_spec (ws := wsX6_isKept) B.pre
  have hown : s.vm.findClass RX6 = some m.cls := findClass_of_methodNamed B.named
  have hlocks := B.notSynchronized
  have hS : va_S no s.heap s.heap [] := va_S.rf
  have hl := lv_entry ([.ref h0, .int p0]) (n := 2) (Nat.le_of_ble_eq_true rfl)
  rw [lg_entry_eq]
  generalize (lg_sl ([.ref h0, .int p0]) ++ List.replicate (2 - (lg_sl ([.ref h0, .int p0])).length) Slot.unset).toArray = ls at hl ⊢
  have hl : lv_has ls 2 [(0, .ref h0), (1, .int p0)] := hl
  refine lv_aload_n hx hb dX6_isKept_0 rfl (lv_at hl 0 rfl) ?_
  refine lv_iload_n hx hb dX6_isKept_1 rfl (lv_at hl 1 rfl) ?_
  refine ro_calli (va_runV (As := [.int p0]) (rest := []) ⟨hx, hb, hml, hown, hts⟩ (c_X6_isSlot l G ct h0 n0 n1 n2 0 p0) (cwV 1 hts gX6_isKept_X6_isSlot rfl rfl rfl (by decide +kernel) ⟨Nat.le_of_ble_eq_true rfl, Nat.le_of_ble_eq_true rfl⟩) (ro_preV 6 0 hK (hP.sub [0] rfl) rfl rfl) rfl rfl hl.1 rfl (lv_room (Nat.le_of_ble_eq_true rfl)) dX6_isKept_2 ⟨Nat.zero_le _, Nat.zero_le _⟩) hS hP (fun r_1 H locs wr_1 hP hS => ?_)
  refine lv_if_eq (tgt := 24) hx hb dX6_isKept_5 (by decide) (fun c_2 => ?_) (fun c_2 => ?_)
  · refine lv_iconst (v := 0) hx hb dX6_isKept_24 (by decide) ?_
    exact W.zret (v := 0) (ty := .boolean) hx hb hr (rfl) (fun t ht hW => ⟨⟨0, (), rfl, rfl, trivial⟩, hS.F ht⟩) hS.2.2 dX6_isKept_25
  · refine lv_aload_n hx hb dX6_isKept_8 rfl (lv_at hl 0 rfl) ?_
    refine va_get (D := G) (ci := 6) (v := .int 0) (C := RX6) (T := TX6) (N := 4) hx hb hts (by decide +kernel) hown hK.1 hP 0 rfl rfl 3 (by decide) (hts (.fieldLink RX6 27 "CardHolder$Rows" "keptSlots" "I") (by decide +kernel)) (fun _ h9 => h9) rfl dX6_isKept_9 ?_
    refine lv_iload_n hx hb dX6_isKept_12 rfl (lv_at hl 1 rfl) ?_
    refine ro_calli (va_runSN (As := [.int 0, .int p0]) (rest := []) ⟨hx, hb, hml, hown, hts⟩ (c_X10_bitOf l G ct 0 p0) ⟨va_cnB 2 hts gX6_isKept_X10_bitOf_n31 rfl rfl rfl (hK.2.1 (RX6, 31, yX10_bitOf, "CardHolder") (by decide +kernel)) (hts (.initialized RX10) (by decide +kernel)) (by decide +kernel) ⟨Nat.le_of_ble_eq_true rfl, Nat.le_of_ble_eq_true rfl⟩, hts (.static yX10_bitOf) (by decide +kernel), trivial⟩ (ro_pre hK (hP.sub [] rfl)) rfl rfl hl.1 rfl (lv_room (Nat.le_of_ble_eq_true rfl)) dX6_isKept_13 ⟨Nat.zero_le _, Nat.zero_le _⟩) hS hP (fun r_3 H locs wr_3 hP hS => ?_)
    obtain rfl := (wr_3).trans (bit0 _)
    refine lv_iconst (v := 1) hx hb dX6_isKept_16 (by decide) ?_
    refine lv_icmp_ne (tgt := 24) hx hb dX6_isKept_17 (by decide) (fun c_4 => ?_) (fun c_4 => ?_)
    · refine lv_iconst (v := 0) hx hb dX6_isKept_24 (by decide) ?_
      exact W.zret (v := 0) (ty := .boolean) hx hb hr (rfl) (fun t ht hW => ⟨⟨0, (), rfl, rfl, trivial⟩, hS.F ht⟩) hS.2.2 dX6_isKept_25
    · exact absurd c_4 (by decide)

set_option maxHeartbeats 4000000 in
set_option maxRecDepth 100000 in
theorem c_X10_write (l : Launch) (G : va_G) (ct : Nat → ClassId) (a : Nat → Nat) (rr : Nat → Nat) (p0 : Int32) (p1 : Int32) (p2 : Int64)  : Met l yX10_write wsX10_write ({ frames := 4, cells := 0, slots := 0, locals := 89 }) (va_Pc [.ref (a 0), .int p0, .int p1, .long p2] (roP G ct (xF a rr ct))) (roQ (fun r => r = fWrite p0)) 0 0 no := by
  refine Met.ofW (cc := cX10_write) (maxL := 5) (ret := (some .int)) (by decide) rfl ?_
  intro p e s m args below meth c s₁ B hml hv
  obtain ⟨rfl, hP, hK⟩ := hv
  have hx := B.exec
  have hb := B.bytes
  have hr := B.returns
  have hts := atoms_spec (ws := wsX10_write) B.pre
  have hown : s.vm.findClass RX10 = some m.cls := findClass_of_methodNamed B.named
  have hlocks := B.notSynchronized
  have hS : va_S no s.heap s.heap [] := va_S.rf
  have hl := lv_entry ([.ref (a 0), .int p0, .int p1, .long p2]) (n := 5) (Nat.le_of_ble_eq_true rfl)
  rw [lg_entry_eq]
  generalize (lg_sl ([.ref (a 0), .int p0, .int p1, .long p2]) ++ List.replicate (5 - (lg_sl ([.ref (a 0), .int p0, .int p1, .long p2])).length) Slot.unset).toArray = ls at hl ⊢
  have hl : lv_has ls 5 [(0, .ref (a 0)), (1, .int p0), (2, .int p1), (3, .long p2)] := hl
  refine lv_aload_n hx hb dX10_write_0 rfl (lv_at hl 0 rfl) ?_
  refine va_get (D := G) (ci := 10) (v := .ref (a 69)) (C := RX10) (T := TX10) (N := 11) hx hb hts (by decide +kernel) hown hK.1 hP 0 rfl rfl 5 (by decide) (hts (.fieldLink RX10 43 "CardHolder" "rows" "LCardHolder$Rows;") (by decide +kernel)) (fun _ h9 => h9) rfl dX10_write_1 ?_
  refine lv_iload_n hx hb dX10_write_4 rfl (lv_at hl 1 rfl) ?_
  refine ro_calli (va_runV (As := [.int p0]) (rest := []) ⟨hx, hb, hml, hown, hts⟩ (c_X6_isSlot l G ct (a 69) (a 70) (a 75) (a 76) 0 p0) (cwV 1 hts gX10_write_X6_isSlot rfl rfl rfl (by decide +kernel) ⟨Nat.le_of_ble_eq_true rfl, Nat.le_of_ble_eq_true rfl⟩) (ro_preV 6 0 hK (hP.sub [69] rfl) rfl rfl) rfl rfl hl.1 rfl (lv_room (Nat.le_of_ble_eq_true rfl)) dX10_write_5 ⟨Nat.zero_le _, Nat.zero_le _⟩) hS hP (fun r_1 H locs wr_1 hP hS => ?_)
  refine lv_if_ne (tgt := 14) hx hb dX10_write_8 (by decide) (fun c_2 => ?_) (fun c_2 => ?_)
  · refine lv_aload_n hx hb dX10_write_14 rfl (lv_at hl 0 rfl) ?_
    refine va_get (D := G) (ci := 10) (v := .ref (a 69)) (C := RX10) (T := TX10) (N := 11) hx hb hts (by decide +kernel) hown hK.1 hP 0 rfl rfl 5 (by decide) (hts (.fieldLink RX10 43 "CardHolder" "rows" "LCardHolder$Rows;") (by decide +kernel)) (fun _ h9 => h9) rfl dX10_write_15 ?_
    refine lv_iload_n hx hb dX10_write_18 rfl (lv_at hl 1 rfl) ?_
    refine ro_calli (va_runV (As := [.int p0]) (rest := []) ⟨hx, hb, hml, hown, hts⟩ (c0_X6_isKept l G ct (a 69) (a 70) (a 75) (a 76) p0) (cwV 1 hts gX10_write_X6_isKept rfl rfl rfl (by decide +kernel) ⟨Nat.le_of_ble_eq_true rfl, Nat.le_of_ble_eq_true rfl⟩) (ro_preV 6 0 hK (hP.sub [69] rfl) rfl rfl) rfl rfl hl.1 rfl (lv_room (Nat.le_of_ble_eq_true rfl)) dX10_write_19 ⟨Nat.zero_le _, Nat.zero_le _⟩) hS hP (fun r_3 H locs wr_3 hP hS => ?_)
    obtain rfl := wr_3
    refine lv_if_ne (tgt := 28) hx hb dX10_write_22 (by decide) (fun c_4 => ?_) (fun c_4 => ?_)
    · exact absurd c_4 (by decide)
    · refine lv_bipush (v := (-6)) hx hb dX10_write_25 (by decide) ?_
      exact W.iret (v := (-6)) hx hb hr (fun t ht hW => ⟨⟨(-6), (), rfl, by have f0 := i_ne c_2; have f1 := i_eq c_4; have gwr_1 := wr_1; unfold slotP at gwr_1; have : ((-6) : Int32).toInt = -6 := (by decide); have : (0 : Int32).toInt = 0 := (by decide); show ((-6) : Int32) = fWrite p0; unfold fWrite; (repeat' split) <;> first | rfl | (exfalso; omega), trivial⟩, hS.F ht⟩) hS.2.2 dX10_write_27
  · refine lv_bipush (v := (-2)) hx hb dX10_write_11 (by decide) ?_
    exact W.iret (v := (-2)) hx hb hr (fun t ht hW => ⟨⟨(-2), (), rfl, by have f0 := i_eq c_2; have gwr_1 := wr_1; unfold slotP at gwr_1; have : ((-2) : Int32).toInt = -2 := (by decide); have : (0 : Int32).toInt = 0 := (by decide); show ((-2) : Int32) = fWrite p0; unfold fWrite; (repeat' split) <;> first | rfl | (exfalso; omega), trivial⟩, hS.F ht⟩) hS.2.2 dX10_write_13

set_option maxHeartbeats 4000000 in
set_option maxRecDepth 100000 in
theorem c_X10_paste (l : Launch) (G : va_G) (ct : Nat → ClassId) (a : Nat → Nat) (rr : Nat → Nat) (p0 : Int32) (p1 : Int32) (p2 : Int32) (p3 : Int32) (p4 : Int32)  : Met l yX10_paste wsX10_paste ({ frames := 3, cells := 0, slots := 0, locals := 65 }) (va_Pc [.ref (a 0), .int p0, .int p1, .int p2, .int p3, .int p4] (roP G ct (xF a rr ct))) (roQ (fun r => r = fPaste p0 p2)) 0 0 no := by
  refine Met.ofW (cc := cX10_paste) (maxL := 6) (ret := (some .int)) (by decide) rfl ?_
  intro p e s m args below meth c s₁ B hml hv
  obtain ⟨rfl, hP, hK⟩ := hv
  have hx := B.exec
  have hb := B.bytes
  have hr := B.returns
  have hts := atoms_spec (ws := wsX10_paste) B.pre
  have hown : s.vm.findClass RX10 = some m.cls := findClass_of_methodNamed B.named
  have hlocks := B.notSynchronized
  have hS : va_S no s.heap s.heap [] := va_S.rf
  have hl := lv_entry ([.ref (a 0), .int p0, .int p1, .int p2, .int p3, .int p4]) (n := 6) (Nat.le_of_ble_eq_true rfl)
  rw [lg_entry_eq]
  generalize (lg_sl ([.ref (a 0), .int p0, .int p1, .int p2, .int p3, .int p4]) ++ List.replicate (6 - (lg_sl ([.ref (a 0), .int p0, .int p1, .int p2, .int p3, .int p4])).length) Slot.unset).toArray = ls at hl ⊢
  have hl : lv_has ls 6 [(0, .ref (a 0)), (1, .int p0), (2, .int p1), (3, .int p2), (4, .int p3), (5, .int p4)] := hl
  refine lv_aload_n hx hb dX10_paste_0 rfl (lv_at hl 0 rfl) ?_
  refine va_get (D := G) (ci := 10) (v := .ref (a 69)) (C := RX10) (T := TX10) (N := 11) hx hb hts (by decide +kernel) hown hK.1 hP 0 rfl rfl 5 (by decide) (hts (.fieldLink RX10 43 "CardHolder" "rows" "LCardHolder$Rows;") (by decide +kernel)) (fun _ h9 => h9) rfl dX10_paste_1 ?_
  refine lv_iload_n hx hb dX10_paste_4 rfl (lv_at hl 1 rfl) ?_
  refine ro_calli (va_runV (As := [.int p0]) (rest := []) ⟨hx, hb, hml, hown, hts⟩ (c_X6_isSlot l G ct (a 69) (a 70) (a 75) (a 76) 0 p0) (cwV 1 hts gX10_paste_X6_isSlot rfl rfl rfl (by decide +kernel) ⟨Nat.le_of_ble_eq_true rfl, Nat.le_of_ble_eq_true rfl⟩) (ro_preV 6 0 hK (hP.sub [69] rfl) rfl rfl) rfl rfl hl.1 rfl (lv_room (Nat.le_of_ble_eq_true rfl)) dX10_paste_5 ⟨Nat.zero_le _, Nat.zero_le _⟩) hS hP (fun r_1 H locs wr_1 hP hS => ?_)
  refine lv_if_eq (tgt := 22) hx hb dX10_paste_8 (by decide) (fun c_2 => ?_) (fun c_2 => ?_)
  · refine lv_bipush (v := (-2)) hx hb dX10_paste_22 (by decide) ?_
    exact W.iret (v := (-2)) hx hb hr (fun t ht hW => ⟨⟨(-2), (), rfl, by have f0 := i_eq c_2; have gwr_1 := wr_1; unfold slotP at gwr_1; have : ((-2) : Int32).toInt = -2 := (by decide); have : (0 : Int32).toInt = 0 := (by decide); show ((-2) : Int32) = fPaste p0 p2; unfold fPaste; (repeat' split) <;> first | rfl | (exfalso; omega), trivial⟩, hS.F ht⟩) hS.2.2 dX10_paste_24
  · refine lv_aload_n hx hb dX10_paste_11 rfl (lv_at hl 0 rfl) ?_
    refine va_get (D := G) (ci := 10) (v := .ref (a 69)) (C := RX10) (T := TX10) (N := 11) hx hb hts (by decide +kernel) hown hK.1 hP 0 rfl rfl 5 (by decide) (hts (.fieldLink RX10 43 "CardHolder" "rows" "LCardHolder$Rows;") (by decide +kernel)) (fun _ h9 => h9) rfl dX10_paste_12 ?_
    refine lv_iload_n hx hb dX10_paste_15 rfl (lv_at hl 3 rfl) ?_
    refine ro_calli (va_runV (As := [.int p2]) (rest := []) ⟨hx, hb, hml, hown, hts⟩ (c_X6_isSlot l G ct (a 69) (a 70) (a 75) (a 76) 0 p2) (cwV 1 hts gX10_paste_X6_isSlot rfl rfl rfl (by decide +kernel) ⟨Nat.le_of_ble_eq_true rfl, Nat.le_of_ble_eq_true rfl⟩) (ro_preV 6 0 hK (hP.sub [69] rfl) rfl rfl) rfl rfl hl.1 rfl (lv_room (Nat.le_of_ble_eq_true rfl)) dX10_paste_16 ⟨Nat.zero_le _, Nat.zero_le _⟩) hS hP (fun r_3 H locs wr_3 hP hS => ?_)
    refine lv_if_ne (tgt := 25) hx hb dX10_paste_19 (by decide) (fun c_4 => ?_) (fun c_4 => ?_)
    · refine lv_aload_n hx hb dX10_paste_25 rfl (lv_at hl 0 rfl) ?_
      refine va_get (D := G) (ci := 10) (v := .ref (a 69)) (C := RX10) (T := TX10) (N := 11) hx hb hts (by decide +kernel) hown hK.1 hP 0 rfl rfl 5 (by decide) (hts (.fieldLink RX10 43 "CardHolder" "rows" "LCardHolder$Rows;") (by decide +kernel)) (fun _ h9 => h9) rfl dX10_paste_26 ?_
      refine lv_iload_n hx hb dX10_paste_29 rfl (lv_at hl 1 rfl) ?_
      refine ro_calli (va_runV (As := [.int p0]) (rest := []) ⟨hx, hb, hml, hown, hts⟩ (c0_X6_isKept l G ct (a 69) (a 70) (a 75) (a 76) p0) (cwV 1 hts gX10_paste_X6_isKept rfl rfl rfl (by decide +kernel) ⟨Nat.le_of_ble_eq_true rfl, Nat.le_of_ble_eq_true rfl⟩) (ro_preV 6 0 hK (hP.sub [69] rfl) rfl rfl) rfl rfl hl.1 rfl (lv_room (Nat.le_of_ble_eq_true rfl)) dX10_paste_30 ⟨Nat.zero_le _, Nat.zero_le _⟩) hS hP (fun r_5 H locs wr_5 hP hS => ?_)
      obtain rfl := wr_5
      refine lv_if_eq (tgt := 47) hx hb dX10_paste_33 (by decide) (fun c_6 => ?_) (fun c_6 => ?_)
      · refine lv_bipush (v := (-6)) hx hb dX10_paste_47 (by decide) ?_
        exact W.iret (v := (-6)) hx hb hr (fun t ht hW => ⟨⟨(-6), (), rfl, by have f0 := i_ne c_2; have f1 := i_ne c_4; have f2 := i_eq c_6; have gwr_1 := wr_1; unfold slotP at gwr_1; have gwr_3 := wr_3; unfold slotP at gwr_3; have : ((-6) : Int32).toInt = -6 := (by decide); have : (0 : Int32).toInt = 0 := (by decide); show ((-6) : Int32) = fPaste p0 p2; unfold fPaste; (repeat' split) <;> first | rfl | (exfalso; omega), trivial⟩, hS.F ht⟩) hS.2.2 dX10_paste_49
      · exact absurd c_6 (by decide)
    · refine lv_bipush (v := (-2)) hx hb dX10_paste_22 (by decide) ?_
      exact W.iret (v := (-2)) hx hb hr (fun t ht hW => ⟨⟨(-2), (), rfl, by have f0 := i_ne c_2; have f1 := i_eq c_4; have gwr_1 := wr_1; unfold slotP at gwr_1; have gwr_3 := wr_3; unfold slotP at gwr_3; have : ((-2) : Int32).toInt = -2 := (by decide); have : (0 : Int32).toInt = 0 := (by decide); show ((-2) : Int32) = fPaste p0 p2; unfold fPaste; (repeat' split) <;> first | rfl | (exfalso; omega), trivial⟩, hS.F ht⟩) hS.2.2 dX10_paste_24
