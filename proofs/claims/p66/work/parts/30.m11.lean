theorem dX11_duel_0 : decode cX11_duel 0 = .ok (.aload_n 0, 1) := by decide +kernel
theorem dX11_duel_1 : decode cX11_duel 1 = .ok (.iconst 0, 1) := by decide +kernel
theorem dX11_duel_2 : decode cX11_duel 2 = .ok (.putfield 59, 3) := by decide +kernel
theorem dX11_duel_5 : decode cX11_duel 5 = .ok (.aload_n 0, 1) := by decide +kernel
theorem dX11_duel_6 : decode cX11_duel 6 = .ok (.iload_n 1, 1) := by decide +kernel
theorem dX11_duel_7 : decode cX11_duel 7 = .ok (.iload_n 2, 1) := by decide +kernel
set_option maxRecDepth 20000 in
theorem ggX11_duel_X11_isDuel : GoodIn wsX11_duel wsX11_isDuel := goodIn_r _ [8, 9, 10, 11, 7, 12, 13, 14, 15, 16, 2, 17, 18, 19, 20, 21, 22, 23, 24, 25, 26, 27, 28, 3, 29, 30, 31, 32, 33, 34, 35, 36, 37, 38, 39, 40, 41, 42, 43, 44, 45, 46, 47, 48, 49, 50, 51, 52, 53, 54, 55, 56, 57, 58, 59, 60, 61, 62, 69, 70, 71, 72, 73, 74, 75, 76, 77, 78, 79, 80, 81, 82, 83, 84, 85, 86, 87, 88, 89, 90, 91, 92, 93, 94, 95, 96, 97, 98, 99] (by rfl) (by decide +kernel)
set_option maxRecDepth 20000 in
theorem gX11_duel_X11_isDuel : GoodIn wsX11_duel (wsV RX11 355 RX11 yX11_isDuel wsX11_isDuel) := goodIn_app (goodIn_r _ [4, 5, 6, 7] (by rfl) (by decide +kernel)) ggX11_duel_X11_isDuel
theorem dX11_duel_8 : decode cX11_duel 8 = .ok (.invokevirtual 355, 3) := by decide +kernel
theorem dX11_duel_11 : decode cX11_duel 11 = .ok (.ifCond .eq 13, 3) := by decide +kernel
theorem dX11_duel_24 : decode cX11_duel 24 = .ok (.bipush (-2), 2) := by decide +kernel
theorem dX11_duel_26 : decode cX11_duel 26 = .ok (.ireturn, 1) := by decide +kernel
theorem dX11_duel_14 : decode cX11_duel 14 = .ok (.iload_n 3, 1) := by decide +kernel
theorem dX11_duel_15 : decode cX11_duel 15 = .ok (.i2l, 1) := by decide +kernel
theorem dX11_duel_16 : decode cX11_duel 16 = .ok (.lconst 0, 1) := by decide +kernel
theorem dX11_duel_17 : decode cX11_duel 17 = .ok (.lconst 1, 1) := by decide +kernel
set_option maxRecDepth 20000 in
theorem ggX11_duel_X11_in : GoodIn wsX11_duel wsX11_in := goodIn_r _ [19] (by rfl) (by decide +kernel)
set_option maxRecDepth 20000 in
theorem gX11_duel_X11_in : GoodIn wsX11_duel (va_wsS RX11 64 yX11_in wsX11_in) := goodIn_app (goodIn_r _ [17, 18, 7] (by rfl) (by decide +kernel)) ggX11_duel_X11_in
theorem dX11_duel_18 : decode cX11_duel 18 = .ok (.invokestatic 64, 3) := by decide +kernel
theorem dX11_duel_21 : decode cX11_duel 21 = .ok (.ifCond .ne 6, 3) := by decide +kernel
theorem dX11_duel_27 : decode cX11_duel 27 = .ok (.iconst 0, 1) := by decide +kernel
theorem dX11_duel_28 : decode cX11_duel 28 = .ok (.istore 4, 2) := by decide +kernel
theorem dX11_duel_30 : decode cX11_duel 30 = .ok (.aload_n 0, 1) := by decide +kernel
theorem dX11_duel_31 : decode cX11_duel 31 = .ok (.iload_n 1, 1) := by decide +kernel
set_option maxRecDepth 20000 in
theorem ggX11_duel_X11_handOf : GoodIn wsX11_duel wsX11_handOf := goodIn_r _ [62, 2, 3, 69, 70, 71, 72, 73, 74, 75, 76, 77, 78, 79, 80, 81, 82, 83, 84, 85, 86, 87, 88, 89, 90, 91, 92, 93, 94, 95, 96, 97, 98, 99] (by rfl) (by decide +kernel)
set_option maxRecDepth 20000 in
theorem gX11_duel_X11_handOf : GoodIn wsX11_duel (wsV RX11 254 RX11 yX11_handOf wsX11_handOf) := goodIn_app (goodIn_r _ [59, 60, 61, 7] (by rfl) (by decide +kernel)) ggX11_duel_X11_handOf
theorem dX11_duel_32 : decode cX11_duel 32 = .ok (.invokevirtual 254, 3) := by decide +kernel
set_option maxRecDepth 20000 in
theorem ggX11_duel_X11_sizeOf : GoodIn wsX11_duel wsX11_sizeOf := goodIn_r _ [65] (by rfl) (by decide +kernel)
set_option maxRecDepth 20000 in
theorem gX11_duel_X11_sizeOf : GoodIn wsX11_duel (va_wsS RX11 297 yX11_sizeOf wsX11_sizeOf) := goodIn_app (goodIn_r _ [63, 64, 7] (by rfl) (by decide +kernel)) ggX11_duel_X11_sizeOf
theorem dX11_duel_35 : decode cX11_duel 35 = .ok (.invokestatic 297, 3) := by decide +kernel
theorem dX11_duel_38 : decode cX11_duel 38 = .ok (.aload_n 0, 1) := by decide +kernel
theorem dX11_duel_39 : decode cX11_duel 39 = .ok (.iload_n 2, 1) := by decide +kernel
theorem dX11_duel_40 : decode cX11_duel 40 = .ok (.invokevirtual 254, 3) := by decide +kernel
theorem dX11_duel_43 : decode cX11_duel 43 = .ok (.invokestatic 297, 3) := by decide +kernel
theorem dX11_duel_46 : decode cX11_duel 46 = .ok (.imul, 1) := by decide +kernel
theorem dX11_duel_47 : decode cX11_duel 47 = .ok (.istore 5, 2) := by decide +kernel
theorem dX11_duel_49 : decode cX11_duel 49 = .ok (.iconst 0, 1) := by decide +kernel
theorem dX11_duel_50 : decode cX11_duel 50 = .ok (.istore 6, 2) := by decide +kernel
theorem dX11_duel_52 : decode cX11_duel 52 = .ok (.iload 6, 2) := by decide +kernel
theorem dX11_duel_54 : decode cX11_duel 54 = .ok (.aload_n 0, 1) := by decide +kernel
theorem dX11_duel_55 : decode cX11_duel 55 = .ok (.getfield 34, 3) := by decide +kernel
theorem dX11_duel_58 : decode cX11_duel 58 = .ok (.iconst 1, 1) := by decide +kernel
theorem dX11_duel_59 : decode cX11_duel 59 = .ok (.iaload, 1) := by decide +kernel
theorem dX11_duel_60 : decode cX11_duel 60 = .ok (.if_icmp .ge 71, 3) := by decide +kernel
theorem dX11_duel_131 : decode cX11_duel 131 = .ok (.iload_n 3, 1) := by decide +kernel
theorem dX11_duel_132 : decode cX11_duel 132 = .ok (.ifCond .ne 8, 3) := by decide +kernel
theorem dX11_duel_140 : decode cX11_duel 140 = .ok (.iload 5, 2) := by decide +kernel
theorem dX11_duel_142 : decode cX11_duel 142 = .ok (.iload 4, 2) := by decide +kernel
theorem dX11_duel_144 : decode cX11_duel 144 = .ok (.iload 5, 2) := by decide +kernel
set_option maxRecDepth 20000 in
theorem ggX11_duel_X11_common : GoodIn wsX11_duel wsX11_common := goodIn_r _ [68, 66, 67, 7] (by rfl) (by decide +kernel)
set_option maxRecDepth 20000 in
theorem gX11_duel_X11_common : GoodIn wsX11_duel (va_wsS RX11 352 yX11_common wsX11_common) := goodIn_app (goodIn_r _ [66, 67, 7] (by rfl) (by decide +kernel)) ggX11_duel_X11_common
theorem dX11_duel_146 : decode cX11_duel 146 = .ok (.invokestatic 352, 3) := by decide +kernel
theorem dX11_duel_149 : decode cX11_duel 149 = .ok (.idiv, 1) := by decide +kernel
theorem dX11_duel_150 : decode cX11_duel 150 = .ok (.ireturn, 1) := by decide +kernel
theorem dX11_duel_135 : decode cX11_duel 135 = .ok (.iload 4, 2) := by decide +kernel
theorem dX11_duel_137 : decode cX11_duel 137 = .ok (.goto 5, 3) := by decide +kernel
theorem dX11_duel_63 : decode cX11_duel 63 = .ok (.iconst 0, 1) := by decide +kernel
theorem dX11_duel_64 : decode cX11_duel 64 = .ok (.istore 7, 2) := by decide +kernel
theorem dX11_duel_66 : decode cX11_duel 66 = .ok (.iload 7, 2) := by decide +kernel
theorem dX11_duel_68 : decode cX11_duel 68 = .ok (.aload_n 0, 1) := by decide +kernel
theorem dX11_duel_69 : decode cX11_duel 69 = .ok (.getfield 34, 3) := by decide +kernel
theorem dX11_duel_72 : decode cX11_duel 72 = .ok (.iconst 1, 1) := by decide +kernel
theorem dX11_duel_73 : decode cX11_duel 73 = .ok (.iaload, 1) := by decide +kernel
theorem dX11_duel_74 : decode cX11_duel 74 = .ok (.if_icmp .ge 51, 3) := by decide +kernel
theorem dX11_duel_125 : decode cX11_duel 125 = .ok (.iinc 6 1, 3) := by decide +kernel
theorem dX11_duel_128 : decode cX11_duel 128 = .ok (.goto (-76), 3) := by decide +kernel
theorem dX11_duel_77 : decode cX11_duel 77 = .ok (.aload_n 0, 1) := by decide +kernel
theorem dX11_duel_78 : decode cX11_duel 78 = .ok (.getfield 47, 3) := by decide +kernel
theorem dX11_duel_81 : decode cX11_duel 81 = .ok (.iload 6, 2) := by decide +kernel
theorem dX11_duel_83 : decode cX11_duel 83 = .ok (.iaload, 1) := by decide +kernel
theorem dX11_duel_84 : decode cX11_duel 84 = .ok (.iload_n 1, 1) := by decide +kernel
theorem dX11_duel_85 : decode cX11_duel 85 = .ok (.if_icmp .ne 34, 3) := by decide +kernel
theorem dX11_duel_119 : decode cX11_duel 119 = .ok (.iinc 7 1, 3) := by decide +kernel
theorem dX11_duel_122 : decode cX11_duel 122 = .ok (.goto (-56), 3) := by decide +kernel
theorem dX11_duel_88 : decode cX11_duel 88 = .ok (.aload_n 0, 1) := by decide +kernel
theorem dX11_duel_89 : decode cX11_duel 89 = .ok (.getfield 47, 3) := by decide +kernel
theorem dX11_duel_92 : decode cX11_duel 92 = .ok (.iload 7, 2) := by decide +kernel
theorem dX11_duel_94 : decode cX11_duel 94 = .ok (.iaload, 1) := by decide +kernel
theorem dX11_duel_95 : decode cX11_duel 95 = .ok (.iload_n 2, 1) := by decide +kernel
theorem dX11_duel_96 : decode cX11_duel 96 = .ok (.if_icmp .ne 23, 3) := by decide +kernel
theorem dX11_duel_99 : decode cX11_duel 99 = .ok (.aload_n 0, 1) := by decide +kernel
theorem dX11_duel_100 : decode cX11_duel 100 = .ok (.iload 6, 2) := by decide +kernel
theorem dX11_duel_102 : decode cX11_duel 102 = .ok (.iconst 0, 1) := by decide +kernel
set_option maxRecDepth 20000 in
theorem ggX11_duel_X11_of : GoodIn wsX11_duel wsX11_of := goodIn_r _ [38, 39, 69, 70, 71, 72, 73, 74, 75, 76, 77, 78, 79, 80, 81, 82, 83, 84, 85, 86, 87, 88, 89, 90, 91, 92, 93, 94, 95, 96, 97, 98, 99] (by rfl) (by decide +kernel)
set_option maxRecDepth 20000 in
theorem gX11_duel_X11_of : GoodIn wsX11_duel (wsV RX11 214 RX11 yX11_of wsX11_of) := goodIn_app (goodIn_r _ [35, 36, 37, 7] (by rfl) (by decide +kernel)) ggX11_duel_X11_of
theorem dX11_duel_103 : decode cX11_duel 103 = .ok (.invokevirtual 214, 3) := by decide +kernel
theorem dX11_duel_106 : decode cX11_duel 106 = .ok (.aload_n 0, 1) := by decide +kernel
theorem dX11_duel_107 : decode cX11_duel 107 = .ok (.iload 7, 2) := by decide +kernel
theorem dX11_duel_109 : decode cX11_duel 109 = .ok (.iconst 0, 1) := by decide +kernel
theorem dX11_duel_110 : decode cX11_duel 110 = .ok (.invokevirtual 214, 3) := by decide +kernel
theorem dX11_duel_113 : decode cX11_duel 113 = .ok (.if_icmp .le 6, 3) := by decide +kernel
theorem dX11_duel_116 : decode cX11_duel 116 = .ok (.iinc 4 1, 3) := by decide +kernel
theorem dX11_wonBy_0 : decode cX11_wonBy 0 = .ok (.aload_n 0, 1) := by decide +kernel
theorem dX11_wonBy_1 : decode cX11_wonBy 1 = .ok (.iload_n 1, 1) := by decide +kernel
theorem dX11_wonBy_2 : decode cX11_wonBy 2 = .ok (.iconst 0, 1) := by decide +kernel
set_option maxRecDepth 20000 in
theorem ggX11_wonBy_X11_of : GoodIn wsX11_wonBy wsX11_of := goodIn_r _ [5, 6, 7, 8, 9, 10, 11, 12, 13, 14, 15, 16, 17, 18, 19, 20, 21, 22, 23, 24, 25, 26, 27, 28, 29, 30, 31, 32, 33, 34, 35, 36, 37] (by rfl) (by decide +kernel)
set_option maxRecDepth 20000 in
theorem gX11_wonBy_X11_of : GoodIn wsX11_wonBy (wsV RX11 214 RX11 yX11_of wsX11_of) := goodIn_app (goodIn_r _ [1, 2, 3, 4] (by rfl) (by decide +kernel)) ggX11_wonBy_X11_of
theorem dX11_wonBy_3 : decode cX11_wonBy 3 = .ok (.invokevirtual 214, 3) := by decide +kernel
theorem dX11_wonBy_6 : decode cX11_wonBy 6 = .ok (.aload_n 0, 1) := by decide +kernel
theorem dX11_wonBy_7 : decode cX11_wonBy 7 = .ok (.iload_n 2, 1) := by decide +kernel
theorem dX11_wonBy_8 : decode cX11_wonBy 8 = .ok (.iconst 0, 1) := by decide +kernel
theorem dX11_wonBy_9 : decode cX11_wonBy 9 = .ok (.invokevirtual 214, 3) := by decide +kernel
theorem dX11_wonBy_12 : decode cX11_wonBy 12 = .ok (.if_icmp .le 12, 3) := by decide +kernel
theorem dX11_wonBy_24 : decode cX11_wonBy 24 = .ok (.aload_n 0, 1) := by decide +kernel
theorem dX11_wonBy_25 : decode cX11_wonBy 25 = .ok (.iload_n 1, 1) := by decide +kernel
theorem dX11_wonBy_26 : decode cX11_wonBy 26 = .ok (.iconst 0, 1) := by decide +kernel
theorem dX11_wonBy_27 : decode cX11_wonBy 27 = .ok (.invokevirtual 214, 3) := by decide +kernel
theorem dX11_wonBy_30 : decode cX11_wonBy 30 = .ok (.aload_n 0, 1) := by decide +kernel
theorem dX11_wonBy_31 : decode cX11_wonBy 31 = .ok (.iload_n 2, 1) := by decide +kernel
theorem dX11_wonBy_32 : decode cX11_wonBy 32 = .ok (.iconst 0, 1) := by decide +kernel
theorem dX11_wonBy_33 : decode cX11_wonBy 33 = .ok (.invokevirtual 214, 3) := by decide +kernel
theorem dX11_wonBy_36 : decode cX11_wonBy 36 = .ok (.if_icmp .ge 13, 3) := by decide +kernel
theorem dX11_wonBy_49 : decode cX11_wonBy 49 = .ok (.iconst 0, 1) := by decide +kernel
theorem dX11_wonBy_50 : decode cX11_wonBy 50 = .ok (.ireturn, 1) := by decide +kernel
theorem dX11_wonBy_39 : decode cX11_wonBy 39 = .ok (.aload_n 0, 1) := by decide +kernel
theorem dX11_wonBy_40 : decode cX11_wonBy 40 = .ok (.iload_n 1, 1) := by decide +kernel
theorem dX11_wonBy_41 : decode cX11_wonBy 41 = .ok (.iconst 0, 1) := by decide +kernel
theorem dX11_wonBy_42 : decode cX11_wonBy 42 = .ok (.invokevirtual 214, 3) := by decide +kernel
theorem dX11_wonBy_45 : decode cX11_wonBy 45 = .ok (.ineg, 1) := by decide +kernel
theorem dX11_wonBy_46 : decode cX11_wonBy 46 = .ok (.goto 4, 3) := by decide +kernel
theorem dX11_wonBy_15 : decode cX11_wonBy 15 = .ok (.aload_n 0, 1) := by decide +kernel
theorem dX11_wonBy_16 : decode cX11_wonBy 16 = .ok (.iload_n 2, 1) := by decide +kernel
theorem dX11_wonBy_17 : decode cX11_wonBy 17 = .ok (.iconst 0, 1) := by decide +kernel
theorem dX11_wonBy_18 : decode cX11_wonBy 18 = .ok (.invokevirtual 214, 3) := by decide +kernel
theorem dX11_wonBy_21 : decode cX11_wonBy 21 = .ok (.goto 29, 3) := by decide +kernel
theorem dX11_replyTo_0 : decode cX11_replyTo 0 = .ok (.iconst (-1), 1) := by decide +kernel
theorem dX11_replyTo_1 : decode cX11_replyTo 1 = .ok (.istore_n 3, 1) := by decide +kernel
theorem dX11_replyTo_2 : decode cX11_replyTo 2 = .ok (.iconst 0, 1) := by decide +kernel
theorem dX11_replyTo_3 : decode cX11_replyTo 3 = .ok (.istore 4, 2) := by decide +kernel
theorem dX11_replyTo_5 : decode cX11_replyTo 5 = .ok (.iload 4, 2) := by decide +kernel
theorem dX11_replyTo_7 : decode cX11_replyTo 7 = .ok (.aload_n 0, 1) := by decide +kernel
theorem dX11_replyTo_8 : decode cX11_replyTo 8 = .ok (.getfield 34, 3) := by decide +kernel
theorem dX11_replyTo_11 : decode cX11_replyTo 11 = .ok (.iconst 1, 1) := by decide +kernel
theorem dX11_replyTo_12 : decode cX11_replyTo 12 = .ok (.iaload, 1) := by decide +kernel
theorem dX11_replyTo_13 : decode cX11_replyTo 13 = .ok (.if_icmp .ge 44, 3) := by decide +kernel
theorem dX11_replyTo_57 : decode cX11_replyTo 57 = .ok (.iload_n 3, 1) := by decide +kernel
theorem dX11_replyTo_58 : decode cX11_replyTo 58 = .ok (.ireturn, 1) := by decide +kernel
theorem dX11_replyTo_16 : decode cX11_replyTo 16 = .ok (.aload_n 0, 1) := by decide +kernel
theorem dX11_replyTo_17 : decode cX11_replyTo 17 = .ok (.getfield 47, 3) := by decide +kernel
theorem dX11_replyTo_20 : decode cX11_replyTo 20 = .ok (.iload 4, 2) := by decide +kernel
theorem dX11_replyTo_22 : decode cX11_replyTo 22 = .ok (.iaload, 1) := by decide +kernel
theorem dX11_replyTo_23 : decode cX11_replyTo 23 = .ok (.iload_n 2, 1) := by decide +kernel
theorem dX11_replyTo_24 : decode cX11_replyTo 24 = .ok (.if_icmp .ne 27, 3) := by decide +kernel
theorem dX11_replyTo_51 : decode cX11_replyTo 51 = .ok (.iinc 4 1, 3) := by decide +kernel
theorem dX11_replyTo_54 : decode cX11_replyTo 54 = .ok (.goto (-49), 3) := by decide +kernel
theorem dX11_replyTo_27 : decode cX11_replyTo 27 = .ok (.iload_n 3, 1) := by decide +kernel
theorem dX11_replyTo_28 : decode cX11_replyTo 28 = .ok (.iconst (-1), 1) := by decide +kernel
theorem dX11_replyTo_29 : decode cX11_replyTo 29 = .ok (.if_icmp .eq 19, 3) := by decide +kernel
theorem dX11_replyTo_48 : decode cX11_replyTo 48 = .ok (.iload 4, 2) := by decide +kernel
theorem dX11_replyTo_50 : decode cX11_replyTo 50 = .ok (.istore_n 3, 1) := by decide +kernel
theorem dX11_replyTo_32 : decode cX11_replyTo 32 = .ok (.aload_n 0, 1) := by decide +kernel
theorem dX11_replyTo_33 : decode cX11_replyTo 33 = .ok (.iload_n 1, 1) := by decide +kernel
theorem dX11_replyTo_34 : decode cX11_replyTo 34 = .ok (.iload 4, 2) := by decide +kernel
set_option maxRecDepth 20000 in
theorem ggX11_replyTo_X11_wonBy : GoodIn wsX11_replyTo wsX11_wonBy := goodIn_r _ [7, 8, 9, 10, 6, 11, 12, 13, 14, 15, 16, 17, 18, 19, 20, 21, 22, 23, 24, 25, 26, 27, 28, 29, 30, 31, 32, 33, 34, 35, 36, 37, 38, 39, 40, 41, 42, 43] (by rfl) (by decide +kernel)
set_option maxRecDepth 20000 in
theorem gX11_replyTo_X11_wonBy : GoodIn wsX11_replyTo (wsV RX11 358 RX11 yX11_wonBy wsX11_wonBy) := goodIn_app (goodIn_r _ [3, 4, 5, 6] (by rfl) (by decide +kernel)) ggX11_replyTo_X11_wonBy
theorem dX11_replyTo_36 : decode cX11_replyTo 36 = .ok (.invokevirtual 358, 3) := by decide +kernel
theorem dX11_replyTo_39 : decode cX11_replyTo 39 = .ok (.aload_n 0, 1) := by decide +kernel
theorem dX11_replyTo_40 : decode cX11_replyTo 40 = .ok (.iload_n 1, 1) := by decide +kernel
theorem dX11_replyTo_41 : decode cX11_replyTo 41 = .ok (.iload_n 3, 1) := by decide +kernel
theorem dX11_replyTo_42 : decode cX11_replyTo 42 = .ok (.invokevirtual 358, 3) := by decide +kernel
theorem dX11_replyTo_45 : decode cX11_replyTo 45 = .ok (.if_icmp .ge 6, 3) := by decide +kernel
theorem dX11_laidBy_0 : decode cX11_laidBy 0 = .ok (.iconst (-1), 1) := by decide +kernel
theorem dX11_laidBy_1 : decode cX11_laidBy 1 = .ok (.istore_n 3, 1) := by decide +kernel
theorem dX11_laidBy_2 : decode cX11_laidBy 2 = .ok (.iconst 0, 1) := by decide +kernel
theorem dX11_laidBy_3 : decode cX11_laidBy 3 = .ok (.istore 4, 2) := by decide +kernel
theorem dX11_laidBy_5 : decode cX11_laidBy 5 = .ok (.iload 4, 2) := by decide +kernel
theorem dX11_laidBy_7 : decode cX11_laidBy 7 = .ok (.aload_n 0, 1) := by decide +kernel
theorem dX11_laidBy_8 : decode cX11_laidBy 8 = .ok (.getfield 34, 3) := by decide +kernel
theorem dX11_laidBy_11 : decode cX11_laidBy 11 = .ok (.iconst 1, 1) := by decide +kernel
theorem dX11_laidBy_12 : decode cX11_laidBy 12 = .ok (.iaload, 1) := by decide +kernel
theorem dX11_laidBy_13 : decode cX11_laidBy 13 = .ok (.if_icmp .ge 55, 3) := by decide +kernel
theorem dX11_laidBy_68 : decode cX11_laidBy 68 = .ok (.iload_n 3, 1) := by decide +kernel
theorem dX11_laidBy_69 : decode cX11_laidBy 69 = .ok (.ireturn, 1) := by decide +kernel
theorem dX11_laidBy_16 : decode cX11_laidBy 16 = .ok (.aload_n 0, 1) := by decide +kernel
theorem dX11_laidBy_17 : decode cX11_laidBy 17 = .ok (.getfield 47, 3) := by decide +kernel
theorem dX11_laidBy_20 : decode cX11_laidBy 20 = .ok (.iload 4, 2) := by decide +kernel
theorem dX11_laidBy_22 : decode cX11_laidBy 22 = .ok (.iaload, 1) := by decide +kernel
theorem dX11_laidBy_23 : decode cX11_laidBy 23 = .ok (.iload_n 1, 1) := by decide +kernel
theorem dX11_laidBy_24 : decode cX11_laidBy 24 = .ok (.if_icmp .ne 38, 3) := by decide +kernel
theorem dX11_laidBy_62 : decode cX11_laidBy 62 = .ok (.iinc 4 1, 3) := by decide +kernel
theorem dX11_laidBy_65 : decode cX11_laidBy 65 = .ok (.goto (-60), 3) := by decide +kernel
theorem dX11_laidBy_27 : decode cX11_laidBy 27 = .ok (.iload_n 3, 1) := by decide +kernel
theorem dX11_laidBy_28 : decode cX11_laidBy 28 = .ok (.iconst (-1), 1) := by decide +kernel
theorem dX11_laidBy_29 : decode cX11_laidBy 29 = .ok (.if_icmp .eq 30, 3) := by decide +kernel
theorem dX11_laidBy_59 : decode cX11_laidBy 59 = .ok (.iload 4, 2) := by decide +kernel
theorem dX11_laidBy_61 : decode cX11_laidBy 61 = .ok (.istore_n 3, 1) := by decide +kernel
theorem dX11_laidBy_32 : decode cX11_laidBy 32 = .ok (.aload_n 0, 1) := by decide +kernel
theorem dX11_laidBy_33 : decode cX11_laidBy 33 = .ok (.iload 4, 2) := by decide +kernel
theorem dX11_laidBy_35 : decode cX11_laidBy 35 = .ok (.aload_n 0, 1) := by decide +kernel
theorem dX11_laidBy_36 : decode cX11_laidBy 36 = .ok (.iload 4, 2) := by decide +kernel
theorem dX11_laidBy_38 : decode cX11_laidBy 38 = .ok (.iload_n 2, 1) := by decide +kernel
set_option maxRecDepth 20000 in
theorem ggX11_laidBy_X11_replyTo : GoodIn wsX11_laidBy wsX11_replyTo := goodIn_r _ [7, 1, 2, 8, 9, 10, 6, 11, 12, 13, 14, 15, 16, 17, 18, 19, 20, 21, 22, 23, 24, 25, 26, 27, 28, 29, 30, 31, 32, 33, 34, 35, 36, 37, 38, 39, 40, 41, 42, 43, 44, 45, 46, 47] (by rfl) (by decide +kernel)
set_option maxRecDepth 20000 in
theorem gX11_laidBy_X11_replyTo : GoodIn wsX11_laidBy (wsV RX11 361 RX11 yX11_replyTo wsX11_replyTo) := goodIn_app (goodIn_r _ [3, 4, 5, 6] (by rfl) (by decide +kernel)) ggX11_laidBy_X11_replyTo
theorem dX11_laidBy_39 : decode cX11_laidBy 39 = .ok (.invokevirtual 361, 3) := by decide +kernel
set_option maxRecDepth 20000 in
theorem ggX11_laidBy_X11_wonBy : GoodIn wsX11_laidBy wsX11_wonBy := goodIn_r _ [11, 12, 13, 14, 6, 15, 16, 17, 18, 19, 20, 21, 22, 23, 24, 25, 26, 27, 28, 29, 30, 31, 32, 33, 34, 35, 36, 37, 38, 39, 40, 41, 42, 43, 44, 45, 46, 47] (by rfl) (by decide +kernel)
set_option maxRecDepth 20000 in
theorem gX11_laidBy_X11_wonBy : GoodIn wsX11_laidBy (wsV RX11 358 RX11 yX11_wonBy wsX11_wonBy) := goodIn_app (goodIn_r _ [8, 9, 10, 6] (by rfl) (by decide +kernel)) ggX11_laidBy_X11_wonBy
theorem dX11_laidBy_42 : decode cX11_laidBy 42 = .ok (.invokevirtual 358, 3) := by decide +kernel
theorem dX11_laidBy_45 : decode cX11_laidBy 45 = .ok (.aload_n 0, 1) := by decide +kernel
theorem dX11_laidBy_46 : decode cX11_laidBy 46 = .ok (.iload_n 3, 1) := by decide +kernel
theorem dX11_laidBy_47 : decode cX11_laidBy 47 = .ok (.aload_n 0, 1) := by decide +kernel
theorem dX11_laidBy_48 : decode cX11_laidBy 48 = .ok (.iload_n 3, 1) := by decide +kernel
theorem dX11_laidBy_49 : decode cX11_laidBy 49 = .ok (.iload_n 2, 1) := by decide +kernel
theorem dX11_laidBy_50 : decode cX11_laidBy 50 = .ok (.invokevirtual 361, 3) := by decide +kernel
theorem dX11_laidBy_53 : decode cX11_laidBy 53 = .ok (.invokevirtual 358, 3) := by decide +kernel
theorem dX11_laidBy_56 : decode cX11_laidBy 56 = .ok (.if_icmp .le 6, 3) := by decide +kernel
theorem dX11_lay_0 : decode cX11_lay 0 = .ok (.aload_n 0, 1) := by decide +kernel
theorem dX11_lay_1 : decode cX11_lay 1 = .ok (.iconst 0, 1) := by decide +kernel
theorem dX11_lay_2 : decode cX11_lay 2 = .ok (.putfield 59, 3) := by decide +kernel
theorem dX11_lay_5 : decode cX11_lay 5 = .ok (.aload_n 0, 1) := by decide +kernel
theorem dX11_lay_6 : decode cX11_lay 6 = .ok (.iload_n 1, 1) := by decide +kernel
theorem dX11_lay_7 : decode cX11_lay 7 = .ok (.iload_n 2, 1) := by decide +kernel
set_option maxRecDepth 20000 in
theorem ggX11_lay_X11_isDuel : GoodIn wsX11_lay wsX11_isDuel := goodIn_r _ [6, 7, 8, 9, 5, 10, 11, 12, 13, 14, 15, 16, 17, 18, 19, 20, 21, 22, 23, 24, 25, 26, 27, 28, 29, 30, 31, 32, 33, 34, 35, 36, 37, 38, 39, 40, 41, 42, 43, 44, 45, 46, 47, 48, 49, 50, 51, 52, 53, 54, 55, 56, 57, 58, 59, 60, 61, 62, 75, 76, 77, 78, 79, 80, 81, 82, 83, 84, 85, 86, 87, 88, 89, 90, 91, 92, 93, 94, 95, 96, 97, 98, 99, 100, 101, 102, 103, 104, 105] (by rfl) (by decide +kernel)
set_option maxRecDepth 20000 in
theorem gX11_lay_X11_isDuel : GoodIn wsX11_lay (wsV RX11 355 RX11 yX11_isDuel wsX11_isDuel) := goodIn_app (goodIn_r _ [2, 3, 4, 5] (by rfl) (by decide +kernel)) ggX11_lay_X11_isDuel
theorem dX11_lay_8 : decode cX11_lay 8 = .ok (.invokevirtual 355, 3) := by decide +kernel
theorem dX11_lay_11 : decode cX11_lay 11 = .ok (.ifCond .ne 7, 3) := by decide +kernel
theorem dX11_lay_18 : decode cX11_lay 18 = .ok (.aload_n 0, 1) := by decide +kernel
theorem dX11_lay_19 : decode cX11_lay 19 = .ok (.iload_n 1, 1) := by decide +kernel
theorem dX11_lay_20 : decode cX11_lay 20 = .ok (.iload_n 2, 1) := by decide +kernel
set_option maxRecDepth 20000 in
theorem ggX11_lay_X11_laidBy : GoodIn wsX11_lay wsX11_laidBy := goodIn_r _ [66, 15, 28, 67, 68, 69, 5, 70, 71, 72, 73, 74, 35, 36, 37, 38, 39, 75, 76, 77, 78, 79, 80, 81, 82, 83, 84, 85, 86, 87, 88, 89, 90, 91, 92, 93, 94, 95, 96, 97, 98, 99, 100, 101, 102, 103, 104, 105] (by rfl) (by decide +kernel)
set_option maxRecDepth 20000 in
theorem gX11_lay_X11_laidBy : GoodIn wsX11_lay (wsV RX11 364 RX11 yX11_laidBy wsX11_laidBy) := goodIn_app (goodIn_r _ [63, 64, 65, 5] (by rfl) (by decide +kernel)) ggX11_lay_X11_laidBy
theorem dX11_lay_21 : decode cX11_lay 21 = .ok (.invokevirtual 364, 3) := by decide +kernel
theorem dX11_lay_24 : decode cX11_lay 24 = .ok (.istore_n 3, 1) := by decide +kernel
theorem dX11_lay_25 : decode cX11_lay 25 = .ok (.aload_n 0, 1) := by decide +kernel
theorem dX11_lay_26 : decode cX11_lay 26 = .ok (.iload_n 3, 1) := by decide +kernel
theorem dX11_lay_27 : decode cX11_lay 27 = .ok (.aload_n 0, 1) := by decide +kernel
theorem dX11_lay_28 : decode cX11_lay 28 = .ok (.iload_n 3, 1) := by decide +kernel
theorem dX11_lay_29 : decode cX11_lay 29 = .ok (.iload_n 2, 1) := by decide +kernel
set_option maxRecDepth 20000 in
theorem ggX11_lay_X11_replyTo : GoodIn wsX11_lay wsX11_replyTo := goodIn_r _ [70, 15, 28, 71, 72, 73, 5, 74, 35, 36, 37, 38, 39, 75, 76, 77, 78, 79, 80, 81, 82, 83, 84, 85, 86, 87, 88, 89, 90, 91, 92, 93, 94, 95, 96, 97, 98, 99, 100, 101, 102, 103, 104, 105] (by rfl) (by decide +kernel)
set_option maxRecDepth 20000 in
theorem gX11_lay_X11_replyTo : GoodIn wsX11_lay (wsV RX11 361 RX11 yX11_replyTo wsX11_replyTo) := goodIn_app (goodIn_r _ [67, 68, 69, 5] (by rfl) (by decide +kernel)) ggX11_lay_X11_replyTo
theorem dX11_lay_30 : decode cX11_lay 30 = .ok (.invokevirtual 361, 3) := by decide +kernel
set_option maxRecDepth 20000 in
theorem ggX11_lay_X11_wonBy : GoodIn wsX11_lay wsX11_wonBy := goodIn_r _ [74, 35, 36, 37, 5, 38, 39, 75, 76, 77, 78, 79, 80, 81, 82, 83, 84, 85, 86, 87, 88, 89, 90, 91, 92, 93, 94, 95, 96, 97, 98, 99, 100, 101, 102, 103, 104, 105] (by rfl) (by decide +kernel)
set_option maxRecDepth 20000 in
theorem gX11_lay_X11_wonBy : GoodIn wsX11_lay (wsV RX11 358 RX11 yX11_wonBy wsX11_wonBy) := goodIn_app (goodIn_r _ [71, 72, 73, 5] (by rfl) (by decide +kernel)) ggX11_lay_X11_wonBy
theorem dX11_lay_33 : decode cX11_lay 33 = .ok (.invokevirtual 358, 3) := by decide +kernel
theorem dX11_lay_36 : decode cX11_lay 36 = .ok (.ireturn, 1) := by decide +kernel
theorem dX11_lay_14 : decode cX11_lay 14 = .ok (.sipush (-1000), 3) := by decide +kernel
theorem dX11_lay_17 : decode cX11_lay 17 = .ok (.ireturn, 1) := by decide +kernel
set_option maxHeartbeats 4000000 in
set_option maxRecDepth 100000 in
theorem a_X11_common_56 (l : Launch) (G : va_G) (ct : Nat → ClassId) (p0 : Int32) (p1 : Int32) (hp_p0 : rg 1 64 p0) (hp_p1 : rg 0 56 p1) : Met l yX11_common wsX11_common ({ frames := 56, cells := 0, slots := 0, locals := 1680 }) (va_Pc [.int p0, .int p1] (roP G ct [])) (roQ (fun r => rg 1 64 r ∧ True)) 0 0 no := by
  refine Met.ofW (cc := cX11_common) (maxL := 2) (ret := (some .int)) (by decide) rfl ?_
  intro p e s m args below meth c s₁ B hml hv
  obtain ⟨rfl, hP, hK⟩ := hv
  have hx := B.exec
  have hb := B.bytes
  have hr := B.returns
  have hts := atoms_spec (ws := wsX11_common) B.pre
  have hown : s.vm.findClass RX11 = some m.cls := findClass_of_methodNamed B.named
  have hlocks := B.notSynchronized
  have hS : va_S no s.heap s.heap [] := va_S.rf
  have hl := lv_entry ([.int p0, .int p1]) (n := 2) (Nat.le_of_ble_eq_true rfl)
  rw [lg_entry_eq]
  generalize (lg_sl ([.int p0, .int p1]) ++ List.replicate (2 - (lg_sl ([.int p0, .int p1])).length) Slot.unset).toArray = ls at hl ⊢
  have hl : lv_has ls 2 [(0, .int p0), (1, .int p1)] := hl
  refine lv_iload_n hx hb dX11_common_0 rfl (lv_at hl 1 rfl) ?_
  refine lv_if_ne (tgt := 8) hx hb dX11_common_1 (by decide) (fun c1 => ?_) (fun c1 => ?_)
  · have h_1 : rg 1 56 p1 := r_ne_lo_i c1 hp_p1 (by decide) (by decide)
    refine lv_iload_n hx hb dX11_common_8 rfl (lv_at hl 1 rfl) ?_
    refine lv_iload_n hx hb dX11_common_9 rfl (lv_at hl 0 rfl) ?_
    refine lv_iload_n hx hb dX11_common_10 rfl (lv_at hl 1 rfl) ?_
    refine lv_irem hx hb dX11_common_11 (rne0 h_1 (by decide)) ?_
    refine nm_rem (f := 55) hp_p0 h_1 (by decide) (fun z11 hz11 tz11 => ?_)
    refine ro_calli (va_runS (As := [.int p1, .int z11]) (rest := []) ⟨hx, hb, hml, hown, hts⟩ (a_X11_common_55 l G ct p1 z11 (rg_w (c := 1) (d := 64) h_1 (by decide)) hz11) (va_cwS 2 hts gX11_common_X11_common rfl rfl rfl (by decide +kernel) ⟨Nat.le_of_ble_eq_true rfl, Nat.le_of_ble_eq_true rfl⟩) (ro_pre hK (hP.sub [] rfl)) rfl rfl hl.1 rfl (lv_room (Nat.le_of_ble_eq_true rfl)) dX11_common_12 ⟨Nat.zero_le _, Nat.zero_le _⟩) hS hP (fun r12 H locs wr12 hP hS => ?_)
    obtain ⟨p_2, -⟩ := wr12
    exact W.iret (v := r12) hx hb hr (fun t ht hW => ⟨⟨r12, (), rfl, ⟨p_2, trivial⟩, trivial⟩, hS.F ht⟩) hS.2.2 dX11_common_15
  · have h_3 : rg 0 0 p1 := r_eq_l_i (e := 0) (f := 0) c1 hp_p1 (rgn 0 (x := 0) (by decide)) (by decide)
    refine lv_iload_n hx hb dX11_common_4 rfl (lv_at hl 0 rfl) ?_
    refine lv_goto (tgt := 15) hx hb dX11_common_5 (by decide) ?_
    exact W.iret (v := p0) hx hb hr (fun t ht hW => ⟨⟨p0, (), rfl, ⟨hp_p0, trivial⟩, trivial⟩, hS.F ht⟩) hS.2.2 dX11_common_15

set_option maxHeartbeats 4000000 in
set_option maxRecDepth 100000 in
theorem a_X11_common_57 (l : Launch) (G : va_G) (ct : Nat → ClassId) (p0 : Int32) (p1 : Int32) (hp_p0 : rg 1 64 p0) (hp_p1 : rg 0 57 p1) : Met l yX11_common wsX11_common ({ frames := 57, cells := 0, slots := 0, locals := 1710 }) (va_Pc [.int p0, .int p1] (roP G ct [])) (roQ (fun r => rg 1 64 r ∧ True)) 0 0 no := by
  refine Met.ofW (cc := cX11_common) (maxL := 2) (ret := (some .int)) (by decide) rfl ?_
  intro p e s m args below meth c s₁ B hml hv
  obtain ⟨rfl, hP, hK⟩ := hv
  have hx := B.exec
  have hb := B.bytes
  have hr := B.returns
  have hts := atoms_spec (ws := wsX11_common) B.pre
  have hown : s.vm.findClass RX11 = some m.cls := findClass_of_methodNamed B.named
  have hlocks := B.notSynchronized
  have hS : va_S no s.heap s.heap [] := va_S.rf
  have hl := lv_entry ([.int p0, .int p1]) (n := 2) (Nat.le_of_ble_eq_true rfl)
  rw [lg_entry_eq]
  generalize (lg_sl ([.int p0, .int p1]) ++ List.replicate (2 - (lg_sl ([.int p0, .int p1])).length) Slot.unset).toArray = ls at hl ⊢
  have hl : lv_has ls 2 [(0, .int p0), (1, .int p1)] := hl
  refine lv_iload_n hx hb dX11_common_0 rfl (lv_at hl 1 rfl) ?_
  refine lv_if_ne (tgt := 8) hx hb dX11_common_1 (by decide) (fun c1 => ?_) (fun c1 => ?_)
  · have h_1 : rg 1 57 p1 := r_ne_lo_i c1 hp_p1 (by decide) (by decide)
    refine lv_iload_n hx hb dX11_common_8 rfl (lv_at hl 1 rfl) ?_
    refine lv_iload_n hx hb dX11_common_9 rfl (lv_at hl 0 rfl) ?_
    refine lv_iload_n hx hb dX11_common_10 rfl (lv_at hl 1 rfl) ?_
    refine lv_irem hx hb dX11_common_11 (rne0 h_1 (by decide)) ?_
    refine nm_rem (f := 56) hp_p0 h_1 (by decide) (fun z11 hz11 tz11 => ?_)
    refine ro_calli (va_runS (As := [.int p1, .int z11]) (rest := []) ⟨hx, hb, hml, hown, hts⟩ (a_X11_common_56 l G ct p1 z11 (rg_w (c := 1) (d := 64) h_1 (by decide)) hz11) (va_cwS 2 hts gX11_common_X11_common rfl rfl rfl (by decide +kernel) ⟨Nat.le_of_ble_eq_true rfl, Nat.le_of_ble_eq_true rfl⟩) (ro_pre hK (hP.sub [] rfl)) rfl rfl hl.1 rfl (lv_room (Nat.le_of_ble_eq_true rfl)) dX11_common_12 ⟨Nat.zero_le _, Nat.zero_le _⟩) hS hP (fun r12 H locs wr12 hP hS => ?_)
    obtain ⟨p_2, -⟩ := wr12
    exact W.iret (v := r12) hx hb hr (fun t ht hW => ⟨⟨r12, (), rfl, ⟨p_2, trivial⟩, trivial⟩, hS.F ht⟩) hS.2.2 dX11_common_15
  · have h_3 : rg 0 0 p1 := r_eq_l_i (e := 0) (f := 0) c1 hp_p1 (rgn 0 (x := 0) (by decide)) (by decide)
    refine lv_iload_n hx hb dX11_common_4 rfl (lv_at hl 0 rfl) ?_
    refine lv_goto (tgt := 15) hx hb dX11_common_5 (by decide) ?_
    exact W.iret (v := p0) hx hb hr (fun t ht hW => ⟨⟨p0, (), rfl, ⟨hp_p0, trivial⟩, trivial⟩, hS.F ht⟩) hS.2.2 dX11_common_15

set_option maxHeartbeats 4000000 in
set_option maxRecDepth 100000 in
theorem a_X11_common_58 (l : Launch) (G : va_G) (ct : Nat → ClassId) (p0 : Int32) (p1 : Int32) (hp_p0 : rg 1 64 p0) (hp_p1 : rg 0 58 p1) : Met l yX11_common wsX11_common ({ frames := 58, cells := 0, slots := 0, locals := 1740 }) (va_Pc [.int p0, .int p1] (roP G ct [])) (roQ (fun r => rg 1 64 r ∧ True)) 0 0 no := by
  refine Met.ofW (cc := cX11_common) (maxL := 2) (ret := (some .int)) (by decide) rfl ?_
  intro p e s m args below meth c s₁ B hml hv
  obtain ⟨rfl, hP, hK⟩ := hv
  have hx := B.exec
  have hb := B.bytes
  have hr := B.returns
  have hts := atoms_spec (ws := wsX11_common) B.pre
  have hown : s.vm.findClass RX11 = some m.cls := findClass_of_methodNamed B.named
  have hlocks := B.notSynchronized
  have hS : va_S no s.heap s.heap [] := va_S.rf
  have hl := lv_entry ([.int p0, .int p1]) (n := 2) (Nat.le_of_ble_eq_true rfl)
  rw [lg_entry_eq]
  generalize (lg_sl ([.int p0, .int p1]) ++ List.replicate (2 - (lg_sl ([.int p0, .int p1])).length) Slot.unset).toArray = ls at hl ⊢
  have hl : lv_has ls 2 [(0, .int p0), (1, .int p1)] := hl
  refine lv_iload_n hx hb dX11_common_0 rfl (lv_at hl 1 rfl) ?_
  refine lv_if_ne (tgt := 8) hx hb dX11_common_1 (by decide) (fun c1 => ?_) (fun c1 => ?_)
  · have h_1 : rg 1 58 p1 := r_ne_lo_i c1 hp_p1 (by decide) (by decide)
    refine lv_iload_n hx hb dX11_common_8 rfl (lv_at hl 1 rfl) ?_
    refine lv_iload_n hx hb dX11_common_9 rfl (lv_at hl 0 rfl) ?_
    refine lv_iload_n hx hb dX11_common_10 rfl (lv_at hl 1 rfl) ?_
    refine lv_irem hx hb dX11_common_11 (rne0 h_1 (by decide)) ?_
    refine nm_rem (f := 57) hp_p0 h_1 (by decide) (fun z11 hz11 tz11 => ?_)
    refine ro_calli (va_runS (As := [.int p1, .int z11]) (rest := []) ⟨hx, hb, hml, hown, hts⟩ (a_X11_common_57 l G ct p1 z11 (rg_w (c := 1) (d := 64) h_1 (by decide)) hz11) (va_cwS 2 hts gX11_common_X11_common rfl rfl rfl (by decide +kernel) ⟨Nat.le_of_ble_eq_true rfl, Nat.le_of_ble_eq_true rfl⟩) (ro_pre hK (hP.sub [] rfl)) rfl rfl hl.1 rfl (lv_room (Nat.le_of_ble_eq_true rfl)) dX11_common_12 ⟨Nat.zero_le _, Nat.zero_le _⟩) hS hP (fun r12 H locs wr12 hP hS => ?_)
    obtain ⟨p_2, -⟩ := wr12
    exact W.iret (v := r12) hx hb hr (fun t ht hW => ⟨⟨r12, (), rfl, ⟨p_2, trivial⟩, trivial⟩, hS.F ht⟩) hS.2.2 dX11_common_15
  · have h_3 : rg 0 0 p1 := r_eq_l_i (e := 0) (f := 0) c1 hp_p1 (rgn 0 (x := 0) (by decide)) (by decide)
    refine lv_iload_n hx hb dX11_common_4 rfl (lv_at hl 0 rfl) ?_
    refine lv_goto (tgt := 15) hx hb dX11_common_5 (by decide) ?_
    exact W.iret (v := p0) hx hb hr (fun t ht hW => ⟨⟨p0, (), rfl, ⟨hp_p0, trivial⟩, trivial⟩, hS.F ht⟩) hS.2.2 dX11_common_15

set_option maxHeartbeats 4000000 in
set_option maxRecDepth 100000 in
theorem a_X11_common_59 (l : Launch) (G : va_G) (ct : Nat → ClassId) (p0 : Int32) (p1 : Int32) (hp_p0 : rg 1 64 p0) (hp_p1 : rg 0 59 p1) : Met l yX11_common wsX11_common ({ frames := 59, cells := 0, slots := 0, locals := 1770 }) (va_Pc [.int p0, .int p1] (roP G ct [])) (roQ (fun r => rg 1 64 r ∧ True)) 0 0 no := by
  refine Met.ofW (cc := cX11_common) (maxL := 2) (ret := (some .int)) (by decide) rfl ?_
  intro p e s m args below meth c s₁ B hml hv
  obtain ⟨rfl, hP, hK⟩ := hv
  have hx := B.exec
  have hb := B.bytes
  have hr := B.returns
  have hts := atoms_spec (ws := wsX11_common) B.pre
  have hown : s.vm.findClass RX11 = some m.cls := findClass_of_methodNamed B.named
  have hlocks := B.notSynchronized
  have hS : va_S no s.heap s.heap [] := va_S.rf
  have hl := lv_entry ([.int p0, .int p1]) (n := 2) (Nat.le_of_ble_eq_true rfl)
  rw [lg_entry_eq]
  generalize (lg_sl ([.int p0, .int p1]) ++ List.replicate (2 - (lg_sl ([.int p0, .int p1])).length) Slot.unset).toArray = ls at hl ⊢
  have hl : lv_has ls 2 [(0, .int p0), (1, .int p1)] := hl
  refine lv_iload_n hx hb dX11_common_0 rfl (lv_at hl 1 rfl) ?_
  refine lv_if_ne (tgt := 8) hx hb dX11_common_1 (by decide) (fun c1 => ?_) (fun c1 => ?_)
  · have h_1 : rg 1 59 p1 := r_ne_lo_i c1 hp_p1 (by decide) (by decide)
    refine lv_iload_n hx hb dX11_common_8 rfl (lv_at hl 1 rfl) ?_
    refine lv_iload_n hx hb dX11_common_9 rfl (lv_at hl 0 rfl) ?_
    refine lv_iload_n hx hb dX11_common_10 rfl (lv_at hl 1 rfl) ?_
    refine lv_irem hx hb dX11_common_11 (rne0 h_1 (by decide)) ?_
    refine nm_rem (f := 58) hp_p0 h_1 (by decide) (fun z11 hz11 tz11 => ?_)
    refine ro_calli (va_runS (As := [.int p1, .int z11]) (rest := []) ⟨hx, hb, hml, hown, hts⟩ (a_X11_common_58 l G ct p1 z11 (rg_w (c := 1) (d := 64) h_1 (by decide)) hz11) (va_cwS 2 hts gX11_common_X11_common rfl rfl rfl (by decide +kernel) ⟨Nat.le_of_ble_eq_true rfl, Nat.le_of_ble_eq_true rfl⟩) (ro_pre hK (hP.sub [] rfl)) rfl rfl hl.1 rfl (lv_room (Nat.le_of_ble_eq_true rfl)) dX11_common_12 ⟨Nat.zero_le _, Nat.zero_le _⟩) hS hP (fun r12 H locs wr12 hP hS => ?_)
    obtain ⟨p_2, -⟩ := wr12
    exact W.iret (v := r12) hx hb hr (fun t ht hW => ⟨⟨r12, (), rfl, ⟨p_2, trivial⟩, trivial⟩, hS.F ht⟩) hS.2.2 dX11_common_15
  · have h_3 : rg 0 0 p1 := r_eq_l_i (e := 0) (f := 0) c1 hp_p1 (rgn 0 (x := 0) (by decide)) (by decide)
    refine lv_iload_n hx hb dX11_common_4 rfl (lv_at hl 0 rfl) ?_
    refine lv_goto (tgt := 15) hx hb dX11_common_5 (by decide) ?_
    exact W.iret (v := p0) hx hb hr (fun t ht hW => ⟨⟨p0, (), rfl, ⟨hp_p0, trivial⟩, trivial⟩, hS.F ht⟩) hS.2.2 dX11_common_15

set_option maxHeartbeats 4000000 in
set_option maxRecDepth 100000 in
theorem a_X11_common_60 (l : Launch) (G : va_G) (ct : Nat → ClassId) (p0 : Int32) (p1 : Int32) (hp_p0 : rg 1 64 p0) (hp_p1 : rg 0 60 p1) : Met l yX11_common wsX11_common ({ frames := 60, cells := 0, slots := 0, locals := 1800 }) (va_Pc [.int p0, .int p1] (roP G ct [])) (roQ (fun r => rg 1 64 r ∧ True)) 0 0 no := by
  refine Met.ofW (cc := cX11_common) (maxL := 2) (ret := (some .int)) (by decide) rfl ?_
  intro p e s m args below meth c s₁ B hml hv
  obtain ⟨rfl, hP, hK⟩ := hv
  have hx := B.exec
  have hb := B.bytes
  have hr := B.returns
  have hts := atoms_spec (ws := wsX11_common) B.pre
  have hown : s.vm.findClass RX11 = some m.cls := findClass_of_methodNamed B.named
  have hlocks := B.notSynchronized
  have hS : va_S no s.heap s.heap [] := va_S.rf
  have hl := lv_entry ([.int p0, .int p1]) (n := 2) (Nat.le_of_ble_eq_true rfl)
  rw [lg_entry_eq]
  generalize (lg_sl ([.int p0, .int p1]) ++ List.replicate (2 - (lg_sl ([.int p0, .int p1])).length) Slot.unset).toArray = ls at hl ⊢
  have hl : lv_has ls 2 [(0, .int p0), (1, .int p1)] := hl
  refine lv_iload_n hx hb dX11_common_0 rfl (lv_at hl 1 rfl) ?_
  refine lv_if_ne (tgt := 8) hx hb dX11_common_1 (by decide) (fun c1 => ?_) (fun c1 => ?_)
  · have h_1 : rg 1 60 p1 := r_ne_lo_i c1 hp_p1 (by decide) (by decide)
    refine lv_iload_n hx hb dX11_common_8 rfl (lv_at hl 1 rfl) ?_
    refine lv_iload_n hx hb dX11_common_9 rfl (lv_at hl 0 rfl) ?_
    refine lv_iload_n hx hb dX11_common_10 rfl (lv_at hl 1 rfl) ?_
    refine lv_irem hx hb dX11_common_11 (rne0 h_1 (by decide)) ?_
    refine nm_rem (f := 59) hp_p0 h_1 (by decide) (fun z11 hz11 tz11 => ?_)
    refine ro_calli (va_runS (As := [.int p1, .int z11]) (rest := []) ⟨hx, hb, hml, hown, hts⟩ (a_X11_common_59 l G ct p1 z11 (rg_w (c := 1) (d := 64) h_1 (by decide)) hz11) (va_cwS 2 hts gX11_common_X11_common rfl rfl rfl (by decide +kernel) ⟨Nat.le_of_ble_eq_true rfl, Nat.le_of_ble_eq_true rfl⟩) (ro_pre hK (hP.sub [] rfl)) rfl rfl hl.1 rfl (lv_room (Nat.le_of_ble_eq_true rfl)) dX11_common_12 ⟨Nat.zero_le _, Nat.zero_le _⟩) hS hP (fun r12 H locs wr12 hP hS => ?_)
    obtain ⟨p_2, -⟩ := wr12
    exact W.iret (v := r12) hx hb hr (fun t ht hW => ⟨⟨r12, (), rfl, ⟨p_2, trivial⟩, trivial⟩, hS.F ht⟩) hS.2.2 dX11_common_15
  · have h_3 : rg 0 0 p1 := r_eq_l_i (e := 0) (f := 0) c1 hp_p1 (rgn 0 (x := 0) (by decide)) (by decide)
    refine lv_iload_n hx hb dX11_common_4 rfl (lv_at hl 0 rfl) ?_
    refine lv_goto (tgt := 15) hx hb dX11_common_5 (by decide) ?_
    exact W.iret (v := p0) hx hb hr (fun t ht hW => ⟨⟨p0, (), rfl, ⟨hp_p0, trivial⟩, trivial⟩, hS.F ht⟩) hS.2.2 dX11_common_15

set_option maxHeartbeats 4000000 in
set_option maxRecDepth 100000 in
theorem a_X11_common_61 (l : Launch) (G : va_G) (ct : Nat → ClassId) (p0 : Int32) (p1 : Int32) (hp_p0 : rg 1 64 p0) (hp_p1 : rg 0 61 p1) : Met l yX11_common wsX11_common ({ frames := 61, cells := 0, slots := 0, locals := 1830 }) (va_Pc [.int p0, .int p1] (roP G ct [])) (roQ (fun r => rg 1 64 r ∧ True)) 0 0 no := by
  refine Met.ofW (cc := cX11_common) (maxL := 2) (ret := (some .int)) (by decide) rfl ?_
  intro p e s m args below meth c s₁ B hml hv
  obtain ⟨rfl, hP, hK⟩ := hv
  have hx := B.exec
  have hb := B.bytes
  have hr := B.returns
  have hts := atoms_spec (ws := wsX11_common) B.pre
  have hown : s.vm.findClass RX11 = some m.cls := findClass_of_methodNamed B.named
  have hlocks := B.notSynchronized
  have hS : va_S no s.heap s.heap [] := va_S.rf
  have hl := lv_entry ([.int p0, .int p1]) (n := 2) (Nat.le_of_ble_eq_true rfl)
  rw [lg_entry_eq]
  generalize (lg_sl ([.int p0, .int p1]) ++ List.replicate (2 - (lg_sl ([.int p0, .int p1])).length) Slot.unset).toArray = ls at hl ⊢
  have hl : lv_has ls 2 [(0, .int p0), (1, .int p1)] := hl
  refine lv_iload_n hx hb dX11_common_0 rfl (lv_at hl 1 rfl) ?_
  refine lv_if_ne (tgt := 8) hx hb dX11_common_1 (by decide) (fun c1 => ?_) (fun c1 => ?_)
  · have h_1 : rg 1 61 p1 := r_ne_lo_i c1 hp_p1 (by decide) (by decide)
    refine lv_iload_n hx hb dX11_common_8 rfl (lv_at hl 1 rfl) ?_
    refine lv_iload_n hx hb dX11_common_9 rfl (lv_at hl 0 rfl) ?_
    refine lv_iload_n hx hb dX11_common_10 rfl (lv_at hl 1 rfl) ?_
    refine lv_irem hx hb dX11_common_11 (rne0 h_1 (by decide)) ?_
    refine nm_rem (f := 60) hp_p0 h_1 (by decide) (fun z11 hz11 tz11 => ?_)
    refine ro_calli (va_runS (As := [.int p1, .int z11]) (rest := []) ⟨hx, hb, hml, hown, hts⟩ (a_X11_common_60 l G ct p1 z11 (rg_w (c := 1) (d := 64) h_1 (by decide)) hz11) (va_cwS 2 hts gX11_common_X11_common rfl rfl rfl (by decide +kernel) ⟨Nat.le_of_ble_eq_true rfl, Nat.le_of_ble_eq_true rfl⟩) (ro_pre hK (hP.sub [] rfl)) rfl rfl hl.1 rfl (lv_room (Nat.le_of_ble_eq_true rfl)) dX11_common_12 ⟨Nat.zero_le _, Nat.zero_le _⟩) hS hP (fun r12 H locs wr12 hP hS => ?_)
    obtain ⟨p_2, -⟩ := wr12
    exact W.iret (v := r12) hx hb hr (fun t ht hW => ⟨⟨r12, (), rfl, ⟨p_2, trivial⟩, trivial⟩, hS.F ht⟩) hS.2.2 dX11_common_15
  · have h_3 : rg 0 0 p1 := r_eq_l_i (e := 0) (f := 0) c1 hp_p1 (rgn 0 (x := 0) (by decide)) (by decide)
    refine lv_iload_n hx hb dX11_common_4 rfl (lv_at hl 0 rfl) ?_
    refine lv_goto (tgt := 15) hx hb dX11_common_5 (by decide) ?_
    exact W.iret (v := p0) hx hb hr (fun t ht hW => ⟨⟨p0, (), rfl, ⟨hp_p0, trivial⟩, trivial⟩, hS.F ht⟩) hS.2.2 dX11_common_15

set_option maxHeartbeats 4000000 in
set_option maxRecDepth 100000 in
theorem a_X11_common_62 (l : Launch) (G : va_G) (ct : Nat → ClassId) (p0 : Int32) (p1 : Int32) (hp_p0 : rg 1 64 p0) (hp_p1 : rg 0 62 p1) : Met l yX11_common wsX11_common ({ frames := 62, cells := 0, slots := 0, locals := 1860 }) (va_Pc [.int p0, .int p1] (roP G ct [])) (roQ (fun r => rg 1 64 r ∧ True)) 0 0 no := by
  refine Met.ofW (cc := cX11_common) (maxL := 2) (ret := (some .int)) (by decide) rfl ?_
  intro p e s m args below meth c s₁ B hml hv
  obtain ⟨rfl, hP, hK⟩ := hv
  have hx := B.exec
  have hb := B.bytes
  have hr := B.returns
  have hts := atoms_spec (ws := wsX11_common) B.pre
  have hown : s.vm.findClass RX11 = some m.cls := findClass_of_methodNamed B.named
  have hlocks := B.notSynchronized
  have hS : va_S no s.heap s.heap [] := va_S.rf
  have hl := lv_entry ([.int p0, .int p1]) (n := 2) (Nat.le_of_ble_eq_true rfl)
  rw [lg_entry_eq]
  generalize (lg_sl ([.int p0, .int p1]) ++ List.replicate (2 - (lg_sl ([.int p0, .int p1])).length) Slot.unset).toArray = ls at hl ⊢
  have hl : lv_has ls 2 [(0, .int p0), (1, .int p1)] := hl
  refine lv_iload_n hx hb dX11_common_0 rfl (lv_at hl 1 rfl) ?_
  refine lv_if_ne (tgt := 8) hx hb dX11_common_1 (by decide) (fun c1 => ?_) (fun c1 => ?_)
  · have h_1 : rg 1 62 p1 := r_ne_lo_i c1 hp_p1 (by decide) (by decide)
    refine lv_iload_n hx hb dX11_common_8 rfl (lv_at hl 1 rfl) ?_
    refine lv_iload_n hx hb dX11_common_9 rfl (lv_at hl 0 rfl) ?_
    refine lv_iload_n hx hb dX11_common_10 rfl (lv_at hl 1 rfl) ?_
    refine lv_irem hx hb dX11_common_11 (rne0 h_1 (by decide)) ?_
    refine nm_rem (f := 61) hp_p0 h_1 (by decide) (fun z11 hz11 tz11 => ?_)
    refine ro_calli (va_runS (As := [.int p1, .int z11]) (rest := []) ⟨hx, hb, hml, hown, hts⟩ (a_X11_common_61 l G ct p1 z11 (rg_w (c := 1) (d := 64) h_1 (by decide)) hz11) (va_cwS 2 hts gX11_common_X11_common rfl rfl rfl (by decide +kernel) ⟨Nat.le_of_ble_eq_true rfl, Nat.le_of_ble_eq_true rfl⟩) (ro_pre hK (hP.sub [] rfl)) rfl rfl hl.1 rfl (lv_room (Nat.le_of_ble_eq_true rfl)) dX11_common_12 ⟨Nat.zero_le _, Nat.zero_le _⟩) hS hP (fun r12 H locs wr12 hP hS => ?_)
    obtain ⟨p_2, -⟩ := wr12
    exact W.iret (v := r12) hx hb hr (fun t ht hW => ⟨⟨r12, (), rfl, ⟨p_2, trivial⟩, trivial⟩, hS.F ht⟩) hS.2.2 dX11_common_15
  · have h_3 : rg 0 0 p1 := r_eq_l_i (e := 0) (f := 0) c1 hp_p1 (rgn 0 (x := 0) (by decide)) (by decide)
    refine lv_iload_n hx hb dX11_common_4 rfl (lv_at hl 0 rfl) ?_
    refine lv_goto (tgt := 15) hx hb dX11_common_5 (by decide) ?_
    exact W.iret (v := p0) hx hb hr (fun t ht hW => ⟨⟨p0, (), rfl, ⟨hp_p0, trivial⟩, trivial⟩, hS.F ht⟩) hS.2.2 dX11_common_15

set_option maxHeartbeats 4000000 in
set_option maxRecDepth 100000 in
theorem a_X11_common_63 (l : Launch) (G : va_G) (ct : Nat → ClassId) (p0 : Int32) (p1 : Int32) (hp_p0 : rg 1 64 p0) (hp_p1 : rg 0 63 p1) : Met l yX11_common wsX11_common ({ frames := 63, cells := 0, slots := 0, locals := 1890 }) (va_Pc [.int p0, .int p1] (roP G ct [])) (roQ (fun r => rg 1 64 r ∧ True)) 0 0 no := by
  refine Met.ofW (cc := cX11_common) (maxL := 2) (ret := (some .int)) (by decide) rfl ?_
  intro p e s m args below meth c s₁ B hml hv
  obtain ⟨rfl, hP, hK⟩ := hv
  have hx := B.exec
  have hb := B.bytes
  have hr := B.returns
  have hts := atoms_spec (ws := wsX11_common) B.pre
  have hown : s.vm.findClass RX11 = some m.cls := findClass_of_methodNamed B.named
  have hlocks := B.notSynchronized
  have hS : va_S no s.heap s.heap [] := va_S.rf
  have hl := lv_entry ([.int p0, .int p1]) (n := 2) (Nat.le_of_ble_eq_true rfl)
  rw [lg_entry_eq]
  generalize (lg_sl ([.int p0, .int p1]) ++ List.replicate (2 - (lg_sl ([.int p0, .int p1])).length) Slot.unset).toArray = ls at hl ⊢
  have hl : lv_has ls 2 [(0, .int p0), (1, .int p1)] := hl
  refine lv_iload_n hx hb dX11_common_0 rfl (lv_at hl 1 rfl) ?_
  refine lv_if_ne (tgt := 8) hx hb dX11_common_1 (by decide) (fun c1 => ?_) (fun c1 => ?_)
  · have h_1 : rg 1 63 p1 := r_ne_lo_i c1 hp_p1 (by decide) (by decide)
    refine lv_iload_n hx hb dX11_common_8 rfl (lv_at hl 1 rfl) ?_
    refine lv_iload_n hx hb dX11_common_9 rfl (lv_at hl 0 rfl) ?_
    refine lv_iload_n hx hb dX11_common_10 rfl (lv_at hl 1 rfl) ?_
    refine lv_irem hx hb dX11_common_11 (rne0 h_1 (by decide)) ?_
    refine nm_rem (f := 62) hp_p0 h_1 (by decide) (fun z11 hz11 tz11 => ?_)
    refine ro_calli (va_runS (As := [.int p1, .int z11]) (rest := []) ⟨hx, hb, hml, hown, hts⟩ (a_X11_common_62 l G ct p1 z11 (rg_w (c := 1) (d := 64) h_1 (by decide)) hz11) (va_cwS 2 hts gX11_common_X11_common rfl rfl rfl (by decide +kernel) ⟨Nat.le_of_ble_eq_true rfl, Nat.le_of_ble_eq_true rfl⟩) (ro_pre hK (hP.sub [] rfl)) rfl rfl hl.1 rfl (lv_room (Nat.le_of_ble_eq_true rfl)) dX11_common_12 ⟨Nat.zero_le _, Nat.zero_le _⟩) hS hP (fun r12 H locs wr12 hP hS => ?_)
    obtain ⟨p_2, -⟩ := wr12
    exact W.iret (v := r12) hx hb hr (fun t ht hW => ⟨⟨r12, (), rfl, ⟨p_2, trivial⟩, trivial⟩, hS.F ht⟩) hS.2.2 dX11_common_15
  · have h_3 : rg 0 0 p1 := r_eq_l_i (e := 0) (f := 0) c1 hp_p1 (rgn 0 (x := 0) (by decide)) (by decide)
    refine lv_iload_n hx hb dX11_common_4 rfl (lv_at hl 0 rfl) ?_
    refine lv_goto (tgt := 15) hx hb dX11_common_5 (by decide) ?_
    exact W.iret (v := p0) hx hb hr (fun t ht hW => ⟨⟨p0, (), rfl, ⟨hp_p0, trivial⟩, trivial⟩, hS.F ht⟩) hS.2.2 dX11_common_15

set_option maxHeartbeats 4000000 in
set_option maxRecDepth 100000 in
theorem a_X11_common (l : Launch) (G : va_G) (ct : Nat → ClassId) (p0 : Int32) (p1 : Int32) (hp_p0 : rg 0 64 p0) (hp_p1 : rg 1 64 p1) : Met l yX11_common wsX11_common ({ frames := 64, cells := 0, slots := 0, locals := 1920 }) (va_Pc [.int p0, .int p1] (roP G ct [])) (roQ (fun r => rg 1 64 r ∧ True)) 0 0 no := by
  refine Met.ofW (cc := cX11_common) (maxL := 2) (ret := (some .int)) (by decide) rfl ?_
  intro p e s m args below meth c s₁ B hml hv
  obtain ⟨rfl, hP, hK⟩ := hv
  have hx := B.exec
  have hb := B.bytes
  have hr := B.returns
  have hts := atoms_spec (ws := wsX11_common) B.pre
  have hown : s.vm.findClass RX11 = some m.cls := findClass_of_methodNamed B.named
  have hlocks := B.notSynchronized
  have hS : va_S no s.heap s.heap [] := va_S.rf
  have hl := lv_entry ([.int p0, .int p1]) (n := 2) (Nat.le_of_ble_eq_true rfl)
  rw [lg_entry_eq]
  generalize (lg_sl ([.int p0, .int p1]) ++ List.replicate (2 - (lg_sl ([.int p0, .int p1])).length) Slot.unset).toArray = ls at hl ⊢
  have hl : lv_has ls 2 [(0, .int p0), (1, .int p1)] := hl
  refine lv_iload_n hx hb dX11_common_0 rfl (lv_at hl 1 rfl) ?_
  refine lv_if_ne (tgt := 8) hx hb dX11_common_1 (by decide) (fun c1 => ?_) (fun c1 => ?_)
  · refine lv_iload_n hx hb dX11_common_8 rfl (lv_at hl 1 rfl) ?_
    refine lv_iload_n hx hb dX11_common_9 rfl (lv_at hl 0 rfl) ?_
    refine lv_iload_n hx hb dX11_common_10 rfl (lv_at hl 1 rfl) ?_
    refine lv_irem hx hb dX11_common_11 (rne0 hp_p1 (by decide)) ?_
    refine nm_rem (f := 63) hp_p0 hp_p1 (by decide) (fun z11 hz11 tz11 => ?_)
    refine ro_calli (va_runS (As := [.int p1, .int z11]) (rest := []) ⟨hx, hb, hml, hown, hts⟩ (a_X11_common_63 l G ct p1 z11 hp_p1 hz11) (va_cwS 2 hts gX11_common_X11_common rfl rfl rfl (by decide +kernel) ⟨Nat.le_of_ble_eq_true rfl, Nat.le_of_ble_eq_true rfl⟩) (ro_pre hK (hP.sub [] rfl)) rfl rfl hl.1 rfl (lv_room (Nat.le_of_ble_eq_true rfl)) dX11_common_12 ⟨Nat.zero_le _, Nat.zero_le _⟩) hS hP (fun r12 H locs wr12 hP hS => ?_)
    obtain ⟨p_1, -⟩ := wr12
    exact W.iret (v := r12) hx hb hr (fun t ht hW => ⟨⟨r12, (), rfl, ⟨p_1, trivial⟩, trivial⟩, hS.F ht⟩) hS.2.2 dX11_common_15
  · exact (dd_eq_i c1 hp_p1 (rgn 0 (x := 0) (by decide)) (by decide)).elim

set_option maxHeartbeats 4000000 in
set_option maxRecDepth 100000 in
theorem a_X11_sizeOf8 (l : Launch) (G : va_G) (ct : Nat → ClassId) (p0 : Int32) (hp_p0 : rg 1 255 p0) : Met l yX11_sizeOf wsX11_sizeOf ({ frames := 0, cells := 0, slots := 0, locals := 0 }) (va_Pc [.int p0] (roP G ct [])) (roQ (fun r => rg 1 8 r ∧ True)) 0 0 no := by
  refine Met.ofW (cc := cX11_sizeOf) (maxL := 3) (ret := (some .int)) (by decide) rfl ?_
  intro p e s m args below meth c s₁ B hml hv
  obtain ⟨rfl, hP, hK⟩ := hv
  have hx := B.exec
  have hb := B.bytes
  have hr := B.returns
  have hts := atoms_spec (ws := wsX11_sizeOf) B.pre
  have hown : s.vm.findClass RX11 = some m.cls := findClass_of_methodNamed B.named
  have hlocks := B.notSynchronized
  have hS : va_S no s.heap s.heap [] := va_S.rf
  have hl := lv_entry ([.int p0]) (n := 3) (Nat.le_of_ble_eq_true rfl)
  rw [lg_entry_eq]
  generalize (lg_sl ([.int p0]) ++ List.replicate (3 - (lg_sl ([.int p0])).length) Slot.unset).toArray = ls at hl ⊢
  have hl : lv_has ls 3 [(0, .int p0)] := hl
  refine lv_iconst (v := 0) hx hb dX11_sizeOf_0 (by decide) ?_
  refine lv_istore_n (lv' := [(1, .int 0), (0, .int p0)]) hx hb dX11_sizeOf_1 rfl hl (by decide) rfl (fun ls hl => ?_)
  refine lv_iload_n hx hb dX11_sizeOf_2 rfl (lv_at hl 1 rfl) ?_
  refine lv_istore_n (lv' := [(2, .int p0), (1, .int 0), (0, .int p0)]) hx hb dX11_sizeOf_3 rfl hl (by decide) rfl (fun ls hl => ?_)
  have j4 : ∀ (n : Nat) (x4_1 : Int32) (x4_2 : Int32) (H : Heap) (locs : List Loc) (ls : Array Slot), x4_2.toBitVec.toNat < n → rg 0 9 x4_1 → rg 0 255 x4_2 → (x4_1).toInt + pc8 x4_2.toInt.toNat = pc8 p0.toInt.toNat → 0 ≤ (x4_1).toInt → va_P G vwCl [] H → va_S no s.heap H locs → lv_has ls 3 [(0, .int p0), (1, .int x4_1), (2, .int x4_2)] → W p l e (headSpec wsX11_sizeOf ({ frames := 0, cells := 0, slots := 0, locals := 0 })).room s m ([.int p0] : List Value).toArray below meth c H locs 0 0 (MQ below (roQ (fun r => rg 1 8 r ∧ True)) ([.int p0] : List Value).toArray s 0 0 no) (F0 m 4 ls []) := by
    intro n
    induction n with
    | zero => intro x4_1 x4_2 H locs ls hn4 hx4_1 hx4_2 hp4 hz4 hP hS hl; exact absurd hn4 (Nat.not_lt_zero _)
    | succ n ih4 =>
      intro x4_1 x4_2 H locs ls hn4 hx4_1 hx4_2 hp4 hz4 hP hS hl
      have h_1 : rg 0 8 x4_1 := pc_b hp4 hz4 hp_p0 hx4_2
      refine lv_iload_n hx hb dX11_sizeOf_4 rfl (lv_at hl 2 rfl) ?_
      refine lv_if_eq (tgt := 20) hx hb dX11_sizeOf_5 (by decide) (fun c5 => ?_) (fun c5 => ?_)
      · have h_2 : rg 0 0 x4_2 := r_eq_l_i (e := 0) (f := 0) c5 hx4_2 (rgn 0 (x := 0) (by decide)) (by decide)
        have h_3 : rg 1 8 x4_1 := pc_e hp4 c5 hp_p0
        refine lv_iload_n hx hb dX11_sizeOf_20 rfl (lv_at hl 1 rfl) ?_
        exact W.iret (v := x4_1) hx hb hr (fun t ht hW => ⟨⟨x4_1, (), rfl, ⟨h_3, trivial⟩, trivial⟩, hS.F ht⟩) hS.2.2 dX11_sizeOf_21
      · have h_4 : rg 1 255 x4_2 := r_ne_lo_i c5 hx4_2 (by decide) (by decide)
        obtain ⟨z8, qz8⟩ : ∃ y : Int32, y = x4_1 + Int32.ofInt 1 := ⟨_, rfl⟩
        obtain ⟨hz8, ez8⟩ := inc_z (e := 1) (f := 9) h_1 qz8 (by decide)
        refine lv_iinc (v := z8) (lv' := [(1, .int z8), (0, .int p0), (2, .int x4_2)]) hx hb dX11_sizeOf_8 hl (k := 1) rfl (qz8.symm) (by decide) rfl (fun ls hl => ?_)
        refine lv_iload_n hx hb dX11_sizeOf_11 rfl (lv_at hl 2 rfl) ?_
        refine lv_iload_n hx hb dX11_sizeOf_12 rfl (lv_at hl 2 rfl) ?_
        refine lv_iconst (v := 1) hx hb dX11_sizeOf_13 (by decide) ?_
        refine lv_isub hx hb dX11_sizeOf_14 ?_
        refine lv_topi (fun z14 gz14 => ?_)
        refine lv_iand hx hb dX11_sizeOf_15 ?_
        refine lv_topi (fun z15 gz15 => ?_)
        have hz15 : rg 0 255 z15 := by rw [gz15]; exact andl_rg h_4 (by decide)
        refine lv_istore_n (lv' := [(2, .int z15), (1, .int z8), (0, .int p0)]) hx hb dX11_sizeOf_16 rfl hl (by decide) rfl (fun ls hl => ?_)
        refine lv_goto (tgt := 4) hx hb dX11_sizeOf_17 (by decide) ?_
        exact ih4 z8 z15 _ _ ls (sz_dec gz14 gz15 c5 hn4) (rg_w (c := 0) (d := 9) hz8 (by decide)) hz15 (pc_s hp4 (rg_w (c := 0) (d := 255) h_4 (by decide)) hp_p0 gz14 gz15 c5 ez8) (by have := ez8; have := hz4; omega) hP hS (lv_sub hl [2, 1, 0] rfl)
  exact j4 4294967296 (0 : Int32) p0 _ _ ls (sz_e p0) (rg_w (c := 0) (d := 9) (rgn 0 (x := 0) (by decide)) (by decide)) (rg_w (c := 0) (d := 255) hp_p0 (by decide)) pc_0 (by decide) hP hS (lv_sub hl [2, 1, 0] rfl)

set_option maxHeartbeats 4000000 in
set_option maxRecDepth 100000 in
theorem a_X11_duel (l : Launch) (G : va_G) (ct : Nat → ClassId) (a0 : Nat) (n0_0 : Int32) (a1 : Nat) (a2 : Nat) (a3 : Nat) (a4 : Nat) (a5 : Nat) (n0_6 : Int32) (n0_7 : Int32) (n0_8 : Int32) (n0_9 : Int32) (n0_10 : Int32) (l0_11 : Int64) (n0_12 : Int32) (n0_13 : Int32) (n0_14 : Int32) (n0_15 : Int32) (a6 : Nat) (a7 : Nat) (a8 : Nat) (a9 : Nat) (a10 : Nat) (a11 : Nat) (a12 : Nat) (a13 : Nat) (n0_24 : Int32) (n0_25 : Int32) (n0_26 : Int32) (n0_27 : Int32) (a14 : Nat) (n0_29 : Int32) (n0_30 : Int32) (f7 : Nat → Int32) (f8 : Nat → Int32) (f9 : Nat → Int32) (f11 : Nat → Int32) (f12 : Nat → Int32) (f13 : Nat → Int32) (p0 : Int32) (p1 : Int32) (p2 : Int32) (hp_n0_6 : rg 0 900 n0_6) (hp_f7 : hsI f7) (hp_f8 : psI f8) (hp_f9 : ar 0 7 f9) (hp_f11 : ar (-1) 7 f11) (hp_f13 : ar (-1) 7 f13) : Met l yX11_duel wsX11_duel ({ frames := 81, cells := 0, slots := 0, locals := 3021 }) (va_Pc [.ref a0, .int p0, .int p1, .int p2] (wrP G ct [(a0, .inr (11, [.int n0_0, .ref a1, .ref a2, .ref a3, .ref a4, .ref a5, .int n0_6, .int n0_7, .int n0_8, .int n0_9, .int n0_10, .long l0_11, .int n0_12, .int n0_13, .int n0_14, .int n0_15, .ref a6, .ref a7, .ref a8, .ref a9, .ref a10, .ref a11, .ref a12, .ref a13, .int n0_24, .int n0_25, .int n0_26, .int n0_27, .ref a14, .int n0_29, .int n0_30])), (a7, .inl (ct 0, 15, .inl f7)), (a8, .inl (ct 0, 200, .inl f8)), (a9, .inl (ct 0, 1000, .inl f9)), (a11, .inl (ct 0, 8, .inl f11)), (a12, .inl (ct 0, 8, .inl f12)), (a13, .inl (ct 0, 8, .inl f13))])) (va_Qi (fun (r : Int32) (u : SU) => rg (-2) 64 r ∧ (r = 0 → rg 0 7 p0) ∧ (¬ r = (-2) → rg 0 7 p0) ∧ (r = 0 → rg 0 7 p1) ∧ (¬ r = (-2) → rg 0 7 p1) ∧ (r = 0 → rg 0 1 p2) ∧ (¬ r = (-2) → rg 0 1 p2) ∧ ar (-1) 7 (u.2.1 0) ∧ ar (-1) 7 (u.2.1 2) ∧ rg 0 0 (u.1 0) ∧ True) (fun u t => va_P G vwCl ((fun u : SU => [(a0, .inr (11, [.int (u.1 0), .ref a1, .ref a2, .ref a3, .ref a4, .ref a5, .int n0_6, .int n0_7, .int n0_8, .int n0_9, .int n0_10, .long l0_11, .int n0_12, .int n0_13, .int n0_14, .int n0_15, .ref a6, .ref a7, .ref a8, .ref a9, .ref a10, .ref a11, .ref a12, .ref a13, .int (u.1 1), .int (u.1 2), .int (u.1 3), .int (u.1 4), .ref a14, .int n0_29, .int n0_30])), (a7, .inl (ct 0, 15, .inl f7)), (a8, .inl (ct 0, 200, .inl f8)), (a9, .inl (ct 0, 1000, .inl f9)), (a11, .inl (ct 0, 8, .inl (u.2.1 0))), (a12, .inl (ct 0, 8, .inl (u.2.1 1))), (a13, .inl (ct 0, 8, .inl (u.2.1 2)))]) u) t.heap) (aset [(a0, .inr (11, [.int n0_0, .ref a1, .ref a2, .ref a3, .ref a4, .ref a5, .int n0_6, .int n0_7, .int n0_8, .int n0_9, .int n0_10, .long l0_11, .int n0_12, .int n0_13, .int n0_14, .int n0_15, .ref a6, .ref a7, .ref a8, .ref a9, .ref a10, .ref a11, .ref a12, .ref a13, .int n0_24, .int n0_25, .int n0_26, .int n0_27, .ref a14, .int n0_29, .int n0_30])), (a7, .inl (ct 0, 15, .inl f7)), (a8, .inl (ct 0, 200, .inl f8)), (a9, .inl (ct 0, 1000, .inl f9)), (a11, .inl (ct 0, 8, .inl f11)), (a12, .inl (ct 0, 8, .inl f12)), (a13, .inl (ct 0, 8, .inl f13))])) 0 0 (aset [(a0, .inr (11, [.int n0_0, .ref a1, .ref a2, .ref a3, .ref a4, .ref a5, .int n0_6, .int n0_7, .int n0_8, .int n0_9, .int n0_10, .long l0_11, .int n0_12, .int n0_13, .int n0_14, .int n0_15, .ref a6, .ref a7, .ref a8, .ref a9, .ref a10, .ref a11, .ref a12, .ref a13, .int n0_24, .int n0_25, .int n0_26, .int n0_27, .ref a14, .int n0_29, .int n0_30])), (a7, .inl (ct 0, 15, .inl f7)), (a8, .inl (ct 0, 200, .inl f8)), (a9, .inl (ct 0, 1000, .inl f9)), (a11, .inl (ct 0, 8, .inl f11)), (a12, .inl (ct 0, 8, .inl f12)), (a13, .inl (ct 0, 8, .inl f13))]) := by
  refine Met.ofW (cc := cX11_duel) (maxL := 8) (ret := (some .int)) (by decide) rfl ?_
  intro p e s m args below meth c s₁ B hml hv
  obtain ⟨rfl, hP, hK, hD0⟩ := hv
  have hx := B.exec
  have hb := B.bytes
  have hr := B.returns
  have hts := atoms_spec (ws := wsX11_duel) B.pre
  have hown : s.vm.findClass RX11 = some m.cls := findClass_of_methodNamed B.named
  have hlocks := B.notSynchronized
  have hD := hD0.aself
  generalize hAe : aset [(a0, .inr (11, [.int n0_0, .ref a1, .ref a2, .ref a3, .ref a4, .ref a5, .int n0_6, .int n0_7, .int n0_8, .int n0_9, .int n0_10, .long l0_11, .int n0_12, .int n0_13, .int n0_14, .int n0_15, .ref a6, .ref a7, .ref a8, .ref a9, .ref a10, .ref a11, .ref a12, .ref a13, .int n0_24, .int n0_25, .int n0_26, .int n0_27, .ref a14, .int n0_29, .int n0_30])), (a7, .inl (ct 0, 15, .inl f7)), (a8, .inl (ct 0, 200, .inl f8)), (a9, .inl (ct 0, 1000, .inl f9)), (a11, .inl (ct 0, 8, .inl f11)), (a12, .inl (ct 0, 8, .inl f12)), (a13, .inl (ct 0, 8, .inl f13))] = A at hD ⊢
  have hS : va_S A s.heap s.heap [] := va_S.rf
  have hl := lv_entry ([.ref a0, .int p0, .int p1, .int p2]) (n := 8) (Nat.le_of_ble_eq_true rfl)
  rw [lg_entry_eq]
  generalize (lg_sl ([.ref a0, .int p0, .int p1, .int p2]) ++ List.replicate (8 - (lg_sl ([.ref a0, .int p0, .int p1, .int p2])).length) Slot.unset).toArray = ls at hl ⊢
  have hl : lv_has ls 8 [(0, .ref a0), (1, .int p0), (2, .int p1), (3, .int p2)] := hl
  refine lv_aload_n hx hb dX11_duel_0 rfl (lv_at hl 0 rfl) ?_
  refine lv_iconst (v := 0) hx hb dX11_duel_1 (by decide) ?_
  refine va_put (D := G) (ci := 11) (v := .int 0) (ty := .int) (C := RX11) (T := TX11) (N := 31) hx hb hts (by decide +kernel) tyX11 tyX11_ok nmX11 hown hK.1 hP hD hS 0 rfl rfl 0 (by decide) (hts (.fieldLink RX11 59 "CardHolderModel" "thrown" "I") (by decide +kernel)) (fun _ h9 => h9) rfl (by decide +kernel) rfl rfl (Nat.le_of_ble_eq_true rfl) dX11_duel_2 (fun H locs hP hD hS => ?_)
  refine lv_aload_n hx hb dX11_duel_5 rfl (lv_at hl 0 rfl) ?_
  refine lv_iload_n hx hb dX11_duel_6 rfl (lv_at hl 1 rfl) ?_
  refine lv_iload_n hx hb dX11_duel_7 rfl (lv_at hl 2 rfl) ?_
  refine wj_calli (wr := []) (w1 := (fun u : SU => [(a0, .inr (11, [.int 0, .ref a1, .ref a2, .ref a3, .ref a4, .ref a5, .int n0_6, .int n0_7, .int n0_8, .int n0_9, .int n0_10, .long l0_11, .int n0_12, .int n0_13, .int n0_14, .int n0_15, .ref a6, .ref a7, .ref a8, .ref a9, .ref a10, .ref a11, .ref a12, .ref a13, .int (u.1 0), .int (u.1 1), .int (u.1 2), .int (u.1 3), .ref a14, .int n0_29, .int n0_30])), (a7, .inl (ct 0, 15, .inl f7)), (a8, .inl (ct 0, 200, .inl f8)), (a9, .inl (ct 0, 1000, .inl f9)), (a11, .inl (ct 0, 8, .inl (u.2.1 0))), (a12, .inl (ct 0, 8, .inl (u.2.1 1))), (a13, .inl (ct 0, 8, .inl (u.2.1 2)))])) (va_runV (As := [.int p0, .int p1]) (rest := []) ⟨hx, hb, hml, hown, hts⟩ (a_X11_isDuel l G ct a0 (0 : Int32) a1 a2 a3 a4 a5 n0_6 n0_7 n0_8 n0_9 n0_10 l0_11 n0_12 n0_13 n0_14 n0_15 a6 a7 a8 a9 a10 a11 a12 a13 n0_24 n0_25 n0_26 n0_27 a14 n0_29 n0_30 f7 f8 f9 f11 f12 f13 p0 p1 hp_n0_6 hp_f7 hp_f8 hp_f9 hp_f11 hp_f13) (cwV 2 hts gX11_duel_X11_isDuel rfl rfl rfl (by decide +kernel) ⟨Nat.le_of_ble_eq_true rfl, Nat.le_of_ble_eq_true rfl⟩) (wr_preV 11 0 hK (hP.sub [0, 1, 2, 3, 4, 5, 6] rfl) (hD.sub [0, 1, 2, 3, 4, 5, 6] (by decide) rfl) rfl rfl) rfl rfl hl.1 rfl (lv_room (Nat.le_of_ble_eq_true rfl)) dX11_duel_8 ⟨Nat.zero_le _, Nat.zero_le _⟩) hS hP hD [0, 1, 2, 3, 4, 5, 6] [] rfl rfl (by decide) (fun _ => rfl) (fun r8 ur8 H locs wr8 hP hD hS => ?_)
  have hP : va_P G vwCl [(a0, .inr (11, [.int 0, .ref a1, .ref a2, .ref a3, .ref a4, .ref a5, .int n0_6, .int n0_7, .int n0_8, .int n0_9, .int n0_10, .long l0_11, .int n0_12, .int n0_13, .int n0_14, .int n0_15, .ref a6, .ref a7, .ref a8, .ref a9, .ref a10, .ref a11, .ref a12, .ref a13, .int (ur8.1 0), .int (ur8.1 1), .int (ur8.1 2), .int (ur8.1 3), .ref a14, .int n0_29, .int n0_30])), (a7, .inl (ct 0, 15, .inl f7)), (a8, .inl (ct 0, 200, .inl f8)), (a9, .inl (ct 0, 1000, .inl f9)), (a11, .inl (ct 0, 8, .inl (ur8.2.1 0))), (a12, .inl (ct 0, 8, .inl (ur8.2.1 1))), (a13, .inl (ct 0, 8, .inl (ur8.2.1 2)))] H := hP.sub [0, 1, 2, 3, 4, 5, 6] rfl
  have hD : va_D A [(a0, .inr (11, [.int 0, .ref a1, .ref a2, .ref a3, .ref a4, .ref a5, .int n0_6, .int n0_7, .int n0_8, .int n0_9, .int n0_10, .long l0_11, .int n0_12, .int n0_13, .int n0_14, .int n0_15, .ref a6, .ref a7, .ref a8, .ref a9, .ref a10, .ref a11, .ref a12, .ref a13, .int (ur8.1 0), .int (ur8.1 1), .int (ur8.1 2), .int (ur8.1 3), .ref a14, .int n0_29, .int n0_30])), (a7, .inl (ct 0, 15, .inl f7)), (a8, .inl (ct 0, 200, .inl f8)), (a9, .inl (ct 0, 1000, .inl f9)), (a11, .inl (ct 0, 8, .inl (ur8.2.1 0))), (a12, .inl (ct 0, 8, .inl (ur8.2.1 1))), (a13, .inl (ct 0, 8, .inl (ur8.2.1 2)))] := hD.sub [0, 1, 2, 3, 4, 5, 6] (by decide) rfl
  obtain ⟨p_1, p_2, p_3, p_4, p_5, p_6, p_7, -⟩ := wr8
  refine lv_if_eq (tgt := 24) hx hb dX11_duel_11 (by decide) (fun c11 => ?_) (fun c11 => ?_)
  · have h_8 : rg 0 0 r8 := r_eq_l_i (e := 0) (f := 0) c11 p_1 (rgn 0 (x := 0) (by decide)) (by decide)
    refine lv_bipush (v := (-2)) hx hb dX11_duel_24 (by decide) ?_
    exact W.iret (v := (-2)) hx hb hr (fun t ht hW => ⟨⟨(-2), (fun k => ([0, ur8.1 0, ur8.1 1, ur8.1 2, ur8.1 3] : List Int32).getD k 0, fun k => ([ur8.2.1 0, ur8.2.1 1, ur8.2.1 2] : List (Nat → Int32)).getD k (fun _ => 0), fun k => ([] : List (Nat → Int64)).getD k (fun _ => 0)), rfl, ⟨(rg_w (c := (-2)) (d := 64) (rgn (-2) (x := (-2)) (by decide)) (by decide)), (fun hq => absurd hq (rne (rgn (-2) (x := (-2)) (by decide)) (y := 0) (c := 0) (by decide) (by decide))), (fun hq => absurd (req (rgn (-2) (x := (-2)) (by decide)) (y := (-2)) (by decide)) hq), (fun hq => absurd hq (rne (rgn (-2) (x := (-2)) (by decide)) (y := 0) (c := 0) (by decide) (by decide))), (fun hq => absurd (req (rgn (-2) (x := (-2)) (by decide)) (y := (-2)) (by decide)) hq), (fun hq => absurd hq (rne (rgn (-2) (x := (-2)) (by decide)) (y := 0) (c := 0) (by decide) (by decide))), (fun hq => absurd (req (rgn (-2) (x := (-2)) (by decide)) (y := (-2)) (by decide)) hq), p_4, p_5, (rgn 0 (x := 0) (by decide)), trivial⟩, hp_at ht hP⟩, hS.F ht⟩) hS.2.2 dX11_duel_26
  · have h_9 : rg 1 1 r8 := r_ne_lo_i c11 p_1 (by decide) (by decide)
    have h_10 : rg 0 7 p0 := (p_2 (rne h_9 (y := 0) (c := 0) (by decide) (by decide)))
    have h_11 : rg 0 7 p1 := (p_3 (rne h_9 (y := 0) (c := 0) (by decide) (by decide)))
    refine lv_iload_n hx hb dX11_duel_14 rfl (lv_at hl 3 rfl) ?_
    refine lv_i2l hx hb dX11_duel_15 rfl ?_
    refine nl_i2l (rg_t p2) (fun z15 hz15 ez15 => ?_)
    refine lv_lconst (v := 0) hx hb dX11_duel_16 (by decide) ?_
    refine lv_lconst (v := 1) hx hb dX11_duel_17 (by decide) ?_
    refine ro_calli (va_runS (As := [.long z15, .long 0, .long 1]) (rest := []) ⟨hx, hb, hml, hown, hts⟩ (a_X11_in l G ct z15 (0 : Int64) (1 : Int64)) (va_cwS 3 hts gX11_duel_X11_in rfl rfl rfl (by decide +kernel) ⟨Nat.le_of_ble_eq_true rfl, Nat.le_of_ble_eq_true rfl⟩) (ro_pre hK (hP.sub [] rfl)) rfl rfl hl.1 rfl (lv_room (Nat.le_of_ble_eq_true rfl)) dX11_duel_18 ⟨Nat.zero_le _, Nat.zero_le _⟩) hS hP (fun r18 H locs wr18 hP hS => ?_)
    obtain ⟨p_12, p_13, -⟩ := wr18
    refine lv_if_ne (tgt := 27) hx hb dX11_duel_21 (by decide) (fun c21 => ?_) (fun c21 => ?_)
    · have h_14 : rg 1 1 r18 := r_ne_lo_i c21 p_12 (by decide) (by decide)
      have h_15 : rl 0 1 z15 := ((fun hq => in_im (p_13 hq) (rln 0 (x := 0) (by decide)) (rln 1 (x := 1) (by decide))) (rne h_14 (y := 0) (c := 0) (by decide) (by decide)))
      have h_16 : rg 0 1 p2 := bk_li (a := 0) (b := 1) ez15 h_15 (rg_t p2) (by decide)
      refine lv_iconst (v := 0) hx hb dX11_duel_27 (by decide) ?_
      refine lv_istore (lv' := [(4, .int 0), (0, .ref a0), (1, .int p0), (2, .int p1), (3, .int p2)]) hx hb dX11_duel_28 hl (by decide) rfl (fun ls hl => ?_)
      refine lv_aload_n hx hb dX11_duel_30 rfl (lv_at hl 1 rfl) ?_
      refine lv_iload_n hx hb dX11_duel_31 rfl (lv_at hl 2 rfl) ?_
      refine ro_calli (va_runV (As := [.int p0]) (rest := []) ⟨hx, hb, hml, hown, hts⟩ (a_X11_handOf l G ct a0 (0 : Int32) a1 a2 a3 a4 a5 n0_6 n0_7 n0_8 n0_9 n0_10 l0_11 n0_12 n0_13 n0_14 n0_15 a6 a7 a8 a9 a10 a11 a12 a13 (ur8.1 0) (ur8.1 1) (ur8.1 2) (ur8.1 3) a14 n0_29 n0_30 f7 (ur8.2.1 0) p0 hp_n0_6 hp_f7 p_4) (cwV 1 hts gX11_duel_X11_handOf rfl rfl rfl (by decide +kernel) ⟨Nat.le_of_ble_eq_true rfl, Nat.le_of_ble_eq_true rfl⟩) (ro_preV 11 0 hK (hP.sub [0, 1, 4] rfl) rfl rfl) rfl rfl hl.1 rfl (lv_room (Nat.le_of_ble_eq_true rfl)) dX11_duel_32 ⟨Nat.zero_le _, Nat.zero_le _⟩) hS hP (fun r32 H locs wr32 hP hS => ?_)
      obtain ⟨p_17, p_18, p_19, -⟩ := wr32
      have h_20 : rg 1 255 r32 := hold_r p_19 (p_6 (rne h_9 (y := 0) (c := 0) (by decide) (by decide))) p_17
      refine ro_calli (va_runS (As := [.int r32]) (rest := []) ⟨hx, hb, hml, hown, hts⟩ (a_X11_sizeOf8 l G ct r32 h_20) (va_cwS 1 hts gX11_duel_X11_sizeOf rfl rfl rfl (by decide +kernel) ⟨Nat.le_of_ble_eq_true rfl, Nat.le_of_ble_eq_true rfl⟩) (ro_pre hK (hP.sub [] rfl)) rfl rfl hl.1 rfl (lv_room (Nat.le_of_ble_eq_true rfl)) dX11_duel_35 ⟨Nat.zero_le _, Nat.zero_le _⟩) hS hP (fun r35 H locs wr35 hP hS => ?_)
      obtain ⟨p_21, -⟩ := wr35
      refine lv_aload_n hx hb dX11_duel_38 rfl (lv_at hl 1 rfl) ?_
      refine lv_iload_n hx hb dX11_duel_39 rfl (lv_at hl 3 rfl) ?_
      refine ro_calli (va_runV (As := [.int p1]) (rest := [.int r35]) ⟨hx, hb, hml, hown, hts⟩ (a_X11_handOf l G ct a0 (0 : Int32) a1 a2 a3 a4 a5 n0_6 n0_7 n0_8 n0_9 n0_10 l0_11 n0_12 n0_13 n0_14 n0_15 a6 a7 a8 a9 a10 a11 a12 a13 (ur8.1 0) (ur8.1 1) (ur8.1 2) (ur8.1 3) a14 n0_29 n0_30 f7 (ur8.2.1 0) p1 hp_n0_6 hp_f7 p_4) (cwV 1 hts gX11_duel_X11_handOf rfl rfl rfl (by decide +kernel) ⟨Nat.le_of_ble_eq_true rfl, Nat.le_of_ble_eq_true rfl⟩) (ro_preV 11 0 hK (hP.sub [0, 1, 4] rfl) rfl rfl) rfl rfl hl.1 rfl (lv_room (Nat.le_of_ble_eq_true rfl)) dX11_duel_40 ⟨Nat.zero_le _, Nat.zero_le _⟩) hS hP (fun r40 H locs wr40 hP hS => ?_)
      obtain ⟨p_22, p_23, p_24, -⟩ := wr40
      have h_25 : rg 1 255 r40 := hold_r p_24 (p_7 (rne h_9 (y := 0) (c := 0) (by decide) (by decide))) p_22
      refine ro_calli (va_runS (As := [.int r40]) (rest := [.int r35]) ⟨hx, hb, hml, hown, hts⟩ (a_X11_sizeOf8 l G ct r40 h_25) (va_cwS 1 hts gX11_duel_X11_sizeOf rfl rfl rfl (by decide +kernel) ⟨Nat.le_of_ble_eq_true rfl, Nat.le_of_ble_eq_true rfl⟩) (ro_pre hK (hP.sub [] rfl)) rfl rfl hl.1 rfl (lv_room (Nat.le_of_ble_eq_true rfl)) dX11_duel_43 ⟨Nat.zero_le _, Nat.zero_le _⟩) hS hP (fun r43 H locs wr43 hP hS => ?_)
      obtain ⟨p_26, -⟩ := wr43
      refine lv_imul hx hb dX11_duel_46 ?_
      refine nm_mul (e1 := 1) (f := 64) p_21 p_26 (by decide) (fun z46 hz46 ez46 => ?_)
      refine lv_istore (lv' := [(5, .int z46), (4, .int 0), (0, .ref a0), (1, .int p0), (2, .int p1), (3, .int p2)]) hx hb dX11_duel_47 hl (by decide) rfl (fun ls hl => ?_)
      refine lv_iconst (v := 0) hx hb dX11_duel_49 (by decide) ?_
      refine lv_istore (lv' := [(6, .int 0), (5, .int z46), (4, .int 0), (0, .ref a0), (1, .int p0), (2, .int p1), (3, .int p2)]) hx hb dX11_duel_50 hl (by decide) rfl (fun ls hl => ?_)
      have j52 : ∀ (n : Nat) (x52_4 : Int32) (x52_6 : Int32) (H : Heap) (locs : List Loc) (ls : Array Slot), 2147483648 ≤ x52_6.toInt + (n : Int) → rg 0 72 x52_4 → rg 0 8 x52_6 → (x52_4).toInt ≤ 8 * (x52_6).toInt → va_P G vwCl [(a0, .inr (11, [.int 0, .ref a1, .ref a2, .ref a3, .ref a4, .ref a5, .int n0_6, .int n0_7, .int n0_8, .int n0_9, .int n0_10, .long l0_11, .int n0_12, .int n0_13, .int n0_14, .int n0_15, .ref a6, .ref a7, .ref a8, .ref a9, .ref a10, .ref a11, .ref a12, .ref a13, .int (ur8.1 0), .int (ur8.1 1), .int (ur8.1 2), .int (ur8.1 3), .ref a14, .int n0_29, .int n0_30])), (a7, .inl (ct 0, 15, .inl f7)), (a8, .inl (ct 0, 200, .inl f8)), (a9, .inl (ct 0, 1000, .inl f9)), (a11, .inl (ct 0, 8, .inl (ur8.2.1 0))), (a12, .inl (ct 0, 8, .inl (ur8.2.1 1))), (a13, .inl (ct 0, 8, .inl (ur8.2.1 2)))] H → va_D A [(a0, .inr (11, [.int 0, .ref a1, .ref a2, .ref a3, .ref a4, .ref a5, .int n0_6, .int n0_7, .int n0_8, .int n0_9, .int n0_10, .long l0_11, .int n0_12, .int n0_13, .int n0_14, .int n0_15, .ref a6, .ref a7, .ref a8, .ref a9, .ref a10, .ref a11, .ref a12, .ref a13, .int (ur8.1 0), .int (ur8.1 1), .int (ur8.1 2), .int (ur8.1 3), .ref a14, .int n0_29, .int n0_30])), (a7, .inl (ct 0, 15, .inl f7)), (a8, .inl (ct 0, 200, .inl f8)), (a9, .inl (ct 0, 1000, .inl f9)), (a11, .inl (ct 0, 8, .inl (ur8.2.1 0))), (a12, .inl (ct 0, 8, .inl (ur8.2.1 1))), (a13, .inl (ct 0, 8, .inl (ur8.2.1 2)))] → va_S A s.heap H locs → lv_has ls 8 [(0, .ref a0), (1, .int p0), (2, .int p1), (3, .int p2), (4, .int x52_4), (5, .int z46), (6, .int x52_6)] → W p l e (headSpec wsX11_duel ({ frames := 81, cells := 0, slots := 0, locals := 3021 })).room s m ([.ref a0, .int p0, .int p1, .int p2] : List Value).toArray below meth c H locs 0 0 (MQ below (va_Qi (fun (r : Int32) (u : SU) => rg (-2) 64 r ∧ (r = 0 → rg 0 7 p0) ∧ (¬ r = (-2) → rg 0 7 p0) ∧ (r = 0 → rg 0 7 p1) ∧ (¬ r = (-2) → rg 0 7 p1) ∧ (r = 0 → rg 0 1 p2) ∧ (¬ r = (-2) → rg 0 1 p2) ∧ ar (-1) 7 (u.2.1 0) ∧ ar (-1) 7 (u.2.1 2) ∧ rg 0 0 (u.1 0) ∧ True) (fun u t => va_P G vwCl ((fun u : SU => [(a0, .inr (11, [.int (u.1 0), .ref a1, .ref a2, .ref a3, .ref a4, .ref a5, .int n0_6, .int n0_7, .int n0_8, .int n0_9, .int n0_10, .long l0_11, .int n0_12, .int n0_13, .int n0_14, .int n0_15, .ref a6, .ref a7, .ref a8, .ref a9, .ref a10, .ref a11, .ref a12, .ref a13, .int (u.1 1), .int (u.1 2), .int (u.1 3), .int (u.1 4), .ref a14, .int n0_29, .int n0_30])), (a7, .inl (ct 0, 15, .inl f7)), (a8, .inl (ct 0, 200, .inl f8)), (a9, .inl (ct 0, 1000, .inl f9)), (a11, .inl (ct 0, 8, .inl (u.2.1 0))), (a12, .inl (ct 0, 8, .inl (u.2.1 1))), (a13, .inl (ct 0, 8, .inl (u.2.1 2)))]) u) t.heap) A) ([.ref a0, .int p0, .int p1, .int p2] : List Value).toArray s 0 0 A) (F0 m 52 ls []) := by
        intro n
        induction n with
        | zero => intro x52_4 x52_6 H locs ls hn52 hx52_4 hx52_6 hd52 hP hD hS hl; exact absurd hn52 (by have := Int32.toInt_lt x52_6; have := Int32.le_toInt x52_6; omega)
        | succ n ih52 =>
          intro x52_4 x52_6 H locs ls hn52 hx52_4 hx52_6 hd52 hP hD hS hl
          have h_27 : rg 0 64 x52_4 := ⟨hx52_4.1, by have := hd52; have := hx52_6; omega⟩
          refine lv_iload hx hb dX11_duel_52 (lv_at hl 6 rfl) ?_
          refine lv_aload_n hx hb dX11_duel_54 rfl (lv_at hl 0 rfl) ?_
          refine va_get (D := G) (ci := 11) (v := .ref a7) (C := RX11) (T := TX11) (N := 31) hx hb hts (by decide +kernel) hown hK.1 hP 0 rfl rfl 17 (by decide) (hts (.fieldLink RX11 34 "CardHolderModel" "has" "[I") (by decide +kernel)) (fun _ h9 => h9) rfl dX11_duel_55 ?_
          refine lv_iconst (v := 1) hx hb dX11_duel_58 (by decide) ?_
          refine va_iald hx hb hK.1 hP 1 0 rfl rfl (in_lit (by decide)) dX11_duel_59 ?_
          refine lv_topi (fun z59 gz59 => ?_)
          have hz59 : rg 0 8 z59 := by rw [gz59]; exact (hp_f7.1 0)
          refine lv_icmp_ge (tgt := 131) hx hb dX11_duel_60 (by decide) (fun c60 => ?_) (fun c60 => ?_)
          · refine lv_iload_n hx hb dX11_duel_131 rfl (lv_at hl 3 rfl) ?_
            refine lv_if_ne (tgt := 140) hx hb dX11_duel_132 (by decide) (fun c132 => ?_) (fun c132 => ?_)
            · have h_28 : rg 1 1 p2 := r_ne_lo_i c132 h_16 (by decide) (by decide)
              refine lv_iload hx hb dX11_duel_140 (lv_at hl 5 rfl) ?_
              refine lv_iload hx hb dX11_duel_142 (lv_at hl 4 rfl) ?_
              refine lv_iload hx hb dX11_duel_144 (lv_at hl 5 rfl) ?_
              refine ro_calli (va_runS (As := [.int x52_4, .int z46]) (rest := [.int z46]) ⟨hx, hb, hml, hown, hts⟩ (a_X11_common l G ct x52_4 z46 h_27 hz46) (va_cwS 2 hts gX11_duel_X11_common rfl rfl rfl (by decide +kernel) ⟨Nat.le_of_ble_eq_true rfl, Nat.le_of_ble_eq_true rfl⟩) (ro_pre hK (hP.sub [] rfl)) rfl rfl hl.1 rfl (lv_room (Nat.le_of_ble_eq_true rfl)) dX11_duel_146 ⟨Nat.zero_le _, Nat.zero_le _⟩) hS hP (fun r146 H locs wr146 hP hS => ?_)
              obtain ⟨p_29, -⟩ := wr146
              refine lv_idiv hx hb dX11_duel_149 (rne0 p_29 (by decide)) ?_
              refine nm_div (f := 64) hz46 p_29 (by decide) (fun z149 hz149 => ?_)
              exact W.iret (v := z149) hx hb hr (fun t ht hW => ⟨⟨z149, (fun k => ([0, ur8.1 0, ur8.1 1, ur8.1 2, ur8.1 3] : List Int32).getD k 0, fun k => ([ur8.2.1 0, ur8.2.1 1, ur8.2.1 2] : List (Nat → Int32)).getD k (fun _ => 0), fun k => ([] : List (Nat → Int64)).getD k (fun _ => 0)), rfl, ⟨(rg_w (c := (-2)) (d := 64) hz149 (by decide)), (fun _ => h_10), (fun _ => h_10), (fun _ => h_11), (fun _ => h_11), (fun _ => (rg_w (c := 0) (d := 1) h_28 (by decide))), (fun _ => (rg_w (c := 0) (d := 1) h_28 (by decide))), p_4, p_5, (rgn 0 (x := 0) (by decide)), trivial⟩, hp_at ht hP⟩, hS.F ht⟩) hS.2.2 dX11_duel_150
            · have h_30 : rg 0 0 p2 := r_eq_l_i (e := 0) (f := 0) c132 h_16 (rgn 0 (x := 0) (by decide)) (by decide)
              refine lv_iload hx hb dX11_duel_135 (lv_at hl 4 rfl) ?_
              refine lv_goto (tgt := 142) hx hb dX11_duel_137 (by decide) ?_
              refine lv_iload hx hb dX11_duel_142 (lv_at hl 4 rfl) ?_
              refine lv_iload hx hb dX11_duel_144 (lv_at hl 5 rfl) ?_
              refine ro_calli (va_runS (As := [.int x52_4, .int z46]) (rest := [.int x52_4]) ⟨hx, hb, hml, hown, hts⟩ (a_X11_common l G ct x52_4 z46 h_27 hz46) (va_cwS 2 hts gX11_duel_X11_common rfl rfl rfl (by decide +kernel) ⟨Nat.le_of_ble_eq_true rfl, Nat.le_of_ble_eq_true rfl⟩) (ro_pre hK (hP.sub [] rfl)) rfl rfl hl.1 rfl (lv_room (Nat.le_of_ble_eq_true rfl)) dX11_duel_146 ⟨Nat.zero_le _, Nat.zero_le _⟩) hS hP (fun r146 H locs wr146 hP hS => ?_)
              obtain ⟨p_31, -⟩ := wr146
              refine lv_idiv hx hb dX11_duel_149 (rne0 p_31 (by decide)) ?_
              refine nm_div (f := 64) h_27 p_31 (by decide) (fun z149 hz149 => ?_)
              exact W.iret (v := z149) hx hb hr (fun t ht hW => ⟨⟨z149, (fun k => ([0, ur8.1 0, ur8.1 1, ur8.1 2, ur8.1 3] : List Int32).getD k 0, fun k => ([ur8.2.1 0, ur8.2.1 1, ur8.2.1 2] : List (Nat → Int32)).getD k (fun _ => 0), fun k => ([] : List (Nat → Int64)).getD k (fun _ => 0)), rfl, ⟨(rg_w (c := (-2)) (d := 64) hz149 (by decide)), (fun _ => h_10), (fun _ => h_10), (fun _ => h_11), (fun _ => h_11), (fun _ => (rg_w (c := 0) (d := 1) h_30 (by decide))), (fun _ => (rg_w (c := 0) (d := 1) h_30 (by decide))), p_4, p_5, (rgn 0 (x := 0) (by decide)), trivial⟩, hp_at ht hP⟩, hS.F ht⟩) hS.2.2 dX11_duel_150
          · have h_32 : rg 0 7 x52_6 := r_lt_l_i (nle_i c60) hx52_6 hz59 (by decide)
            have h_33 : rg 1 8 z59 := r_lt_r_i (nle_i c60) hx52_6 hz59 (by decide)
            refine lv_iconst (v := 0) hx hb dX11_duel_63 (by decide) ?_
            refine lv_istore (lv' := [(7, .int 0), (0, .ref a0), (1, .int p0), (2, .int p1), (3, .int p2), (4, .int x52_4), (5, .int z46), (6, .int x52_6)]) hx hb dX11_duel_64 hl (by decide) rfl (fun ls hl => ?_)
            have j66 : ∀ (n : Nat) (x66_4 : Int32) (x66_7 : Int32) (H : Heap) (locs : List Loc) (ls : Array Slot), 2147483648 ≤ x66_7.toInt + (n : Int) → rg 0 73 x66_4 → rg 0 8 x66_7 → (x66_4).toInt ≤ 8 * (x52_6).toInt + (x66_7).toInt → va_P G vwCl [(a0, .inr (11, [.int 0, .ref a1, .ref a2, .ref a3, .ref a4, .ref a5, .int n0_6, .int n0_7, .int n0_8, .int n0_9, .int n0_10, .long l0_11, .int n0_12, .int n0_13, .int n0_14, .int n0_15, .ref a6, .ref a7, .ref a8, .ref a9, .ref a10, .ref a11, .ref a12, .ref a13, .int (ur8.1 0), .int (ur8.1 1), .int (ur8.1 2), .int (ur8.1 3), .ref a14, .int n0_29, .int n0_30])), (a7, .inl (ct 0, 15, .inl f7)), (a8, .inl (ct 0, 200, .inl f8)), (a9, .inl (ct 0, 1000, .inl f9)), (a11, .inl (ct 0, 8, .inl (ur8.2.1 0))), (a12, .inl (ct 0, 8, .inl (ur8.2.1 1))), (a13, .inl (ct 0, 8, .inl (ur8.2.1 2)))] H → va_D A [(a0, .inr (11, [.int 0, .ref a1, .ref a2, .ref a3, .ref a4, .ref a5, .int n0_6, .int n0_7, .int n0_8, .int n0_9, .int n0_10, .long l0_11, .int n0_12, .int n0_13, .int n0_14, .int n0_15, .ref a6, .ref a7, .ref a8, .ref a9, .ref a10, .ref a11, .ref a12, .ref a13, .int (ur8.1 0), .int (ur8.1 1), .int (ur8.1 2), .int (ur8.1 3), .ref a14, .int n0_29, .int n0_30])), (a7, .inl (ct 0, 15, .inl f7)), (a8, .inl (ct 0, 200, .inl f8)), (a9, .inl (ct 0, 1000, .inl f9)), (a11, .inl (ct 0, 8, .inl (ur8.2.1 0))), (a12, .inl (ct 0, 8, .inl (ur8.2.1 1))), (a13, .inl (ct 0, 8, .inl (ur8.2.1 2)))] → va_S A s.heap H locs → lv_has ls 8 [(0, .ref a0), (1, .int p0), (2, .int p1), (3, .int p2), (4, .int x66_4), (5, .int z46), (6, .int x52_6), (7, .int x66_7)] → W p l e (headSpec wsX11_duel ({ frames := 81, cells := 0, slots := 0, locals := 3021 })).room s m ([.ref a0, .int p0, .int p1, .int p2] : List Value).toArray below meth c H locs 0 0 (MQ below (va_Qi (fun (r : Int32) (u : SU) => rg (-2) 64 r ∧ (r = 0 → rg 0 7 p0) ∧ (¬ r = (-2) → rg 0 7 p0) ∧ (r = 0 → rg 0 7 p1) ∧ (¬ r = (-2) → rg 0 7 p1) ∧ (r = 0 → rg 0 1 p2) ∧ (¬ r = (-2) → rg 0 1 p2) ∧ ar (-1) 7 (u.2.1 0) ∧ ar (-1) 7 (u.2.1 2) ∧ rg 0 0 (u.1 0) ∧ True) (fun u t => va_P G vwCl ((fun u : SU => [(a0, .inr (11, [.int (u.1 0), .ref a1, .ref a2, .ref a3, .ref a4, .ref a5, .int n0_6, .int n0_7, .int n0_8, .int n0_9, .int n0_10, .long l0_11, .int n0_12, .int n0_13, .int n0_14, .int n0_15, .ref a6, .ref a7, .ref a8, .ref a9, .ref a10, .ref a11, .ref a12, .ref a13, .int (u.1 1), .int (u.1 2), .int (u.1 3), .int (u.1 4), .ref a14, .int n0_29, .int n0_30])), (a7, .inl (ct 0, 15, .inl f7)), (a8, .inl (ct 0, 200, .inl f8)), (a9, .inl (ct 0, 1000, .inl f9)), (a11, .inl (ct 0, 8, .inl (u.2.1 0))), (a12, .inl (ct 0, 8, .inl (u.2.1 1))), (a13, .inl (ct 0, 8, .inl (u.2.1 2)))]) u) t.heap) A) ([.ref a0, .int p0, .int p1, .int p2] : List Value).toArray s 0 0 A) (F0 m 66 ls []) := by
              intro n
              induction n with
              | zero => intro x66_4 x66_7 H locs ls hn66 hx66_4 hx66_7 hd66 hP hD hS hl; exact absurd hn66 (by have := Int32.toInt_lt x66_7; have := Int32.le_toInt x66_7; omega)
              | succ n ih66 =>
                intro x66_4 x66_7 H locs ls hn66 hx66_4 hx66_7 hd66 hP hD hS hl
                have h_34 : rg 0 72 x66_4 := ⟨hx66_4.1, by have := hd66; have := (rg_w (c := 0) (d := 8) h_32 (by decide)); have := hx66_7; omega⟩
                refine lv_iload hx hb dX11_duel_66 (lv_at hl 7 rfl) ?_
                refine lv_aload_n hx hb dX11_duel_68 rfl (lv_at hl 0 rfl) ?_
                refine va_get (D := G) (ci := 11) (v := .ref a7) (C := RX11) (T := TX11) (N := 31) hx hb hts (by decide +kernel) hown hK.1 hP 0 rfl rfl 17 (by decide) (hts (.fieldLink RX11 34 "CardHolderModel" "has" "[I") (by decide +kernel)) (fun _ h9 => h9) rfl dX11_duel_69 ?_
                refine lv_iconst (v := 1) hx hb dX11_duel_72 (by decide) ?_
                refine va_iald hx hb hK.1 hP 1 0 rfl rfl (in_lit (by decide)) dX11_duel_73 ?_
                refine ix_i (y := z59) gz59.symm ?_
                refine lv_icmp_ge (tgt := 125) hx hb dX11_duel_74 (by decide) (fun c74 => ?_) (fun c74 => ?_)
                · have h_35 : rg 1 8 x66_7 := r_le_r_i c74 h_33 hx66_7
                  obtain ⟨z125, qz125⟩ : ∃ y : Int32, y = x52_6 + Int32.ofInt 1 := ⟨_, rfl⟩
                  obtain ⟨hz125, ez125⟩ := inc_z (e := 1) (f := 8) h_32 qz125 (by decide)
                  refine lv_iinc (v := z125) (lv' := [(6, .int z125), (0, .ref a0), (1, .int p0), (2, .int p1), (3, .int p2), (4, .int x66_4), (5, .int z46), (7, .int x66_7)]) hx hb dX11_duel_125 hl (k := 6) rfl (qz125.symm) (by decide) rfl (fun ls hl => ?_)
                  refine lv_goto (tgt := 52) hx hb dX11_duel_128 (by decide) ?_
                  exact ih52 x66_4 z125 _ _ ls (by have q := hn52; have := ez125; omega) h_34 (rg_w (c := 0) (d := 8) hz125 (by decide)) (by have := ez125; have := (rg_w (c := 0) (d := 8) h_35 (by decide)); have := hd66; have := hd52; skip; omega) hP hD hS (lv_sub hl [1, 2, 3, 4, 5, 6, 0] rfl)
                · have h_36 : rg 0 7 x66_7 := r_lt_l_i (nle_i c74) hx66_7 h_33 (by decide)
                  refine lv_aload_n hx hb dX11_duel_77 rfl (lv_at hl 0 rfl) ?_
                  refine va_get (D := G) (ci := 11) (v := .ref a11) (C := RX11) (T := TX11) (N := 31) hx hb hts (by decide +kernel) hown hK.1 hP 0 rfl rfl 21 (by decide) (hts (.fieldLink RX11 47 "CardHolderModel" "holder" "[I") (by decide +kernel)) (fun _ h9 => h9) rfl dX11_duel_78 ?_
                  refine lv_iload hx hb dX11_duel_81 (lv_at hl 6 rfl) ?_
                  refine va_iald hx hb hK.1 hP 4 0 rfl rfl (in_rg h_32 (by decide)) dX11_duel_83 ?_
                  refine lv_topi (fun z83 gz83 => ?_)
                  have hz83 : rg (-1) 7 z83 := by rw [gz83]; exact p_4 _
                  refine lv_iload_n hx hb dX11_duel_84 rfl (lv_at hl 1 rfl) ?_
                  refine lv_icmp_ne (tgt := 119) hx hb dX11_duel_85 (by decide) (fun c85 => ?_) (fun c85 => ?_)
                  · obtain ⟨z119, qz119⟩ : ∃ y : Int32, y = x66_7 + Int32.ofInt 1 := ⟨_, rfl⟩
                    obtain ⟨hz119, ez119⟩ := inc_z (e := 1) (f := 8) h_36 qz119 (by decide)
                    refine lv_iinc (v := z119) (lv' := [(7, .int z119), (0, .ref a0), (1, .int p0), (2, .int p1), (3, .int p2), (4, .int x66_4), (5, .int z46), (6, .int x52_6)]) hx hb dX11_duel_119 hl (k := 7) rfl (qz119.symm) (by decide) rfl (fun ls hl => ?_)
                    refine lv_goto (tgt := 66) hx hb dX11_duel_122 (by decide) ?_
                    exact ih66 x66_4 z119 _ _ ls (by have q := hn66; have := ez119; omega) (rg_w (c := 0) (d := 73) h_34 (by decide)) (rg_w (c := 0) (d := 8) hz119 (by decide)) (by have := ez119; have := hd66; have := hd52; skip; omega) hP hD hS (lv_sub hl [1, 2, 3, 4, 5, 6, 7, 0] rfl)
                  · have h_37 : rg 0 7 z83 := r_eq_l_i (e := 0) (f := 7) c85 hz83 h_10 (by decide)
                    refine lv_aload_n hx hb dX11_duel_88 rfl (lv_at hl 0 rfl) ?_
                    refine va_get (D := G) (ci := 11) (v := .ref a11) (C := RX11) (T := TX11) (N := 31) hx hb hts (by decide +kernel) hown hK.1 hP 0 rfl rfl 21 (by decide) (hts (.fieldLink RX11 47 "CardHolderModel" "holder" "[I") (by decide +kernel)) (fun _ h9 => h9) rfl dX11_duel_89 ?_
                    refine lv_iload hx hb dX11_duel_92 (lv_at hl 7 rfl) ?_
                    refine va_iald hx hb hK.1 hP 4 0 rfl rfl (in_rg h_36 (by decide)) dX11_duel_94 ?_
                    refine lv_topi (fun z94 gz94 => ?_)
                    have hz94 : rg (-1) 7 z94 := by rw [gz94]; exact p_4 _
                    refine lv_iload_n hx hb dX11_duel_95 rfl (lv_at hl 2 rfl) ?_
                    refine lv_icmp_ne (tgt := 119) hx hb dX11_duel_96 (by decide) (fun c96 => ?_) (fun c96 => ?_)
                    · obtain ⟨z119, qz119⟩ : ∃ y : Int32, y = x66_7 + Int32.ofInt 1 := ⟨_, rfl⟩
                      obtain ⟨hz119, ez119⟩ := inc_z (e := 1) (f := 8) h_36 qz119 (by decide)
                      refine lv_iinc (v := z119) (lv' := [(7, .int z119), (0, .ref a0), (1, .int p0), (2, .int p1), (3, .int p2), (4, .int x66_4), (5, .int z46), (6, .int x52_6)]) hx hb dX11_duel_119 hl (k := 7) rfl (qz119.symm) (by decide) rfl (fun ls hl => ?_)
                      refine lv_goto (tgt := 66) hx hb dX11_duel_122 (by decide) ?_
                      exact ih66 x66_4 z119 _ _ ls (by have q := hn66; have := ez119; omega) (rg_w (c := 0) (d := 73) h_34 (by decide)) (rg_w (c := 0) (d := 8) hz119 (by decide)) (by have := ez119; have := hd66; have := hd52; skip; omega) hP hD hS (lv_sub hl [1, 2, 3, 4, 5, 6, 7, 0] rfl)
                    · have h_38 : rg 0 7 z94 := r_eq_l_i (e := 0) (f := 7) c96 hz94 h_11 (by decide)
                      refine lv_aload_n hx hb dX11_duel_99 rfl (lv_at hl 0 rfl) ?_
                      refine lv_iload hx hb dX11_duel_100 (lv_at hl 6 rfl) ?_
                      refine lv_iconst (v := 0) hx hb dX11_duel_102 (by decide) ?_
                      refine ro_calli (va_runV (As := [.int x52_6, .int 0]) (rest := []) ⟨hx, hb, hml, hown, hts⟩ (a_X11_of0 l G ct a0 (0 : Int32) a1 a2 a3 a4 a5 n0_6 n0_7 n0_8 n0_9 n0_10 l0_11 n0_12 n0_13 n0_14 n0_15 a6 a7 a8 a9 a10 a11 a12 a13 (ur8.1 0) (ur8.1 1) (ur8.1 2) (ur8.1 3) a14 n0_29 n0_30 f8 x52_6 hp_n0_6 hp_f8 h_32) (cwV 2 hts gX11_duel_X11_of rfl rfl rfl (by decide +kernel) ⟨Nat.le_of_ble_eq_true rfl, Nat.le_of_ble_eq_true rfl⟩) (ro_preV 11 0 hK (hP.sub [0, 2] rfl) rfl rfl) rfl rfl hl.1 rfl (lv_room (Nat.le_of_ble_eq_true rfl)) dX11_duel_103 ⟨Nat.zero_le _, Nat.zero_le _⟩) hS hP (fun r103 H locs wr103 hP hS => ?_)
                      refine lv_aload_n hx hb dX11_duel_106 rfl (lv_at hl 0 rfl) ?_
                      refine lv_iload hx hb dX11_duel_107 (lv_at hl 7 rfl) ?_
                      refine lv_iconst (v := 0) hx hb dX11_duel_109 (by decide) ?_
                      refine ro_calli (va_runV (As := [.int x66_7, .int 0]) (rest := [.int r103]) ⟨hx, hb, hml, hown, hts⟩ (a_X11_of0 l G ct a0 (0 : Int32) a1 a2 a3 a4 a5 n0_6 n0_7 n0_8 n0_9 n0_10 l0_11 n0_12 n0_13 n0_14 n0_15 a6 a7 a8 a9 a10 a11 a12 a13 (ur8.1 0) (ur8.1 1) (ur8.1 2) (ur8.1 3) a14 n0_29 n0_30 f8 x66_7 hp_n0_6 hp_f8 h_36) (cwV 2 hts gX11_duel_X11_of rfl rfl rfl (by decide +kernel) ⟨Nat.le_of_ble_eq_true rfl, Nat.le_of_ble_eq_true rfl⟩) (ro_preV 11 0 hK (hP.sub [0, 2] rfl) rfl rfl) rfl rfl hl.1 rfl (lv_room (Nat.le_of_ble_eq_true rfl)) dX11_duel_110 ⟨Nat.zero_le _, Nat.zero_le _⟩) hS hP (fun r110 H locs wr110 hP hS => ?_)
                      refine lv_icmp_le (tgt := 119) hx hb dX11_duel_113 (by decide) (fun c113 => ?_) (fun c113 => ?_)
                      · obtain ⟨z119, qz119⟩ : ∃ y : Int32, y = x66_7 + Int32.ofInt 1 := ⟨_, rfl⟩
                        obtain ⟨hz119, ez119⟩ := inc_z (e := 1) (f := 8) h_36 qz119 (by decide)
                        refine lv_iinc (v := z119) (lv' := [(7, .int z119), (0, .ref a0), (1, .int p0), (2, .int p1), (3, .int p2), (4, .int x66_4), (5, .int z46), (6, .int x52_6)]) hx hb dX11_duel_119 hl (k := 7) rfl (qz119.symm) (by decide) rfl (fun ls hl => ?_)
                        refine lv_goto (tgt := 66) hx hb dX11_duel_122 (by decide) ?_
                        exact ih66 x66_4 z119 _ _ ls (by have q := hn66; have := ez119; omega) (rg_w (c := 0) (d := 73) h_34 (by decide)) (rg_w (c := 0) (d := 8) hz119 (by decide)) (by have := ez119; have := hd66; have := hd52; skip; omega) hP hD hS (lv_sub hl [1, 2, 3, 4, 5, 6, 7, 0] rfl)
                      · have h_39 : rg (-2147483648) 2147483646 r110 := r_lt_l_i (nle_i c113) (rg_t r110) (rg_t r103) (by decide)
                        have h_40 : rg (-2147483647) 2147483647 r103 := r_lt_r_i (nle_i c113) (rg_t r110) (rg_t r103) (by decide)
                        obtain ⟨z116, qz116⟩ : ∃ y : Int32, y = x66_4 + Int32.ofInt 1 := ⟨_, rfl⟩
                        obtain ⟨hz116, ez116⟩ := inc_z (e := 1) (f := 73) h_34 qz116 (by decide)
                        refine lv_iinc (v := z116) (lv' := [(4, .int z116), (0, .ref a0), (1, .int p0), (2, .int p1), (3, .int p2), (5, .int z46), (6, .int x52_6), (7, .int x66_7)]) hx hb dX11_duel_116 hl (k := 4) rfl (qz116.symm) (by decide) rfl (fun ls hl => ?_)
                        obtain ⟨z119, qz119⟩ : ∃ y : Int32, y = x66_7 + Int32.ofInt 1 := ⟨_, rfl⟩
                        obtain ⟨hz119, ez119⟩ := inc_z (e := 1) (f := 8) h_36 qz119 (by decide)
                        refine lv_iinc (v := z119) (lv' := [(7, .int z119), (4, .int z116), (0, .ref a0), (1, .int p0), (2, .int p1), (3, .int p2), (5, .int z46), (6, .int x52_6)]) hx hb dX11_duel_119 hl (k := 7) rfl (qz119.symm) (by decide) rfl (fun ls hl => ?_)
                        refine lv_goto (tgt := 66) hx hb dX11_duel_122 (by decide) ?_
                        exact ih66 z116 z119 _ _ ls (by have q := hn66; have := ez119; omega) (rg_w (c := 0) (d := 73) hz116 (by decide)) (rg_w (c := 0) (d := 8) hz119 (by decide)) (by have := ez116; have := ez119; have := hd66; have := hd52; skip; omega) hP hD hS (lv_sub hl [2, 3, 4, 5, 1, 6, 7, 0] rfl)
            exact j66 4294967296 x52_4 (0 : Int32) _ _ ls (ms_e (0 : Int32)) (rg_w (c := 0) (d := 73) h_27 (by decide)) (rg_w (c := 0) (d := 8) (rgn 0 (x := 0) (by decide)) (by decide)) (by have : (0 : Int32).toInt = 0 := (by decide); have := hd52; skip; omega) hP hD hS (lv_sub hl [1, 2, 3, 4, 5, 6, 7, 0] rfl)
      exact j52 4294967296 (0 : Int32) (0 : Int32) _ _ ls (ms_e (0 : Int32)) (rg_w (c := 0) (d := 72) (rgn 0 (x := 0) (by decide)) (by decide)) (rg_w (c := 0) (d := 8) (rgn 0 (x := 0) (by decide)) (by decide)) (by have : (0 : Int32).toInt = 0 := (by decide); have : (0 : Int32).toInt = 0 := (by decide); skip; omega) hP hD hS (lv_sub hl [3, 4, 5, 6, 2, 1, 0] rfl)
    · have h_41 : rg 0 0 r18 := r_eq_l_i (e := 0) (f := 0) c21 p_12 (rgn 0 (x := 0) (by decide)) (by decide)
      refine lv_bipush (v := (-2)) hx hb dX11_duel_24 (by decide) ?_
      exact W.iret (v := (-2)) hx hb hr (fun t ht hW => ⟨⟨(-2), (fun k => ([0, ur8.1 0, ur8.1 1, ur8.1 2, ur8.1 3] : List Int32).getD k 0, fun k => ([ur8.2.1 0, ur8.2.1 1, ur8.2.1 2] : List (Nat → Int32)).getD k (fun _ => 0), fun k => ([] : List (Nat → Int64)).getD k (fun _ => 0)), rfl, ⟨(rg_w (c := (-2)) (d := 64) (rgn (-2) (x := (-2)) (by decide)) (by decide)), (fun _ => h_10), (fun _ => h_10), (fun _ => h_11), (fun _ => h_11), (fun hq => absurd hq (rne (rgn (-2) (x := (-2)) (by decide)) (y := 0) (c := 0) (by decide) (by decide))), (fun hq => absurd (req (rgn (-2) (x := (-2)) (by decide)) (y := (-2)) (by decide)) hq), p_4, p_5, (rgn 0 (x := 0) (by decide)), trivial⟩, hp_at ht hP⟩, hS.F ht⟩) hS.2.2 dX11_duel_26

set_option maxHeartbeats 4000000 in
set_option maxRecDepth 100000 in
theorem a_X11_wonBy (l : Launch) (G : va_G) (ct : Nat → ClassId) (a0 : Nat) (n0_0 : Int32) (a1 : Nat) (a2 : Nat) (a3 : Nat) (a4 : Nat) (a5 : Nat) (n0_6 : Int32) (n0_7 : Int32) (n0_8 : Int32) (n0_9 : Int32) (n0_10 : Int32) (l0_11 : Int64) (n0_12 : Int32) (n0_13 : Int32) (n0_14 : Int32) (n0_15 : Int32) (a6 : Nat) (a7 : Nat) (a8 : Nat) (a9 : Nat) (a10 : Nat) (a11 : Nat) (a12 : Nat) (a13 : Nat) (n0_24 : Int32) (n0_25 : Int32) (n0_26 : Int32) (n0_27 : Int32) (a14 : Nat) (n0_29 : Int32) (n0_30 : Int32) (f8 : Nat → Int32) (p0 : Int32) (p1 : Int32) (hp_n0_6 : rg 0 900 n0_6) (hp_f8 : psI f8) (hp_p0 : rg 0 7 p0) (hp_p1 : rg 0 7 p1) : Met l yX11_wonBy wsX11_wonBy ({ frames := 1, cells := 0, slots := 0, locals := 22 }) (va_Pc [.ref a0, .int p0, .int p1] (roP G ct [(a0, .inr (11, [.int n0_0, .ref a1, .ref a2, .ref a3, .ref a4, .ref a5, .int n0_6, .int n0_7, .int n0_8, .int n0_9, .int n0_10, .long l0_11, .int n0_12, .int n0_13, .int n0_14, .int n0_15, .ref a6, .ref a7, .ref a8, .ref a9, .ref a10, .ref a11, .ref a12, .ref a13, .int n0_24, .int n0_25, .int n0_26, .int n0_27, .ref a14, .int n0_29, .int n0_30])), (a8, .inl (ct 0, 200, .inl f8))])) (roQ (fun r => True)) 0 0 no := by
  refine Met.ofW (cc := cX11_wonBy) (maxL := 3) (ret := (some .int)) (by decide) rfl ?_
  intro p e s m args below meth c s₁ B hml hv
  obtain ⟨rfl, hP, hK⟩ := hv
  have hx := B.exec
  have hb := B.bytes
  have hr := B.returns
  have hts := atoms_spec (ws := wsX11_wonBy) B.pre
  have hown : s.vm.findClass RX11 = some m.cls := findClass_of_methodNamed B.named
  have hlocks := B.notSynchronized
  have hS : va_S no s.heap s.heap [] := va_S.rf
  have hl := lv_entry ([.ref a0, .int p0, .int p1]) (n := 3) (Nat.le_of_ble_eq_true rfl)
  rw [lg_entry_eq]
  generalize (lg_sl ([.ref a0, .int p0, .int p1]) ++ List.replicate (3 - (lg_sl ([.ref a0, .int p0, .int p1])).length) Slot.unset).toArray = ls at hl ⊢
  have hl : lv_has ls 3 [(0, .ref a0), (1, .int p0), (2, .int p1)] := hl
  refine lv_aload_n hx hb dX11_wonBy_0 rfl (lv_at hl 0 rfl) ?_
  refine lv_iload_n hx hb dX11_wonBy_1 rfl (lv_at hl 1 rfl) ?_
  refine lv_iconst (v := 0) hx hb dX11_wonBy_2 (by decide) ?_
  refine ro_calli (va_runV (As := [.int p0, .int 0]) (rest := []) ⟨hx, hb, hml, hown, hts⟩ (a_X11_of0 l G ct a0 n0_0 a1 a2 a3 a4 a5 n0_6 n0_7 n0_8 n0_9 n0_10 l0_11 n0_12 n0_13 n0_14 n0_15 a6 a7 a8 a9 a10 a11 a12 a13 n0_24 n0_25 n0_26 n0_27 a14 n0_29 n0_30 f8 p0 hp_n0_6 hp_f8 hp_p0) (cwV 2 hts gX11_wonBy_X11_of rfl rfl rfl (by decide +kernel) ⟨Nat.le_of_ble_eq_true rfl, Nat.le_of_ble_eq_true rfl⟩) (ro_preV 11 0 hK (hP.sub [0, 1] rfl) rfl rfl) rfl rfl hl.1 rfl (lv_room (Nat.le_of_ble_eq_true rfl)) dX11_wonBy_3 ⟨Nat.zero_le _, Nat.zero_le _⟩) hS hP (fun r3 H locs wr3 hP hS => ?_)
  refine lv_aload_n hx hb dX11_wonBy_6 rfl (lv_at hl 0 rfl) ?_
  refine lv_iload_n hx hb dX11_wonBy_7 rfl (lv_at hl 2 rfl) ?_
  refine lv_iconst (v := 0) hx hb dX11_wonBy_8 (by decide) ?_
  refine ro_calli (va_runV (As := [.int p1, .int 0]) (rest := [.int r3]) ⟨hx, hb, hml, hown, hts⟩ (a_X11_of0 l G ct a0 n0_0 a1 a2 a3 a4 a5 n0_6 n0_7 n0_8 n0_9 n0_10 l0_11 n0_12 n0_13 n0_14 n0_15 a6 a7 a8 a9 a10 a11 a12 a13 n0_24 n0_25 n0_26 n0_27 a14 n0_29 n0_30 f8 p1 hp_n0_6 hp_f8 hp_p1) (cwV 2 hts gX11_wonBy_X11_of rfl rfl rfl (by decide +kernel) ⟨Nat.le_of_ble_eq_true rfl, Nat.le_of_ble_eq_true rfl⟩) (ro_preV 11 0 hK (hP.sub [0, 1] rfl) rfl rfl) rfl rfl hl.1 rfl (lv_room (Nat.le_of_ble_eq_true rfl)) dX11_wonBy_9 ⟨Nat.zero_le _, Nat.zero_le _⟩) hS hP (fun r9 H locs wr9 hP hS => ?_)
  refine lv_icmp_le (tgt := 24) hx hb dX11_wonBy_12 (by decide) (fun c12 => ?_) (fun c12 => ?_)
  · refine lv_aload_n hx hb dX11_wonBy_24 rfl (lv_at hl 0 rfl) ?_
    refine lv_iload_n hx hb dX11_wonBy_25 rfl (lv_at hl 1 rfl) ?_
    refine lv_iconst (v := 0) hx hb dX11_wonBy_26 (by decide) ?_
    refine ro_calli (va_runV (As := [.int p0, .int 0]) (rest := []) ⟨hx, hb, hml, hown, hts⟩ (a_X11_of0 l G ct a0 n0_0 a1 a2 a3 a4 a5 n0_6 n0_7 n0_8 n0_9 n0_10 l0_11 n0_12 n0_13 n0_14 n0_15 a6 a7 a8 a9 a10 a11 a12 a13 n0_24 n0_25 n0_26 n0_27 a14 n0_29 n0_30 f8 p0 hp_n0_6 hp_f8 hp_p0) (cwV 2 hts gX11_wonBy_X11_of rfl rfl rfl (by decide +kernel) ⟨Nat.le_of_ble_eq_true rfl, Nat.le_of_ble_eq_true rfl⟩) (ro_preV 11 0 hK (hP.sub [0, 1] rfl) rfl rfl) rfl rfl hl.1 rfl (lv_room (Nat.le_of_ble_eq_true rfl)) dX11_wonBy_27 ⟨Nat.zero_le _, Nat.zero_le _⟩) hS hP (fun r27 H locs wr27 hP hS => ?_)
    refine lv_aload_n hx hb dX11_wonBy_30 rfl (lv_at hl 0 rfl) ?_
    refine lv_iload_n hx hb dX11_wonBy_31 rfl (lv_at hl 2 rfl) ?_
    refine lv_iconst (v := 0) hx hb dX11_wonBy_32 (by decide) ?_
    refine ro_calli (va_runV (As := [.int p1, .int 0]) (rest := [.int r27]) ⟨hx, hb, hml, hown, hts⟩ (a_X11_of0 l G ct a0 n0_0 a1 a2 a3 a4 a5 n0_6 n0_7 n0_8 n0_9 n0_10 l0_11 n0_12 n0_13 n0_14 n0_15 a6 a7 a8 a9 a10 a11 a12 a13 n0_24 n0_25 n0_26 n0_27 a14 n0_29 n0_30 f8 p1 hp_n0_6 hp_f8 hp_p1) (cwV 2 hts gX11_wonBy_X11_of rfl rfl rfl (by decide +kernel) ⟨Nat.le_of_ble_eq_true rfl, Nat.le_of_ble_eq_true rfl⟩) (ro_preV 11 0 hK (hP.sub [0, 1] rfl) rfl rfl) rfl rfl hl.1 rfl (lv_room (Nat.le_of_ble_eq_true rfl)) dX11_wonBy_33 ⟨Nat.zero_le _, Nat.zero_le _⟩) hS hP (fun r33 H locs wr33 hP hS => ?_)
    refine lv_icmp_ge (tgt := 49) hx hb dX11_wonBy_36 (by decide) (fun c36 => ?_) (fun c36 => ?_)
    · refine lv_iconst (v := 0) hx hb dX11_wonBy_49 (by decide) ?_
      exact W.iret (v := 0) hx hb hr (fun t ht hW => ⟨⟨0, (), rfl, trivial, trivial⟩, hS.F ht⟩) hS.2.2 dX11_wonBy_50
    · have h_1 : rg (-2147483648) 2147483646 r27 := r_lt_l_i (nle_i c36) (rg_t r27) (rg_t r33) (by decide)
      have h_2 : rg (-2147483647) 2147483647 r33 := r_lt_r_i (nle_i c36) (rg_t r27) (rg_t r33) (by decide)
      refine lv_aload_n hx hb dX11_wonBy_39 rfl (lv_at hl 0 rfl) ?_
      refine lv_iload_n hx hb dX11_wonBy_40 rfl (lv_at hl 1 rfl) ?_
      refine lv_iconst (v := 0) hx hb dX11_wonBy_41 (by decide) ?_
      refine ro_calli (va_runV (As := [.int p0, .int 0]) (rest := []) ⟨hx, hb, hml, hown, hts⟩ (a_X11_of0 l G ct a0 n0_0 a1 a2 a3 a4 a5 n0_6 n0_7 n0_8 n0_9 n0_10 l0_11 n0_12 n0_13 n0_14 n0_15 a6 a7 a8 a9 a10 a11 a12 a13 n0_24 n0_25 n0_26 n0_27 a14 n0_29 n0_30 f8 p0 hp_n0_6 hp_f8 hp_p0) (cwV 2 hts gX11_wonBy_X11_of rfl rfl rfl (by decide +kernel) ⟨Nat.le_of_ble_eq_true rfl, Nat.le_of_ble_eq_true rfl⟩) (ro_preV 11 0 hK (hP.sub [0, 1] rfl) rfl rfl) rfl rfl hl.1 rfl (lv_room (Nat.le_of_ble_eq_true rfl)) dX11_wonBy_42 ⟨Nat.zero_le _, Nat.zero_le _⟩) hS hP (fun r42 H locs wr42 hP hS => ?_)
      refine lv_ineg hx hb dX11_wonBy_45 ?_
      refine nm_0 (fun z45 => ?_)
      refine lv_goto (tgt := 50) hx hb dX11_wonBy_46 (by decide) ?_
      exact W.iret (v := z45) hx hb hr (fun t ht hW => ⟨⟨z45, (), rfl, trivial, trivial⟩, hS.F ht⟩) hS.2.2 dX11_wonBy_50
  · have h_3 : rg (-2147483648) 2147483646 r9 := r_lt_l_i (nle_i c12) (rg_t r9) (rg_t r3) (by decide)
    have h_4 : rg (-2147483647) 2147483647 r3 := r_lt_r_i (nle_i c12) (rg_t r9) (rg_t r3) (by decide)
    refine lv_aload_n hx hb dX11_wonBy_15 rfl (lv_at hl 0 rfl) ?_
    refine lv_iload_n hx hb dX11_wonBy_16 rfl (lv_at hl 2 rfl) ?_
    refine lv_iconst (v := 0) hx hb dX11_wonBy_17 (by decide) ?_
    refine ro_calli (va_runV (As := [.int p1, .int 0]) (rest := []) ⟨hx, hb, hml, hown, hts⟩ (a_X11_of0 l G ct a0 n0_0 a1 a2 a3 a4 a5 n0_6 n0_7 n0_8 n0_9 n0_10 l0_11 n0_12 n0_13 n0_14 n0_15 a6 a7 a8 a9 a10 a11 a12 a13 n0_24 n0_25 n0_26 n0_27 a14 n0_29 n0_30 f8 p1 hp_n0_6 hp_f8 hp_p1) (cwV 2 hts gX11_wonBy_X11_of rfl rfl rfl (by decide +kernel) ⟨Nat.le_of_ble_eq_true rfl, Nat.le_of_ble_eq_true rfl⟩) (ro_preV 11 0 hK (hP.sub [0, 1] rfl) rfl rfl) rfl rfl hl.1 rfl (lv_room (Nat.le_of_ble_eq_true rfl)) dX11_wonBy_18 ⟨Nat.zero_le _, Nat.zero_le _⟩) hS hP (fun r18 H locs wr18 hP hS => ?_)
    refine lv_goto (tgt := 50) hx hb dX11_wonBy_21 (by decide) ?_
    exact W.iret (v := r18) hx hb hr (fun t ht hW => ⟨⟨r18, (), rfl, trivial, trivial⟩, hS.F ht⟩) hS.2.2 dX11_wonBy_50

set_option maxHeartbeats 4000000 in
set_option maxRecDepth 100000 in
theorem a_X11_replyTo (l : Launch) (G : va_G) (ct : Nat → ClassId) (a0 : Nat) (n0_0 : Int32) (a1 : Nat) (a2 : Nat) (a3 : Nat) (a4 : Nat) (a5 : Nat) (n0_6 : Int32) (n0_7 : Int32) (n0_8 : Int32) (n0_9 : Int32) (n0_10 : Int32) (l0_11 : Int64) (n0_12 : Int32) (n0_13 : Int32) (n0_14 : Int32) (n0_15 : Int32) (a6 : Nat) (a7 : Nat) (a8 : Nat) (a9 : Nat) (a10 : Nat) (a11 : Nat) (a12 : Nat) (a13 : Nat) (n0_24 : Int32) (n0_25 : Int32) (n0_26 : Int32) (n0_27 : Int32) (a14 : Nat) (n0_29 : Int32) (n0_30 : Int32) (f7 : Nat → Int32) (f8 : Nat → Int32) (f11 : Nat → Int32) (p0 : Int32) (p1 : Int32) (hp_n0_6 : rg 0 900 n0_6) (hp_f7 : hsI f7) (hp_f8 : psI f8) (hp_f11 : ar (-1) 7 f11) (hp_p0 : rg 0 7 p0) (hp_p1 : rg 0 7 p1) (hh : hold f7 f11 p1) : Met l yX11_replyTo wsX11_replyTo ({ frames := 2, cells := 0, slots := 0, locals := 44 }) (va_Pc [.ref a0, .int p0, .int p1] (roP G ct [(a0, .inr (11, [.int n0_0, .ref a1, .ref a2, .ref a3, .ref a4, .ref a5, .int n0_6, .int n0_7, .int n0_8, .int n0_9, .int n0_10, .long l0_11, .int n0_12, .int n0_13, .int n0_14, .int n0_15, .ref a6, .ref a7, .ref a8, .ref a9, .ref a10, .ref a11, .ref a12, .ref a13, .int n0_24, .int n0_25, .int n0_26, .int n0_27, .ref a14, .int n0_29, .int n0_30])), (a7, .inl (ct 0, 15, .inl f7)), (a8, .inl (ct 0, 200, .inl f8)), (a11, .inl (ct 0, 8, .inl f11))])) (roQ (fun r => rg 0 7 r ∧ True)) 0 0 no := by
  refine Met.ofW (cc := cX11_replyTo) (maxL := 5) (ret := (some .int)) (by decide) rfl ?_
  intro p e s m args below meth c s₁ B hml hv
  obtain ⟨rfl, hP, hK⟩ := hv
  have hx := B.exec
  have hb := B.bytes
  have hr := B.returns
  have hts := atoms_spec (ws := wsX11_replyTo) B.pre
  have hown : s.vm.findClass RX11 = some m.cls := findClass_of_methodNamed B.named
  have hlocks := B.notSynchronized
  have hS : va_S no s.heap s.heap [] := va_S.rf
  have hl := lv_entry ([.ref a0, .int p0, .int p1]) (n := 5) (Nat.le_of_ble_eq_true rfl)
  rw [lg_entry_eq]
  generalize (lg_sl ([.ref a0, .int p0, .int p1]) ++ List.replicate (5 - (lg_sl ([.ref a0, .int p0, .int p1])).length) Slot.unset).toArray = ls at hl ⊢
  have hl : lv_has ls 5 [(0, .ref a0), (1, .int p0), (2, .int p1)] := hl
  refine lv_iconst (v := (-1)) hx hb dX11_replyTo_0 (by decide) ?_
  refine lv_istore_n (lv' := [(3, .int (-1)), (0, .ref a0), (1, .int p0), (2, .int p1)]) hx hb dX11_replyTo_1 rfl hl (by decide) rfl (fun ls hl => ?_)
  refine lv_iconst (v := 0) hx hb dX11_replyTo_2 (by decide) ?_
  refine lv_istore (lv' := [(4, .int 0), (3, .int (-1)), (0, .ref a0), (1, .int p0), (2, .int p1)]) hx hb dX11_replyTo_3 hl (by decide) rfl (fun ls hl => ?_)
  have j5 : ∀ (n : Nat) (x5_3 : Int32) (x5_4 : Int32) (H : Heap) (locs : List Loc) (ls : Array Slot), 2147483648 ≤ x5_4.toInt + (n : Int) → rg (-1) 7 x5_3 → rg 0 8 x5_4 → (x5_3 = -1 → hn f11 p1 (x5_4).toInt) → va_P G vwCl [(a0, .inr (11, [.int n0_0, .ref a1, .ref a2, .ref a3, .ref a4, .ref a5, .int n0_6, .int n0_7, .int n0_8, .int n0_9, .int n0_10, .long l0_11, .int n0_12, .int n0_13, .int n0_14, .int n0_15, .ref a6, .ref a7, .ref a8, .ref a9, .ref a10, .ref a11, .ref a12, .ref a13, .int n0_24, .int n0_25, .int n0_26, .int n0_27, .ref a14, .int n0_29, .int n0_30])), (a7, .inl (ct 0, 15, .inl f7)), (a8, .inl (ct 0, 200, .inl f8)), (a11, .inl (ct 0, 8, .inl f11))] H → va_S no s.heap H locs → lv_has ls 5 [(0, .ref a0), (1, .int p0), (2, .int p1), (3, .int x5_3), (4, .int x5_4)] → W p l e (headSpec wsX11_replyTo ({ frames := 2, cells := 0, slots := 0, locals := 44 })).room s m ([.ref a0, .int p0, .int p1] : List Value).toArray below meth c H locs 0 0 (MQ below (roQ (fun r => rg 0 7 r ∧ True)) ([.ref a0, .int p0, .int p1] : List Value).toArray s 0 0 no) (F0 m 5 ls []) := by
    intro n
    induction n with
    | zero => intro x5_3 x5_4 H locs ls hn5 hx5_3 hx5_4 hq5 hP hS hl; exact absurd hn5 (by have := Int32.toInt_lt x5_4; have := Int32.le_toInt x5_4; omega)
    | succ n ih5 =>
      intro x5_3 x5_4 H locs ls hn5 hx5_3 hx5_4 hq5 hP hS hl
      refine lv_iload hx hb dX11_replyTo_5 (lv_at hl 4 rfl) ?_
      refine lv_aload_n hx hb dX11_replyTo_7 rfl (lv_at hl 0 rfl) ?_
      refine va_get (D := G) (ci := 11) (v := .ref a7) (C := RX11) (T := TX11) (N := 31) hx hb hts (by decide +kernel) hown hK.1 hP 0 rfl rfl 17 (by decide) (hts (.fieldLink RX11 34 "CardHolderModel" "has" "[I") (by decide +kernel)) (fun _ h9 => h9) rfl dX11_replyTo_8 ?_
      refine lv_iconst (v := 1) hx hb dX11_replyTo_11 (by decide) ?_
      refine va_iald hx hb hK.1 hP 1 0 rfl rfl (in_lit (by decide)) dX11_replyTo_12 ?_
      refine lv_topi (fun z12 gz12 => ?_)
      have hz12 : rg 0 8 z12 := by rw [gz12]; exact (hp_f7.1 0)
      refine lv_icmp_ge (tgt := 57) hx hb dX11_replyTo_13 (by decide) (fun c13 => ?_) (fun c13 => ?_)
      · have h_1 : rg 0 7 x5_3 := hn_e hq5 hx5_3 gz12 c13 hh
        refine lv_iload_n hx hb dX11_replyTo_57 rfl (lv_at hl 3 rfl) ?_
        exact W.iret (v := x5_3) hx hb hr (fun t ht hW => ⟨⟨x5_3, (), rfl, ⟨h_1, trivial⟩, trivial⟩, hS.F ht⟩) hS.2.2 dX11_replyTo_58
      · have h_2 : rg 0 7 x5_4 := r_lt_l_i (nle_i c13) hx5_4 hz12 (by decide)
        have h_3 : rg 1 8 z12 := r_lt_r_i (nle_i c13) hx5_4 hz12 (by decide)
        refine lv_aload_n hx hb dX11_replyTo_16 rfl (lv_at hl 0 rfl) ?_
        refine va_get (D := G) (ci := 11) (v := .ref a11) (C := RX11) (T := TX11) (N := 31) hx hb hts (by decide +kernel) hown hK.1 hP 0 rfl rfl 21 (by decide) (hts (.fieldLink RX11 47 "CardHolderModel" "holder" "[I") (by decide +kernel)) (fun _ h9 => h9) rfl dX11_replyTo_17 ?_
        refine lv_iload hx hb dX11_replyTo_20 (lv_at hl 4 rfl) ?_
        refine va_iald hx hb hK.1 hP 3 0 rfl rfl (in_rg h_2 (by decide)) dX11_replyTo_22 ?_
        refine lv_topi (fun z22 gz22 => ?_)
        have hz22 : rg (-1) 7 z22 := by rw [gz22]; exact hp_f11 _
        refine lv_iload_n hx hb dX11_replyTo_23 rfl (lv_at hl 2 rfl) ?_
        refine lv_icmp_ne (tgt := 51) hx hb dX11_replyTo_24 (by decide) (fun c24 => ?_) (fun c24 => ?_)
        · obtain ⟨z51, qz51⟩ : ∃ y : Int32, y = x5_4 + Int32.ofInt 1 := ⟨_, rfl⟩
          obtain ⟨hz51, ez51⟩ := inc_z (e := 1) (f := 8) h_2 qz51 (by decide)
          refine lv_iinc (v := z51) (lv' := [(4, .int z51), (0, .ref a0), (1, .int p0), (2, .int p1), (3, .int x5_3)]) hx hb dX11_replyTo_51 hl (k := 4) rfl (qz51.symm) (by decide) rfl (fun ls hl => ?_)
          refine lv_goto (tgt := 5) hx hb dX11_replyTo_54 (by decide) ?_
          exact ih5 x5_3 z51 _ _ ls (by have q := hn5; have := ez51; omega) hx5_3 (rg_w (c := 0) (d := 8) hz51 (by decide)) (fun hq => hn_s (hq5 hq) gz22 c24 ez51) hP hS (lv_sub hl [1, 2, 3, 4, 0] rfl)
        · have h_4 : rg 0 7 z22 := r_eq_l_i (e := 0) (f := 7) c24 hz22 hp_p1 (by decide)
          refine lv_iload_n hx hb dX11_replyTo_27 rfl (lv_at hl 3 rfl) ?_
          refine lv_iconst (v := (-1)) hx hb dX11_replyTo_28 (by decide) ?_
          refine lv_icmp_eq (tgt := 48) hx hb dX11_replyTo_29 (by decide) (fun c29 => ?_) (fun c29 => ?_)
          · have h_5 : rg (-1) (-1) x5_3 := r_eq_l_i (e := (-1)) (f := (-1)) c29 hx5_3 (rgn (-1) (x := (-1)) (by decide)) (by decide)
            refine lv_iload hx hb dX11_replyTo_48 (lv_at hl 4 rfl) ?_
            refine lv_istore_n (lv' := [(3, .int x5_4), (0, .ref a0), (1, .int p0), (2, .int p1), (4, .int x5_4)]) hx hb dX11_replyTo_50 rfl hl (by decide) rfl (fun ls hl => ?_)
            obtain ⟨z51, qz51⟩ : ∃ y : Int32, y = x5_4 + Int32.ofInt 1 := ⟨_, rfl⟩
            obtain ⟨hz51, ez51⟩ := inc_z (e := 1) (f := 8) h_2 qz51 (by decide)
            refine lv_iinc (v := z51) (lv' := [(4, .int z51), (3, .int x5_4), (0, .ref a0), (1, .int p0), (2, .int p1)]) hx hb dX11_replyTo_51 hl (k := 4) rfl (qz51.symm) (by decide) rfl (fun ls hl => ?_)
            refine lv_goto (tgt := 5) hx hb dX11_replyTo_54 (by decide) ?_
            exact ih5 x5_4 z51 _ _ ls (by have q := hn5; have := ez51; omega) (rg_w (c := (-1)) (d := 7) h_2 (by decide)) (rg_w (c := 0) (d := 8) hz51 (by decide)) (fun hq => absurd hq (rne h_2 (y := -1) (c := -1) (by decide) (by decide))) hP hS (lv_sub hl [2, 3, 4, 1, 0] rfl)
          · have h_6 : rg 0 7 x5_3 := r_ne_lo_i c29 hx5_3 (by decide) (by decide)
            refine lv_aload_n hx hb dX11_replyTo_32 rfl (lv_at hl 0 rfl) ?_
            refine lv_iload_n hx hb dX11_replyTo_33 rfl (lv_at hl 1 rfl) ?_
            refine lv_iload hx hb dX11_replyTo_34 (lv_at hl 4 rfl) ?_
            refine ro_calli (va_runV (As := [.int p0, .int x5_4]) (rest := []) ⟨hx, hb, hml, hown, hts⟩ (a_X11_wonBy l G ct a0 n0_0 a1 a2 a3 a4 a5 n0_6 n0_7 n0_8 n0_9 n0_10 l0_11 n0_12 n0_13 n0_14 n0_15 a6 a7 a8 a9 a10 a11 a12 a13 n0_24 n0_25 n0_26 n0_27 a14 n0_29 n0_30 f8 p0 x5_4 hp_n0_6 hp_f8 hp_p0 h_2) (cwV 2 hts gX11_replyTo_X11_wonBy rfl rfl rfl (by decide +kernel) ⟨Nat.le_of_ble_eq_true rfl, Nat.le_of_ble_eq_true rfl⟩) (ro_preV 11 0 hK (hP.sub [0, 2] rfl) rfl rfl) rfl rfl hl.1 rfl (lv_room (Nat.le_of_ble_eq_true rfl)) dX11_replyTo_36 ⟨Nat.zero_le _, Nat.zero_le _⟩) hS hP (fun r36 H locs wr36 hP hS => ?_)
            refine lv_aload_n hx hb dX11_replyTo_39 rfl (lv_at hl 0 rfl) ?_
            refine lv_iload_n hx hb dX11_replyTo_40 rfl (lv_at hl 1 rfl) ?_
            refine lv_iload_n hx hb dX11_replyTo_41 rfl (lv_at hl 3 rfl) ?_
            refine ro_calli (va_runV (As := [.int p0, .int x5_3]) (rest := [.int r36]) ⟨hx, hb, hml, hown, hts⟩ (a_X11_wonBy l G ct a0 n0_0 a1 a2 a3 a4 a5 n0_6 n0_7 n0_8 n0_9 n0_10 l0_11 n0_12 n0_13 n0_14 n0_15 a6 a7 a8 a9 a10 a11 a12 a13 n0_24 n0_25 n0_26 n0_27 a14 n0_29 n0_30 f8 p0 x5_3 hp_n0_6 hp_f8 hp_p0 h_6) (cwV 2 hts gX11_replyTo_X11_wonBy rfl rfl rfl (by decide +kernel) ⟨Nat.le_of_ble_eq_true rfl, Nat.le_of_ble_eq_true rfl⟩) (ro_preV 11 0 hK (hP.sub [0, 2] rfl) rfl rfl) rfl rfl hl.1 rfl (lv_room (Nat.le_of_ble_eq_true rfl)) dX11_replyTo_42 ⟨Nat.zero_le _, Nat.zero_le _⟩) hS hP (fun r42 H locs wr42 hP hS => ?_)
            refine lv_icmp_ge (tgt := 51) hx hb dX11_replyTo_45 (by decide) (fun c45 => ?_) (fun c45 => ?_)
            · obtain ⟨z51, qz51⟩ : ∃ y : Int32, y = x5_4 + Int32.ofInt 1 := ⟨_, rfl⟩
              obtain ⟨hz51, ez51⟩ := inc_z (e := 1) (f := 8) h_2 qz51 (by decide)
              refine lv_iinc (v := z51) (lv' := [(4, .int z51), (0, .ref a0), (1, .int p0), (2, .int p1), (3, .int x5_3)]) hx hb dX11_replyTo_51 hl (k := 4) rfl (qz51.symm) (by decide) rfl (fun ls hl => ?_)
              refine lv_goto (tgt := 5) hx hb dX11_replyTo_54 (by decide) ?_
              exact ih5 x5_3 z51 _ _ ls (by have q := hn5; have := ez51; omega) (rg_w (c := (-1)) (d := 7) h_6 (by decide)) (rg_w (c := 0) (d := 8) hz51 (by decide)) (fun hq => absurd hq (rne h_6 (y := (-1)) (c := (-1)) (by decide) (by decide))) hP hS (lv_sub hl [1, 2, 3, 4, 0] rfl)
            · have h_7 : rg (-2147483648) 2147483646 r36 := r_lt_l_i (nle_i c45) (rg_t r36) (rg_t r42) (by decide)
              have h_8 : rg (-2147483647) 2147483647 r42 := r_lt_r_i (nle_i c45) (rg_t r36) (rg_t r42) (by decide)
              refine lv_iload hx hb dX11_replyTo_48 (lv_at hl 4 rfl) ?_
              refine lv_istore_n (lv' := [(3, .int x5_4), (0, .ref a0), (1, .int p0), (2, .int p1), (4, .int x5_4)]) hx hb dX11_replyTo_50 rfl hl (by decide) rfl (fun ls hl => ?_)
              obtain ⟨z51, qz51⟩ : ∃ y : Int32, y = x5_4 + Int32.ofInt 1 := ⟨_, rfl⟩
              obtain ⟨hz51, ez51⟩ := inc_z (e := 1) (f := 8) h_2 qz51 (by decide)
              refine lv_iinc (v := z51) (lv' := [(4, .int z51), (3, .int x5_4), (0, .ref a0), (1, .int p0), (2, .int p1)]) hx hb dX11_replyTo_51 hl (k := 4) rfl (qz51.symm) (by decide) rfl (fun ls hl => ?_)
              refine lv_goto (tgt := 5) hx hb dX11_replyTo_54 (by decide) ?_
              exact ih5 x5_4 z51 _ _ ls (by have q := hn5; have := ez51; omega) (rg_w (c := (-1)) (d := 7) h_2 (by decide)) (rg_w (c := 0) (d := 8) hz51 (by decide)) (fun hq => absurd hq (rne h_2 (y := -1) (c := -1) (by decide) (by decide))) hP hS (lv_sub hl [2, 3, 4, 1, 0] rfl)
  exact j5 4294967296 ((-1) : Int32) (0 : Int32) _ _ ls (ms_e (0 : Int32)) (rg_w (c := (-1)) (d := 7) (rgn (-1) (x := (-1)) (by decide)) (by decide)) (rg_w (c := 0) (d := 8) (rgn 0 (x := 0) (by decide)) (by decide)) (fun _ => hn_0) hP hS (lv_sub hl [2, 3, 4, 1, 0] rfl)

set_option maxHeartbeats 4000000 in
set_option maxRecDepth 100000 in
theorem a_X11_laidBy (l : Launch) (G : va_G) (ct : Nat → ClassId) (a0 : Nat) (n0_0 : Int32) (a1 : Nat) (a2 : Nat) (a3 : Nat) (a4 : Nat) (a5 : Nat) (n0_6 : Int32) (n0_7 : Int32) (n0_8 : Int32) (n0_9 : Int32) (n0_10 : Int32) (l0_11 : Int64) (n0_12 : Int32) (n0_13 : Int32) (n0_14 : Int32) (n0_15 : Int32) (a6 : Nat) (a7 : Nat) (a8 : Nat) (a9 : Nat) (a10 : Nat) (a11 : Nat) (a12 : Nat) (a13 : Nat) (n0_24 : Int32) (n0_25 : Int32) (n0_26 : Int32) (n0_27 : Int32) (a14 : Nat) (n0_29 : Int32) (n0_30 : Int32) (f7 : Nat → Int32) (f8 : Nat → Int32) (f11 : Nat → Int32) (p0 : Int32) (p1 : Int32) (hp_n0_6 : rg 0 900 n0_6) (hp_f7 : hsI f7) (hp_f8 : psI f8) (hp_f11 : ar (-1) 7 f11) (hp_p0 : rg 0 7 p0) (hp_p1 : rg 0 7 p1) (hh : hold f7 f11 p0) (hh2 : hold f7 f11 p1) : Met l yX11_laidBy wsX11_laidBy ({ frames := 3, cells := 0, slots := 0, locals := 68 }) (va_Pc [.ref a0, .int p0, .int p1] (roP G ct [(a0, .inr (11, [.int n0_0, .ref a1, .ref a2, .ref a3, .ref a4, .ref a5, .int n0_6, .int n0_7, .int n0_8, .int n0_9, .int n0_10, .long l0_11, .int n0_12, .int n0_13, .int n0_14, .int n0_15, .ref a6, .ref a7, .ref a8, .ref a9, .ref a10, .ref a11, .ref a12, .ref a13, .int n0_24, .int n0_25, .int n0_26, .int n0_27, .ref a14, .int n0_29, .int n0_30])), (a7, .inl (ct 0, 15, .inl f7)), (a8, .inl (ct 0, 200, .inl f8)), (a11, .inl (ct 0, 8, .inl f11))])) (roQ (fun r => rg 0 7 r ∧ True)) 0 0 no := by
  refine Met.ofW (cc := cX11_laidBy) (maxL := 5) (ret := (some .int)) (by decide) rfl ?_
  intro p e s m args below meth c s₁ B hml hv
  obtain ⟨rfl, hP, hK⟩ := hv
  have hx := B.exec
  have hb := B.bytes
  have hr := B.returns
  have hts := atoms_spec (ws := wsX11_laidBy) B.pre
  have hown : s.vm.findClass RX11 = some m.cls := findClass_of_methodNamed B.named
  have hlocks := B.notSynchronized
  have hS : va_S no s.heap s.heap [] := va_S.rf
  have hl := lv_entry ([.ref a0, .int p0, .int p1]) (n := 5) (Nat.le_of_ble_eq_true rfl)
  rw [lg_entry_eq]
  generalize (lg_sl ([.ref a0, .int p0, .int p1]) ++ List.replicate (5 - (lg_sl ([.ref a0, .int p0, .int p1])).length) Slot.unset).toArray = ls at hl ⊢
  have hl : lv_has ls 5 [(0, .ref a0), (1, .int p0), (2, .int p1)] := hl
  refine lv_iconst (v := (-1)) hx hb dX11_laidBy_0 (by decide) ?_
  refine lv_istore_n (lv' := [(3, .int (-1)), (0, .ref a0), (1, .int p0), (2, .int p1)]) hx hb dX11_laidBy_1 rfl hl (by decide) rfl (fun ls hl => ?_)
  refine lv_iconst (v := 0) hx hb dX11_laidBy_2 (by decide) ?_
  refine lv_istore (lv' := [(4, .int 0), (3, .int (-1)), (0, .ref a0), (1, .int p0), (2, .int p1)]) hx hb dX11_laidBy_3 hl (by decide) rfl (fun ls hl => ?_)
  have j5 : ∀ (n : Nat) (x5_3 : Int32) (x5_4 : Int32) (H : Heap) (locs : List Loc) (ls : Array Slot), 2147483648 ≤ x5_4.toInt + (n : Int) → rg (-1) 7 x5_3 → rg 0 8 x5_4 → (x5_3 = -1 → hn f11 p0 (x5_4).toInt) → va_P G vwCl [(a0, .inr (11, [.int n0_0, .ref a1, .ref a2, .ref a3, .ref a4, .ref a5, .int n0_6, .int n0_7, .int n0_8, .int n0_9, .int n0_10, .long l0_11, .int n0_12, .int n0_13, .int n0_14, .int n0_15, .ref a6, .ref a7, .ref a8, .ref a9, .ref a10, .ref a11, .ref a12, .ref a13, .int n0_24, .int n0_25, .int n0_26, .int n0_27, .ref a14, .int n0_29, .int n0_30])), (a7, .inl (ct 0, 15, .inl f7)), (a8, .inl (ct 0, 200, .inl f8)), (a11, .inl (ct 0, 8, .inl f11))] H → va_S no s.heap H locs → lv_has ls 5 [(0, .ref a0), (1, .int p0), (2, .int p1), (3, .int x5_3), (4, .int x5_4)] → W p l e (headSpec wsX11_laidBy ({ frames := 3, cells := 0, slots := 0, locals := 68 })).room s m ([.ref a0, .int p0, .int p1] : List Value).toArray below meth c H locs 0 0 (MQ below (roQ (fun r => rg 0 7 r ∧ True)) ([.ref a0, .int p0, .int p1] : List Value).toArray s 0 0 no) (F0 m 5 ls []) := by
    intro n
    induction n with
    | zero => intro x5_3 x5_4 H locs ls hn5 hx5_3 hx5_4 hq5 hP hS hl; exact absurd hn5 (by have := Int32.toInt_lt x5_4; have := Int32.le_toInt x5_4; omega)
    | succ n ih5 =>
      intro x5_3 x5_4 H locs ls hn5 hx5_3 hx5_4 hq5 hP hS hl
      refine lv_iload hx hb dX11_laidBy_5 (lv_at hl 4 rfl) ?_
      refine lv_aload_n hx hb dX11_laidBy_7 rfl (lv_at hl 0 rfl) ?_
      refine va_get (D := G) (ci := 11) (v := .ref a7) (C := RX11) (T := TX11) (N := 31) hx hb hts (by decide +kernel) hown hK.1 hP 0 rfl rfl 17 (by decide) (hts (.fieldLink RX11 34 "CardHolderModel" "has" "[I") (by decide +kernel)) (fun _ h9 => h9) rfl dX11_laidBy_8 ?_
      refine lv_iconst (v := 1) hx hb dX11_laidBy_11 (by decide) ?_
      refine va_iald hx hb hK.1 hP 1 0 rfl rfl (in_lit (by decide)) dX11_laidBy_12 ?_
      refine lv_topi (fun z12 gz12 => ?_)
      have hz12 : rg 0 8 z12 := by rw [gz12]; exact (hp_f7.1 0)
      refine lv_icmp_ge (tgt := 68) hx hb dX11_laidBy_13 (by decide) (fun c13 => ?_) (fun c13 => ?_)
      · have h_1 : rg 0 7 x5_3 := hn_e hq5 hx5_3 gz12 c13 hh
        refine lv_iload_n hx hb dX11_laidBy_68 rfl (lv_at hl 3 rfl) ?_
        exact W.iret (v := x5_3) hx hb hr (fun t ht hW => ⟨⟨x5_3, (), rfl, ⟨h_1, trivial⟩, trivial⟩, hS.F ht⟩) hS.2.2 dX11_laidBy_69
      · have h_2 : rg 0 7 x5_4 := r_lt_l_i (nle_i c13) hx5_4 hz12 (by decide)
        have h_3 : rg 1 8 z12 := r_lt_r_i (nle_i c13) hx5_4 hz12 (by decide)
        refine lv_aload_n hx hb dX11_laidBy_16 rfl (lv_at hl 0 rfl) ?_
        refine va_get (D := G) (ci := 11) (v := .ref a11) (C := RX11) (T := TX11) (N := 31) hx hb hts (by decide +kernel) hown hK.1 hP 0 rfl rfl 21 (by decide) (hts (.fieldLink RX11 47 "CardHolderModel" "holder" "[I") (by decide +kernel)) (fun _ h9 => h9) rfl dX11_laidBy_17 ?_
        refine lv_iload hx hb dX11_laidBy_20 (lv_at hl 4 rfl) ?_
        refine va_iald hx hb hK.1 hP 3 0 rfl rfl (in_rg h_2 (by decide)) dX11_laidBy_22 ?_
        refine lv_topi (fun z22 gz22 => ?_)
        have hz22 : rg (-1) 7 z22 := by rw [gz22]; exact hp_f11 _
        refine lv_iload_n hx hb dX11_laidBy_23 rfl (lv_at hl 1 rfl) ?_
        refine lv_icmp_ne (tgt := 62) hx hb dX11_laidBy_24 (by decide) (fun c24 => ?_) (fun c24 => ?_)
        · obtain ⟨z62, qz62⟩ : ∃ y : Int32, y = x5_4 + Int32.ofInt 1 := ⟨_, rfl⟩
          obtain ⟨hz62, ez62⟩ := inc_z (e := 1) (f := 8) h_2 qz62 (by decide)
          refine lv_iinc (v := z62) (lv' := [(4, .int z62), (0, .ref a0), (1, .int p0), (2, .int p1), (3, .int x5_3)]) hx hb dX11_laidBy_62 hl (k := 4) rfl (qz62.symm) (by decide) rfl (fun ls hl => ?_)
          refine lv_goto (tgt := 5) hx hb dX11_laidBy_65 (by decide) ?_
          exact ih5 x5_3 z62 _ _ ls (by have q := hn5; have := ez62; omega) hx5_3 (rg_w (c := 0) (d := 8) hz62 (by decide)) (fun hq => hn_s (hq5 hq) gz22 c24 ez62) hP hS (lv_sub hl [1, 2, 3, 4, 0] rfl)
        · have h_4 : rg 0 7 z22 := r_eq_l_i (e := 0) (f := 7) c24 hz22 hp_p0 (by decide)
          refine lv_iload_n hx hb dX11_laidBy_27 rfl (lv_at hl 3 rfl) ?_
          refine lv_iconst (v := (-1)) hx hb dX11_laidBy_28 (by decide) ?_
          refine lv_icmp_eq (tgt := 59) hx hb dX11_laidBy_29 (by decide) (fun c29 => ?_) (fun c29 => ?_)
          · have h_5 : rg (-1) (-1) x5_3 := r_eq_l_i (e := (-1)) (f := (-1)) c29 hx5_3 (rgn (-1) (x := (-1)) (by decide)) (by decide)
            refine lv_iload hx hb dX11_laidBy_59 (lv_at hl 4 rfl) ?_
            refine lv_istore_n (lv' := [(3, .int x5_4), (0, .ref a0), (1, .int p0), (2, .int p1), (4, .int x5_4)]) hx hb dX11_laidBy_61 rfl hl (by decide) rfl (fun ls hl => ?_)
            obtain ⟨z62, qz62⟩ : ∃ y : Int32, y = x5_4 + Int32.ofInt 1 := ⟨_, rfl⟩
            obtain ⟨hz62, ez62⟩ := inc_z (e := 1) (f := 8) h_2 qz62 (by decide)
            refine lv_iinc (v := z62) (lv' := [(4, .int z62), (3, .int x5_4), (0, .ref a0), (1, .int p0), (2, .int p1)]) hx hb dX11_laidBy_62 hl (k := 4) rfl (qz62.symm) (by decide) rfl (fun ls hl => ?_)
            refine lv_goto (tgt := 5) hx hb dX11_laidBy_65 (by decide) ?_
            exact ih5 x5_4 z62 _ _ ls (by have q := hn5; have := ez62; omega) (rg_w (c := (-1)) (d := 7) h_2 (by decide)) (rg_w (c := 0) (d := 8) hz62 (by decide)) (fun hq => absurd hq (rne h_2 (y := -1) (c := -1) (by decide) (by decide))) hP hS (lv_sub hl [2, 3, 4, 1, 0] rfl)
          · have h_6 : rg 0 7 x5_3 := r_ne_lo_i c29 hx5_3 (by decide) (by decide)
            refine lv_aload_n hx hb dX11_laidBy_32 rfl (lv_at hl 0 rfl) ?_
            refine lv_iload hx hb dX11_laidBy_33 (lv_at hl 4 rfl) ?_
            refine lv_aload_n hx hb dX11_laidBy_35 rfl (lv_at hl 0 rfl) ?_
            refine lv_iload hx hb dX11_laidBy_36 (lv_at hl 4 rfl) ?_
            refine lv_iload_n hx hb dX11_laidBy_38 rfl (lv_at hl 2 rfl) ?_
            refine ro_calli (va_runV (As := [.int x5_4, .int p1]) (rest := [.int x5_4, .ref a0]) ⟨hx, hb, hml, hown, hts⟩ (a_X11_replyTo l G ct a0 n0_0 a1 a2 a3 a4 a5 n0_6 n0_7 n0_8 n0_9 n0_10 l0_11 n0_12 n0_13 n0_14 n0_15 a6 a7 a8 a9 a10 a11 a12 a13 n0_24 n0_25 n0_26 n0_27 a14 n0_29 n0_30 f7 f8 f11 x5_4 p1 hp_n0_6 hp_f7 hp_f8 hp_f11 h_2 hp_p1 hh2) (cwV 2 hts gX11_laidBy_X11_replyTo rfl rfl rfl (by decide +kernel) ⟨Nat.le_of_ble_eq_true rfl, Nat.le_of_ble_eq_true rfl⟩) (ro_preV 11 0 hK (hP.sub [0, 1, 2, 3] rfl) rfl rfl) rfl rfl hl.1 rfl (lv_room (Nat.le_of_ble_eq_true rfl)) dX11_laidBy_39 ⟨Nat.zero_le _, Nat.zero_le _⟩) hS hP (fun r39 H locs wr39 hP hS => ?_)
            obtain ⟨p_7, -⟩ := wr39
            refine ro_calli (va_runV (As := [.int x5_4, .int r39]) (rest := []) ⟨hx, hb, hml, hown, hts⟩ (a_X11_wonBy l G ct a0 n0_0 a1 a2 a3 a4 a5 n0_6 n0_7 n0_8 n0_9 n0_10 l0_11 n0_12 n0_13 n0_14 n0_15 a6 a7 a8 a9 a10 a11 a12 a13 n0_24 n0_25 n0_26 n0_27 a14 n0_29 n0_30 f8 x5_4 r39 hp_n0_6 hp_f8 h_2 p_7) (cwV 2 hts gX11_laidBy_X11_wonBy rfl rfl rfl (by decide +kernel) ⟨Nat.le_of_ble_eq_true rfl, Nat.le_of_ble_eq_true rfl⟩) (ro_preV 11 0 hK (hP.sub [0, 2] rfl) rfl rfl) rfl rfl hl.1 rfl (lv_room (Nat.le_of_ble_eq_true rfl)) dX11_laidBy_42 ⟨Nat.zero_le _, Nat.zero_le _⟩) hS hP (fun r42 H locs wr42 hP hS => ?_)
            refine lv_aload_n hx hb dX11_laidBy_45 rfl (lv_at hl 0 rfl) ?_
            refine lv_iload_n hx hb dX11_laidBy_46 rfl (lv_at hl 3 rfl) ?_
            refine lv_aload_n hx hb dX11_laidBy_47 rfl (lv_at hl 0 rfl) ?_
            refine lv_iload_n hx hb dX11_laidBy_48 rfl (lv_at hl 3 rfl) ?_
            refine lv_iload_n hx hb dX11_laidBy_49 rfl (lv_at hl 2 rfl) ?_
            refine ro_calli (va_runV (As := [.int x5_3, .int p1]) (rest := [.int x5_3, .ref a0, .int r42]) ⟨hx, hb, hml, hown, hts⟩ (a_X11_replyTo l G ct a0 n0_0 a1 a2 a3 a4 a5 n0_6 n0_7 n0_8 n0_9 n0_10 l0_11 n0_12 n0_13 n0_14 n0_15 a6 a7 a8 a9 a10 a11 a12 a13 n0_24 n0_25 n0_26 n0_27 a14 n0_29 n0_30 f7 f8 f11 x5_3 p1 hp_n0_6 hp_f7 hp_f8 hp_f11 h_6 hp_p1 hh2) (cwV 2 hts gX11_laidBy_X11_replyTo rfl rfl rfl (by decide +kernel) ⟨Nat.le_of_ble_eq_true rfl, Nat.le_of_ble_eq_true rfl⟩) (ro_preV 11 0 hK (hP.sub [0, 1, 2, 3] rfl) rfl rfl) rfl rfl hl.1 rfl (lv_room (Nat.le_of_ble_eq_true rfl)) dX11_laidBy_50 ⟨Nat.zero_le _, Nat.zero_le _⟩) hS hP (fun r50 H locs wr50 hP hS => ?_)
            obtain ⟨p_8, -⟩ := wr50
            refine ro_calli (va_runV (As := [.int x5_3, .int r50]) (rest := [.int r42]) ⟨hx, hb, hml, hown, hts⟩ (a_X11_wonBy l G ct a0 n0_0 a1 a2 a3 a4 a5 n0_6 n0_7 n0_8 n0_9 n0_10 l0_11 n0_12 n0_13 n0_14 n0_15 a6 a7 a8 a9 a10 a11 a12 a13 n0_24 n0_25 n0_26 n0_27 a14 n0_29 n0_30 f8 x5_3 r50 hp_n0_6 hp_f8 h_6 p_8) (cwV 2 hts gX11_laidBy_X11_wonBy rfl rfl rfl (by decide +kernel) ⟨Nat.le_of_ble_eq_true rfl, Nat.le_of_ble_eq_true rfl⟩) (ro_preV 11 0 hK (hP.sub [0, 2] rfl) rfl rfl) rfl rfl hl.1 rfl (lv_room (Nat.le_of_ble_eq_true rfl)) dX11_laidBy_53 ⟨Nat.zero_le _, Nat.zero_le _⟩) hS hP (fun r53 H locs wr53 hP hS => ?_)
            refine lv_icmp_le (tgt := 62) hx hb dX11_laidBy_56 (by decide) (fun c56 => ?_) (fun c56 => ?_)
            · obtain ⟨z62, qz62⟩ : ∃ y : Int32, y = x5_4 + Int32.ofInt 1 := ⟨_, rfl⟩
              obtain ⟨hz62, ez62⟩ := inc_z (e := 1) (f := 8) h_2 qz62 (by decide)
              refine lv_iinc (v := z62) (lv' := [(4, .int z62), (0, .ref a0), (1, .int p0), (2, .int p1), (3, .int x5_3)]) hx hb dX11_laidBy_62 hl (k := 4) rfl (qz62.symm) (by decide) rfl (fun ls hl => ?_)
              refine lv_goto (tgt := 5) hx hb dX11_laidBy_65 (by decide) ?_
              exact ih5 x5_3 z62 _ _ ls (by have q := hn5; have := ez62; omega) (rg_w (c := (-1)) (d := 7) h_6 (by decide)) (rg_w (c := 0) (d := 8) hz62 (by decide)) (fun hq => absurd hq (rne h_6 (y := (-1)) (c := (-1)) (by decide) (by decide))) hP hS (lv_sub hl [1, 2, 3, 4, 0] rfl)
            · have h_9 : rg (-2147483648) 2147483646 r53 := r_lt_l_i (nle_i c56) (rg_t r53) (rg_t r42) (by decide)
              have h_10 : rg (-2147483647) 2147483647 r42 := r_lt_r_i (nle_i c56) (rg_t r53) (rg_t r42) (by decide)
              refine lv_iload hx hb dX11_laidBy_59 (lv_at hl 4 rfl) ?_
              refine lv_istore_n (lv' := [(3, .int x5_4), (0, .ref a0), (1, .int p0), (2, .int p1), (4, .int x5_4)]) hx hb dX11_laidBy_61 rfl hl (by decide) rfl (fun ls hl => ?_)
              obtain ⟨z62, qz62⟩ : ∃ y : Int32, y = x5_4 + Int32.ofInt 1 := ⟨_, rfl⟩
              obtain ⟨hz62, ez62⟩ := inc_z (e := 1) (f := 8) h_2 qz62 (by decide)
              refine lv_iinc (v := z62) (lv' := [(4, .int z62), (3, .int x5_4), (0, .ref a0), (1, .int p0), (2, .int p1)]) hx hb dX11_laidBy_62 hl (k := 4) rfl (qz62.symm) (by decide) rfl (fun ls hl => ?_)
              refine lv_goto (tgt := 5) hx hb dX11_laidBy_65 (by decide) ?_
              exact ih5 x5_4 z62 _ _ ls (by have q := hn5; have := ez62; omega) (rg_w (c := (-1)) (d := 7) h_2 (by decide)) (rg_w (c := 0) (d := 8) hz62 (by decide)) (fun hq => absurd hq (rne h_2 (y := -1) (c := -1) (by decide) (by decide))) hP hS (lv_sub hl [2, 3, 4, 1, 0] rfl)
  exact j5 4294967296 ((-1) : Int32) (0 : Int32) _ _ ls (ms_e (0 : Int32)) (rg_w (c := (-1)) (d := 7) (rgn (-1) (x := (-1)) (by decide)) (by decide)) (rg_w (c := 0) (d := 8) (rgn 0 (x := 0) (by decide)) (by decide)) (fun _ => hn_0) hP hS (lv_sub hl [2, 3, 4, 1, 0] rfl)

set_option maxHeartbeats 4000000 in
set_option maxRecDepth 100000 in
theorem a_X11_lay (l : Launch) (G : va_G) (ct : Nat → ClassId) (a0 : Nat) (n0_0 : Int32) (a1 : Nat) (a2 : Nat) (a3 : Nat) (a4 : Nat) (a5 : Nat) (n0_6 : Int32) (n0_7 : Int32) (n0_8 : Int32) (n0_9 : Int32) (n0_10 : Int32) (l0_11 : Int64) (n0_12 : Int32) (n0_13 : Int32) (n0_14 : Int32) (n0_15 : Int32) (a6 : Nat) (a7 : Nat) (a8 : Nat) (a9 : Nat) (a10 : Nat) (a11 : Nat) (a12 : Nat) (a13 : Nat) (n0_24 : Int32) (n0_25 : Int32) (n0_26 : Int32) (n0_27 : Int32) (a14 : Nat) (n0_29 : Int32) (n0_30 : Int32) (f7 : Nat → Int32) (f8 : Nat → Int32) (f9 : Nat → Int32) (f11 : Nat → Int32) (f12 : Nat → Int32) (f13 : Nat → Int32) (p0 : Int32) (p1 : Int32) (hp_n0_6 : rg 0 900 n0_6) (hp_f7 : hsI f7) (hp_f8 : psI f8) (hp_f9 : ar 0 7 f9) (hp_f11 : ar (-1) 7 f11) (hp_f13 : ar (-1) 7 f13) : Met l yX11_lay wsX11_lay ({ frames := 6, cells := 0, slots := 0, locals := 133 }) (va_Pc [.ref a0, .int p0, .int p1] (wrP G ct [(a0, .inr (11, [.int n0_0, .ref a1, .ref a2, .ref a3, .ref a4, .ref a5, .int n0_6, .int n0_7, .int n0_8, .int n0_9, .int n0_10, .long l0_11, .int n0_12, .int n0_13, .int n0_14, .int n0_15, .ref a6, .ref a7, .ref a8, .ref a9, .ref a10, .ref a11, .ref a12, .ref a13, .int n0_24, .int n0_25, .int n0_26, .int n0_27, .ref a14, .int n0_29, .int n0_30])), (a7, .inl (ct 0, 15, .inl f7)), (a8, .inl (ct 0, 200, .inl f8)), (a9, .inl (ct 0, 1000, .inl f9)), (a11, .inl (ct 0, 8, .inl f11)), (a12, .inl (ct 0, 8, .inl f12)), (a13, .inl (ct 0, 8, .inl f13))])) (va_Qi (fun (r : Int32) (u : SU) => (r = 0 → rg 0 7 p0) ∧ (r = (-1) → rg 0 7 p0) ∧ (r = 0 → rg 0 7 p1) ∧ (r = (-1) → rg 0 7 p1) ∧ ar (-1) 7 (u.2.1 0) ∧ ar (-1) 7 (u.2.1 2) ∧ rg 0 0 (u.1 0) ∧ True) (fun u t => va_P G vwCl ((fun u : SU => [(a0, .inr (11, [.int (u.1 0), .ref a1, .ref a2, .ref a3, .ref a4, .ref a5, .int n0_6, .int n0_7, .int n0_8, .int n0_9, .int n0_10, .long l0_11, .int n0_12, .int n0_13, .int n0_14, .int n0_15, .ref a6, .ref a7, .ref a8, .ref a9, .ref a10, .ref a11, .ref a12, .ref a13, .int (u.1 1), .int (u.1 2), .int (u.1 3), .int (u.1 4), .ref a14, .int n0_29, .int n0_30])), (a7, .inl (ct 0, 15, .inl f7)), (a8, .inl (ct 0, 200, .inl f8)), (a9, .inl (ct 0, 1000, .inl f9)), (a11, .inl (ct 0, 8, .inl (u.2.1 0))), (a12, .inl (ct 0, 8, .inl (u.2.1 1))), (a13, .inl (ct 0, 8, .inl (u.2.1 2)))]) u) t.heap) (aset [(a0, .inr (11, [.int n0_0, .ref a1, .ref a2, .ref a3, .ref a4, .ref a5, .int n0_6, .int n0_7, .int n0_8, .int n0_9, .int n0_10, .long l0_11, .int n0_12, .int n0_13, .int n0_14, .int n0_15, .ref a6, .ref a7, .ref a8, .ref a9, .ref a10, .ref a11, .ref a12, .ref a13, .int n0_24, .int n0_25, .int n0_26, .int n0_27, .ref a14, .int n0_29, .int n0_30])), (a7, .inl (ct 0, 15, .inl f7)), (a8, .inl (ct 0, 200, .inl f8)), (a9, .inl (ct 0, 1000, .inl f9)), (a11, .inl (ct 0, 8, .inl f11)), (a12, .inl (ct 0, 8, .inl f12)), (a13, .inl (ct 0, 8, .inl f13))])) 0 0 (aset [(a0, .inr (11, [.int n0_0, .ref a1, .ref a2, .ref a3, .ref a4, .ref a5, .int n0_6, .int n0_7, .int n0_8, .int n0_9, .int n0_10, .long l0_11, .int n0_12, .int n0_13, .int n0_14, .int n0_15, .ref a6, .ref a7, .ref a8, .ref a9, .ref a10, .ref a11, .ref a12, .ref a13, .int n0_24, .int n0_25, .int n0_26, .int n0_27, .ref a14, .int n0_29, .int n0_30])), (a7, .inl (ct 0, 15, .inl f7)), (a8, .inl (ct 0, 200, .inl f8)), (a9, .inl (ct 0, 1000, .inl f9)), (a11, .inl (ct 0, 8, .inl f11)), (a12, .inl (ct 0, 8, .inl f12)), (a13, .inl (ct 0, 8, .inl f13))]) := by
  refine Met.ofW (cc := cX11_lay) (maxL := 4) (ret := (some .int)) (by decide) rfl ?_
  intro p e s m args below meth c s₁ B hml hv
  obtain ⟨rfl, hP, hK, hD0⟩ := hv
  have hx := B.exec
  have hb := B.bytes
  have hr := B.returns
  have hts := atoms_spec (ws := wsX11_lay) B.pre
  have hown : s.vm.findClass RX11 = some m.cls := findClass_of_methodNamed B.named
  have hlocks := B.notSynchronized
  have hD := hD0.aself
  generalize hAe : aset [(a0, .inr (11, [.int n0_0, .ref a1, .ref a2, .ref a3, .ref a4, .ref a5, .int n0_6, .int n0_7, .int n0_8, .int n0_9, .int n0_10, .long l0_11, .int n0_12, .int n0_13, .int n0_14, .int n0_15, .ref a6, .ref a7, .ref a8, .ref a9, .ref a10, .ref a11, .ref a12, .ref a13, .int n0_24, .int n0_25, .int n0_26, .int n0_27, .ref a14, .int n0_29, .int n0_30])), (a7, .inl (ct 0, 15, .inl f7)), (a8, .inl (ct 0, 200, .inl f8)), (a9, .inl (ct 0, 1000, .inl f9)), (a11, .inl (ct 0, 8, .inl f11)), (a12, .inl (ct 0, 8, .inl f12)), (a13, .inl (ct 0, 8, .inl f13))] = A at hD ⊢
  have hS : va_S A s.heap s.heap [] := va_S.rf
  have hl := lv_entry ([.ref a0, .int p0, .int p1]) (n := 4) (Nat.le_of_ble_eq_true rfl)
  rw [lg_entry_eq]
  generalize (lg_sl ([.ref a0, .int p0, .int p1]) ++ List.replicate (4 - (lg_sl ([.ref a0, .int p0, .int p1])).length) Slot.unset).toArray = ls at hl ⊢
  have hl : lv_has ls 4 [(0, .ref a0), (1, .int p0), (2, .int p1)] := hl
  refine lv_aload_n hx hb dX11_lay_0 rfl (lv_at hl 0 rfl) ?_
  refine lv_iconst (v := 0) hx hb dX11_lay_1 (by decide) ?_
  refine va_put (D := G) (ci := 11) (v := .int 0) (ty := .int) (C := RX11) (T := TX11) (N := 31) hx hb hts (by decide +kernel) tyX11 tyX11_ok nmX11 hown hK.1 hP hD hS 0 rfl rfl 0 (by decide) (hts (.fieldLink RX11 59 "CardHolderModel" "thrown" "I") (by decide +kernel)) (fun _ h9 => h9) rfl (by decide +kernel) rfl rfl (Nat.le_of_ble_eq_true rfl) dX11_lay_2 (fun H locs hP hD hS => ?_)
  refine lv_aload_n hx hb dX11_lay_5 rfl (lv_at hl 0 rfl) ?_
  refine lv_iload_n hx hb dX11_lay_6 rfl (lv_at hl 1 rfl) ?_
  refine lv_iload_n hx hb dX11_lay_7 rfl (lv_at hl 2 rfl) ?_
  refine wj_calli (wr := []) (w1 := (fun u : SU => [(a0, .inr (11, [.int 0, .ref a1, .ref a2, .ref a3, .ref a4, .ref a5, .int n0_6, .int n0_7, .int n0_8, .int n0_9, .int n0_10, .long l0_11, .int n0_12, .int n0_13, .int n0_14, .int n0_15, .ref a6, .ref a7, .ref a8, .ref a9, .ref a10, .ref a11, .ref a12, .ref a13, .int (u.1 0), .int (u.1 1), .int (u.1 2), .int (u.1 3), .ref a14, .int n0_29, .int n0_30])), (a7, .inl (ct 0, 15, .inl f7)), (a8, .inl (ct 0, 200, .inl f8)), (a9, .inl (ct 0, 1000, .inl f9)), (a11, .inl (ct 0, 8, .inl (u.2.1 0))), (a12, .inl (ct 0, 8, .inl (u.2.1 1))), (a13, .inl (ct 0, 8, .inl (u.2.1 2)))])) (va_runV (As := [.int p0, .int p1]) (rest := []) ⟨hx, hb, hml, hown, hts⟩ (a_X11_isDuel l G ct a0 (0 : Int32) a1 a2 a3 a4 a5 n0_6 n0_7 n0_8 n0_9 n0_10 l0_11 n0_12 n0_13 n0_14 n0_15 a6 a7 a8 a9 a10 a11 a12 a13 n0_24 n0_25 n0_26 n0_27 a14 n0_29 n0_30 f7 f8 f9 f11 f12 f13 p0 p1 hp_n0_6 hp_f7 hp_f8 hp_f9 hp_f11 hp_f13) (cwV 2 hts gX11_lay_X11_isDuel rfl rfl rfl (by decide +kernel) ⟨Nat.le_of_ble_eq_true rfl, Nat.le_of_ble_eq_true rfl⟩) (wr_preV 11 0 hK (hP.sub [0, 1, 2, 3, 4, 5, 6] rfl) (hD.sub [0, 1, 2, 3, 4, 5, 6] (by decide) rfl) rfl rfl) rfl rfl hl.1 rfl (lv_room (Nat.le_of_ble_eq_true rfl)) dX11_lay_8 ⟨Nat.zero_le _, Nat.zero_le _⟩) hS hP hD [0, 1, 2, 3, 4, 5, 6] [] rfl rfl (by decide) (fun _ => rfl) (fun r8 ur8 H locs wr8 hP hD hS => ?_)
  have hP : va_P G vwCl [(a0, .inr (11, [.int 0, .ref a1, .ref a2, .ref a3, .ref a4, .ref a5, .int n0_6, .int n0_7, .int n0_8, .int n0_9, .int n0_10, .long l0_11, .int n0_12, .int n0_13, .int n0_14, .int n0_15, .ref a6, .ref a7, .ref a8, .ref a9, .ref a10, .ref a11, .ref a12, .ref a13, .int (ur8.1 0), .int (ur8.1 1), .int (ur8.1 2), .int (ur8.1 3), .ref a14, .int n0_29, .int n0_30])), (a7, .inl (ct 0, 15, .inl f7)), (a8, .inl (ct 0, 200, .inl f8)), (a9, .inl (ct 0, 1000, .inl f9)), (a11, .inl (ct 0, 8, .inl (ur8.2.1 0))), (a12, .inl (ct 0, 8, .inl (ur8.2.1 1))), (a13, .inl (ct 0, 8, .inl (ur8.2.1 2)))] H := hP.sub [0, 1, 2, 3, 4, 5, 6] rfl
  have hD : va_D A [(a0, .inr (11, [.int 0, .ref a1, .ref a2, .ref a3, .ref a4, .ref a5, .int n0_6, .int n0_7, .int n0_8, .int n0_9, .int n0_10, .long l0_11, .int n0_12, .int n0_13, .int n0_14, .int n0_15, .ref a6, .ref a7, .ref a8, .ref a9, .ref a10, .ref a11, .ref a12, .ref a13, .int (ur8.1 0), .int (ur8.1 1), .int (ur8.1 2), .int (ur8.1 3), .ref a14, .int n0_29, .int n0_30])), (a7, .inl (ct 0, 15, .inl f7)), (a8, .inl (ct 0, 200, .inl f8)), (a9, .inl (ct 0, 1000, .inl f9)), (a11, .inl (ct 0, 8, .inl (ur8.2.1 0))), (a12, .inl (ct 0, 8, .inl (ur8.2.1 1))), (a13, .inl (ct 0, 8, .inl (ur8.2.1 2)))] := hD.sub [0, 1, 2, 3, 4, 5, 6] (by decide) rfl
  obtain ⟨p_1, p_2, p_3, p_4, p_5, p_6, p_7, -⟩ := wr8
  refine lv_if_ne (tgt := 18) hx hb dX11_lay_11 (by decide) (fun c11 => ?_) (fun c11 => ?_)
  · have h_8 : rg 1 1 r8 := r_ne_lo_i c11 p_1 (by decide) (by decide)
    have h_9 : rg 0 7 p0 := (p_2 (rne h_8 (y := 0) (c := 0) (by decide) (by decide)))
    have h_10 : rg 0 7 p1 := (p_3 (rne h_8 (y := 0) (c := 0) (by decide) (by decide)))
    refine lv_aload_n hx hb dX11_lay_18 rfl (lv_at hl 0 rfl) ?_
    refine lv_iload_n hx hb dX11_lay_19 rfl (lv_at hl 1 rfl) ?_
    refine lv_iload_n hx hb dX11_lay_20 rfl (lv_at hl 2 rfl) ?_
    refine ro_calli (va_runV (As := [.int p0, .int p1]) (rest := []) ⟨hx, hb, hml, hown, hts⟩ (a_X11_laidBy l G ct a0 (0 : Int32) a1 a2 a3 a4 a5 n0_6 n0_7 n0_8 n0_9 n0_10 l0_11 n0_12 n0_13 n0_14 n0_15 a6 a7 a8 a9 a10 a11 a12 a13 (ur8.1 0) (ur8.1 1) (ur8.1 2) (ur8.1 3) a14 n0_29 n0_30 f7 f8 (ur8.2.1 0) p0 p1 hp_n0_6 hp_f7 hp_f8 p_4 h_9 h_10 (p_6 (rne h_8 (y := 0) (c := 0) (by decide) (by decide))) (p_7 (rne h_8 (y := 0) (c := 0) (by decide) (by decide)))) (cwV 2 hts gX11_lay_X11_laidBy rfl rfl rfl (by decide +kernel) ⟨Nat.le_of_ble_eq_true rfl, Nat.le_of_ble_eq_true rfl⟩) (ro_preV 11 0 hK (hP.sub [0, 1, 2, 4] rfl) rfl rfl) rfl rfl hl.1 rfl (lv_room (Nat.le_of_ble_eq_true rfl)) dX11_lay_21 ⟨Nat.zero_le _, Nat.zero_le _⟩) hS hP (fun r21 H locs wr21 hP hS => ?_)
    obtain ⟨p_11, -⟩ := wr21
    refine lv_istore_n (lv' := [(3, .int r21), (0, .ref a0), (1, .int p0), (2, .int p1)]) hx hb dX11_lay_24 rfl hl (by decide) rfl (fun ls hl => ?_)
    refine lv_aload_n hx hb dX11_lay_25 rfl (lv_at hl 1 rfl) ?_
    refine lv_iload_n hx hb dX11_lay_26 rfl (lv_at hl 0 rfl) ?_
    refine lv_aload_n hx hb dX11_lay_27 rfl (lv_at hl 1 rfl) ?_
    refine lv_iload_n hx hb dX11_lay_28 rfl (lv_at hl 0 rfl) ?_
    refine lv_iload_n hx hb dX11_lay_29 rfl (lv_at hl 3 rfl) ?_
    refine ro_calli (va_runV (As := [.int r21, .int p1]) (rest := [.int r21, .ref a0]) ⟨hx, hb, hml, hown, hts⟩ (a_X11_replyTo l G ct a0 (0 : Int32) a1 a2 a3 a4 a5 n0_6 n0_7 n0_8 n0_9 n0_10 l0_11 n0_12 n0_13 n0_14 n0_15 a6 a7 a8 a9 a10 a11 a12 a13 (ur8.1 0) (ur8.1 1) (ur8.1 2) (ur8.1 3) a14 n0_29 n0_30 f7 f8 (ur8.2.1 0) r21 p1 hp_n0_6 hp_f7 hp_f8 p_4 p_11 h_10 (p_7 (rne h_8 (y := 0) (c := 0) (by decide) (by decide)))) (cwV 2 hts gX11_lay_X11_replyTo rfl rfl rfl (by decide +kernel) ⟨Nat.le_of_ble_eq_true rfl, Nat.le_of_ble_eq_true rfl⟩) (ro_preV 11 0 hK (hP.sub [0, 1, 2, 4] rfl) rfl rfl) rfl rfl hl.1 rfl (lv_room (Nat.le_of_ble_eq_true rfl)) dX11_lay_30 ⟨Nat.zero_le _, Nat.zero_le _⟩) hS hP (fun r30 H locs wr30 hP hS => ?_)
    obtain ⟨p_12, -⟩ := wr30
    refine ro_calli (va_runV (As := [.int r21, .int r30]) (rest := []) ⟨hx, hb, hml, hown, hts⟩ (a_X11_wonBy l G ct a0 (0 : Int32) a1 a2 a3 a4 a5 n0_6 n0_7 n0_8 n0_9 n0_10 l0_11 n0_12 n0_13 n0_14 n0_15 a6 a7 a8 a9 a10 a11 a12 a13 (ur8.1 0) (ur8.1 1) (ur8.1 2) (ur8.1 3) a14 n0_29 n0_30 f8 r21 r30 hp_n0_6 hp_f8 p_11 p_12) (cwV 2 hts gX11_lay_X11_wonBy rfl rfl rfl (by decide +kernel) ⟨Nat.le_of_ble_eq_true rfl, Nat.le_of_ble_eq_true rfl⟩) (ro_preV 11 0 hK (hP.sub [0, 2] rfl) rfl rfl) rfl rfl hl.1 rfl (lv_room (Nat.le_of_ble_eq_true rfl)) dX11_lay_33 ⟨Nat.zero_le _, Nat.zero_le _⟩) hS hP (fun r33 H locs wr33 hP hS => ?_)
    exact W.iret (v := r33) hx hb hr (fun t ht hW => ⟨⟨r33, (fun k => ([0, ur8.1 0, ur8.1 1, ur8.1 2, ur8.1 3] : List Int32).getD k 0, fun k => ([ur8.2.1 0, ur8.2.1 1, ur8.2.1 2] : List (Nat → Int32)).getD k (fun _ => 0), fun k => ([] : List (Nat → Int64)).getD k (fun _ => 0)), rfl, ⟨(fun _ => h_9), (fun _ => h_9), (fun _ => h_10), (fun _ => h_10), p_4, p_5, (rgn 0 (x := 0) (by decide)), trivial⟩, hp_at ht hP⟩, hS.F ht⟩) hS.2.2 dX11_lay_36
  · have h_13 : rg 0 0 r8 := r_eq_l_i (e := 0) (f := 0) c11 p_1 (rgn 0 (x := 0) (by decide)) (by decide)
    refine lv_sipush (v := (-1000)) hx hb dX11_lay_14 (by decide) ?_
    exact W.iret (v := (-1000)) hx hb hr (fun t ht hW => ⟨⟨(-1000), (fun k => ([0, ur8.1 0, ur8.1 1, ur8.1 2, ur8.1 3] : List Int32).getD k 0, fun k => ([ur8.2.1 0, ur8.2.1 1, ur8.2.1 2] : List (Nat → Int32)).getD k (fun _ => 0), fun k => ([] : List (Nat → Int64)).getD k (fun _ => 0)), rfl, ⟨(fun hq => absurd hq (rne (rgn (-1000) (x := (-1000)) (by decide)) (y := 0) (c := 0) (by decide) (by decide))), (fun hq => absurd hq (rne (rgn (-1000) (x := (-1000)) (by decide)) (y := (-1)) (c := (-1)) (by decide) (by decide))), (fun hq => absurd hq (rne (rgn (-1000) (x := (-1000)) (by decide)) (y := 0) (c := 0) (by decide) (by decide))), (fun hq => absurd hq (rne (rgn (-1000) (x := (-1000)) (by decide)) (y := (-1)) (c := (-1)) (by decide) (by decide))), p_4, p_5, (rgn 0 (x := 0) (by decide)), trivial⟩, hp_at ht hP⟩, hS.F ht⟩) hS.2.2 dX11_lay_17
