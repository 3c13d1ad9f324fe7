theorem dX11_covet_0 : decode cX11_covet 0 = .ok (.aload_n 0, 1) := by decide +kernel
theorem dX11_covet_1 : decode cX11_covet 1 = .ok (.iconst 0, 1) := by decide +kernel
theorem dX11_covet_2 : decode cX11_covet 2 = .ok (.putfield 59, 3) := by decide +kernel
theorem dX11_covet_5 : decode cX11_covet 5 = .ok (.aload_n 0, 1) := by decide +kernel
theorem dX11_covet_6 : decode cX11_covet 6 = .ok (.iload_n 1, 1) := by decide +kernel
theorem dX11_covet_7 : decode cX11_covet 7 = .ok (.i2l, 1) := by decide +kernel
set_option maxRecDepth 20000 in
theorem ggX11_covet_X11_isPerson : GoodIn wsX11_covet wsX11_isPerson := goodIn_r _ [8, 2, 9, 10, 7, 11, 66, 67, 68, 69, 70, 71, 72, 73, 74, 75, 76, 77, 78, 79, 80, 81, 82, 83, 84, 85, 86, 87, 88, 89, 90, 91, 92, 93, 94, 95, 96] (by rfl) (by decide +kernel)
set_option maxRecDepth 20000 in
theorem gX11_covet_X11_isPerson : GoodIn wsX11_covet (wsV RX11 206 RX11 yX11_isPerson wsX11_isPerson) := goodIn_app (goodIn_r _ [4, 5, 6, 7] (by rfl) (by decide +kernel)) ggX11_covet_X11_isPerson
theorem dX11_covet_8 : decode cX11_covet 8 = .ok (.invokevirtual 206, 3) := by decide +kernel
theorem dX11_covet_11 : decode cX11_covet 11 = .ok (.ifCond .ne 6, 3) := by decide +kernel
theorem dX11_covet_17 : decode cX11_covet 17 = .ok (.aload_n 0, 1) := by decide +kernel
set_option maxRecDepth 20000 in
theorem ggX11_covet_X11_laysNow : GoodIn wsX11_covet wsX11_laysNow := goodIn_r _ [15, 2, 16, 17, 18, 19, 7, 20, 3, 21, 22, 23, 24, 25, 26, 27, 28, 29, 30, 31, 32, 33, 34, 35, 36, 37, 38, 39, 40, 41, 42, 43, 44, 45, 46, 47, 48, 49, 50, 66, 67, 68, 69, 70, 71, 72, 73, 74, 75, 76, 77, 78, 79, 80, 81, 82, 83, 84, 85, 86, 87, 88, 89, 90, 91, 92, 93, 94, 95, 96] (by rfl) (by decide +kernel)
set_option maxRecDepth 20000 in
theorem gX11_covet_X11_laysNow : GoodIn wsX11_covet (wsV RX11 251 RX11 yX11_laysNow wsX11_laysNow) := goodIn_app (goodIn_r _ [12, 13, 14, 7] (by rfl) (by decide +kernel)) ggX11_covet_X11_laysNow
theorem dX11_covet_18 : decode cX11_covet 18 = .ok (.invokevirtual 251, 3) := by decide +kernel
theorem dX11_covet_21 : decode cX11_covet 21 = .ok (.iconst (-1), 1) := by decide +kernel
theorem dX11_covet_22 : decode cX11_covet 22 = .ok (.istore_n 2, 1) := by decide +kernel
theorem dX11_covet_23 : decode cX11_covet 23 = .ok (.aload_n 0, 1) := by decide +kernel
theorem dX11_covet_24 : decode cX11_covet 24 = .ok (.iload_n 1, 1) := by decide +kernel
set_option maxRecDepth 20000 in
theorem ggX11_covet_X11_powerOf : GoodIn wsX11_covet wsX11_powerOf := goodIn_r _ [54, 55, 56, 57, 7, 58, 2, 3, 48, 49, 50, 59, 60, 61, 62, 27, 28, 29, 30, 31, 63, 64, 65, 66, 67, 68, 69, 70, 71, 72, 73, 74, 75, 76, 77, 78, 79, 80, 81, 82, 83, 84, 85, 86, 87, 88, 89, 90, 91, 92, 93, 94, 95, 96] (by rfl) (by decide +kernel)
set_option maxRecDepth 20000 in
theorem gX11_covet_X11_powerOf : GoodIn wsX11_covet (wsV RX11 379 RX11 yX11_powerOf wsX11_powerOf) := goodIn_app (goodIn_r _ [51, 52, 53, 7] (by rfl) (by decide +kernel)) ggX11_covet_X11_powerOf
theorem dX11_covet_25 : decode cX11_covet 25 = .ok (.invokevirtual 379, 3) := by decide +kernel
theorem dX11_covet_28 : decode cX11_covet 28 = .ok (.istore_n 3, 1) := by decide +kernel
theorem dX11_covet_29 : decode cX11_covet 29 = .ok (.iconst 0, 1) := by decide +kernel
theorem dX11_covet_30 : decode cX11_covet 30 = .ok (.istore 4, 2) := by decide +kernel
theorem dX11_covet_32 : decode cX11_covet 32 = .ok (.iload 4, 2) := by decide +kernel
theorem dX11_covet_34 : decode cX11_covet 34 = .ok (.aload_n 0, 1) := by decide +kernel
theorem dX11_covet_35 : decode cX11_covet 35 = .ok (.getfield 34, 3) := by decide +kernel
theorem dX11_covet_38 : decode cX11_covet 38 = .ok (.iconst 1, 1) := by decide +kernel
theorem dX11_covet_39 : decode cX11_covet 39 = .ok (.iaload, 1) := by decide +kernel
theorem dX11_covet_40 : decode cX11_covet 40 = .ok (.if_icmp .ge 66, 3) := by decide +kernel
theorem dX11_covet_106 : decode cX11_covet 106 = .ok (.iload_n 2, 1) := by decide +kernel
theorem dX11_covet_107 : decode cX11_covet 107 = .ok (.ireturn, 1) := by decide +kernel
theorem dX11_covet_43 : decode cX11_covet 43 = .ok (.aload_n 0, 1) := by decide +kernel
theorem dX11_covet_44 : decode cX11_covet 44 = .ok (.getfield 47, 3) := by decide +kernel
theorem dX11_covet_47 : decode cX11_covet 47 = .ok (.iload 4, 2) := by decide +kernel
theorem dX11_covet_49 : decode cX11_covet 49 = .ok (.iaload, 1) := by decide +kernel
theorem dX11_covet_50 : decode cX11_covet 50 = .ok (.istore 5, 2) := by decide +kernel
theorem dX11_covet_52 : decode cX11_covet 52 = .ok (.iload 5, 2) := by decide +kernel
theorem dX11_covet_54 : decode cX11_covet 54 = .ok (.iload_n 1, 1) := by decide +kernel
theorem dX11_covet_100 : decode cX11_covet 100 = .ok (.iinc 4 1, 3) := by decide +kernel
theorem dX11_covet_103 : decode cX11_covet 103 = .ok (.goto (-71), 3) := by decide +kernel
theorem dX11_covet_55 : decode cX11_covet 55 = .ok (.if_icmp .ne 6, 3) := by decide +kernel
theorem dX11_covet_61 : decode cX11_covet 61 = .ok (.aload_n 0, 1) := by decide +kernel
theorem dX11_covet_62 : decode cX11_covet 62 = .ok (.getfield 47, 3) := by decide +kernel
theorem dX11_covet_65 : decode cX11_covet 65 = .ok (.iload 4, 2) := by decide +kernel
theorem dX11_covet_67 : decode cX11_covet 67 = .ok (.iload_n 1, 1) := by decide +kernel
theorem dX11_covet_68 : decode cX11_covet 68 = .ok (.iastore, 1) := by decide +kernel
theorem dX11_covet_69 : decode cX11_covet 69 = .ok (.aload_n 0, 1) := by decide +kernel
theorem dX11_covet_70 : decode cX11_covet 70 = .ok (.iload_n 1, 1) := by decide +kernel
theorem dX11_covet_71 : decode cX11_covet 71 = .ok (.invokevirtual 379, 3) := by decide +kernel
theorem dX11_covet_74 : decode cX11_covet 74 = .ok (.istore 6, 2) := by decide +kernel
theorem dX11_covet_76 : decode cX11_covet 76 = .ok (.aload_n 0, 1) := by decide +kernel
theorem dX11_covet_77 : decode cX11_covet 77 = .ok (.getfield 47, 3) := by decide +kernel
theorem dX11_covet_80 : decode cX11_covet 80 = .ok (.iload 4, 2) := by decide +kernel
theorem dX11_covet_82 : decode cX11_covet 82 = .ok (.iload 5, 2) := by decide +kernel
theorem dX11_covet_84 : decode cX11_covet 84 = .ok (.iastore, 1) := by decide +kernel
theorem dX11_covet_85 : decode cX11_covet 85 = .ok (.iload 6, 2) := by decide +kernel
theorem dX11_covet_87 : decode cX11_covet 87 = .ok (.iload_n 3, 1) := by decide +kernel
theorem dX11_covet_88 : decode cX11_covet 88 = .ok (.if_icmp .gt 6, 3) := by decide +kernel
theorem dX11_covet_94 : decode cX11_covet 94 = .ok (.iload 4, 2) := by decide +kernel
theorem dX11_covet_96 : decode cX11_covet 96 = .ok (.istore_n 2, 1) := by decide +kernel
theorem dX11_covet_97 : decode cX11_covet 97 = .ok (.iload 6, 2) := by decide +kernel
theorem dX11_covet_99 : decode cX11_covet 99 = .ok (.istore_n 3, 1) := by decide +kernel
theorem dX11_covet_91 : decode cX11_covet 91 = .ok (.goto 9, 3) := by decide +kernel
theorem dX11_covet_58 : decode cX11_covet 58 = .ok (.goto 42, 3) := by decide +kernel
theorem dX11_covet_14 : decode cX11_covet 14 = .ok (.bipush (-2), 2) := by decide +kernel
theorem dX11_covet_16 : decode cX11_covet 16 = .ok (.ireturn, 1) := by decide +kernel
theorem dX11_whyNotJudge_0 : decode cX11_whyNotJudge 0 = .ok (.iload_n 1, 1) := by decide +kernel
set_option maxRecDepth 20000 in
theorem ggX11_whyNotJudge_X11_isSlot : GoodIn wsX11_whyNotJudge wsX11_isSlot := goodIn_r _ [8, 9, 10, 11, 7, 12] (by rfl) (by decide +kernel)
set_option maxRecDepth 20000 in
theorem gX11_whyNotJudge_X11_isSlot : GoodIn wsX11_whyNotJudge (va_wsS RX11 68 yX11_isSlot wsX11_isSlot) := goodIn_app (goodIn_r _ [5, 6, 7] (by rfl) (by decide +kernel)) ggX11_whyNotJudge_X11_isSlot
theorem dX11_whyNotJudge_1 : decode cX11_whyNotJudge 1 = .ok (.invokestatic 68, 3) := by decide +kernel
theorem dX11_whyNotJudge_4 : decode cX11_whyNotJudge 4 = .ok (.ifCond .eq 10, 3) := by decide +kernel
theorem dX11_whyNotJudge_14 : decode cX11_whyNotJudge 14 = .ok (.bipush (-2), 2) := by decide +kernel
theorem dX11_whyNotJudge_16 : decode cX11_whyNotJudge 16 = .ok (.ireturn, 1) := by decide +kernel
theorem dX11_whyNotJudge_7 : decode cX11_whyNotJudge 7 = .ok (.aload_n 0, 1) := by decide +kernel
set_option maxRecDepth 20000 in
theorem ggX11_whyNotJudge_X11_isCity : GoodIn wsX11_whyNotJudge wsX11_isCity := goodIn_r _ [16, 17, 27, 28, 29, 30, 31, 32, 33, 34, 35, 36, 37, 38, 39, 40, 41, 42, 43, 44, 45, 46, 47, 48, 49, 50, 51, 52, 53, 54, 55, 56, 57] (by rfl) (by decide +kernel)
set_option maxRecDepth 20000 in
theorem gX11_whyNotJudge_X11_isCity : GoodIn wsX11_whyNotJudge (wsV RX11 209 RX11 yX11_isCity wsX11_isCity) := goodIn_app (goodIn_r _ [13, 14, 15, 7] (by rfl) (by decide +kernel)) ggX11_whyNotJudge_X11_isCity
theorem dX11_whyNotJudge_8 : decode cX11_whyNotJudge 8 = .ok (.invokevirtual 209, 3) := by decide +kernel
theorem dX11_whyNotJudge_11 : decode cX11_whyNotJudge 11 = .ok (.ifCond .ne 6, 3) := by decide +kernel
theorem dX11_whyNotJudge_17 : decode cX11_whyNotJudge 17 = .ok (.aload_n 0, 1) := by decide +kernel
theorem dX11_whyNotJudge_18 : decode cX11_whyNotJudge 18 = .ok (.getfield 7, 3) := by decide +kernel
theorem dX11_whyNotJudge_21 : decode cX11_whyNotJudge 21 = .ok (.iload_n 1, 1) := by decide +kernel
theorem dX11_whyNotJudge_22 : decode cX11_whyNotJudge 22 = .ok (.iaload, 1) := by decide +kernel
theorem dX11_whyNotJudge_23 : decode cX11_whyNotJudge 23 = .ok (.iconst (-1), 1) := by decide +kernel
theorem dX11_whyNotJudge_24 : decode cX11_whyNotJudge 24 = .ok (.if_icmp .ne 6, 3) := by decide +kernel
theorem dX11_whyNotJudge_30 : decode cX11_whyNotJudge 30 = .ok (.aload_n 0, 1) := by decide +kernel
theorem dX11_whyNotJudge_31 : decode cX11_whyNotJudge 31 = .ok (.getfield 13, 3) := by decide +kernel
theorem dX11_whyNotJudge_34 : decode cX11_whyNotJudge 34 = .ok (.iload_n 1, 1) := by decide +kernel
theorem dX11_whyNotJudge_35 : decode cX11_whyNotJudge 35 = .ok (.iaload, 1) := by decide +kernel
theorem dX11_whyNotJudge_36 : decode cX11_whyNotJudge 36 = .ok (.iconst 3, 1) := by decide +kernel
theorem dX11_whyNotJudge_37 : decode cX11_whyNotJudge 37 = .ok (.irem, 1) := by decide +kernel
theorem dX11_whyNotJudge_38 : decode cX11_whyNotJudge 38 = .ok (.ifCond .eq 6, 3) := by decide +kernel
theorem dX11_whyNotJudge_44 : decode cX11_whyNotJudge 44 = .ok (.iconst 0, 1) := by decide +kernel
theorem dX11_whyNotJudge_45 : decode cX11_whyNotJudge 45 = .ok (.istore_n 2, 1) := by decide +kernel
theorem dX11_whyNotJudge_46 : decode cX11_whyNotJudge 46 = .ok (.iload_n 2, 1) := by decide +kernel
theorem dX11_whyNotJudge_47 : decode cX11_whyNotJudge 47 = .ok (.aload_n 0, 1) := by decide +kernel
theorem dX11_whyNotJudge_48 : decode cX11_whyNotJudge 48 = .ok (.getfield 13, 3) := by decide +kernel
theorem dX11_whyNotJudge_51 : decode cX11_whyNotJudge 51 = .ok (.iload_n 1, 1) := by decide +kernel
theorem dX11_whyNotJudge_52 : decode cX11_whyNotJudge 52 = .ok (.iaload, 1) := by decide +kernel
theorem dX11_whyNotJudge_53 : decode cX11_whyNotJudge 53 = .ok (.if_icmp .ge 116, 3) := by decide +kernel
theorem dX11_whyNotJudge_169 : decode cX11_whyNotJudge 169 = .ok (.iconst 0, 1) := by decide +kernel
theorem dX11_whyNotJudge_170 : decode cX11_whyNotJudge 170 = .ok (.ireturn, 1) := by decide +kernel
theorem dX11_whyNotJudge_56 : decode cX11_whyNotJudge 56 = .ok (.bipush 60, 2) := by decide +kernel
theorem dX11_whyNotJudge_58 : decode cX11_whyNotJudge 58 = .ok (.iload_n 1, 1) := by decide +kernel
theorem dX11_whyNotJudge_59 : decode cX11_whyNotJudge 59 = .ok (.imul, 1) := by decide +kernel
theorem dX11_whyNotJudge_60 : decode cX11_whyNotJudge 60 = .ok (.iload_n 2, 1) := by decide +kernel
theorem dX11_whyNotJudge_61 : decode cX11_whyNotJudge 61 = .ok (.iadd, 1) := by decide +kernel
theorem dX11_whyNotJudge_62 : decode cX11_whyNotJudge 62 = .ok (.istore_n 3, 1) := by decide +kernel
theorem dX11_whyNotJudge_63 : decode cX11_whyNotJudge 63 = .ok (.aload_n 0, 1) := by decide +kernel
theorem dX11_whyNotJudge_64 : decode cX11_whyNotJudge 64 = .ok (.getfield 16, 3) := by decide +kernel
theorem dX11_whyNotJudge_67 : decode cX11_whyNotJudge 67 = .ok (.iload_n 3, 1) := by decide +kernel
theorem dX11_whyNotJudge_68 : decode cX11_whyNotJudge 68 = .ok (.laload, 1) := by decide +kernel
theorem dX11_whyNotJudge_69 : decode cX11_whyNotJudge 69 = .ok (.ldc2_w 103, 3) := by decide +kernel
theorem dX11_whyNotJudge_72 : decode cX11_whyNotJudge 72 = .ok (.lcmp, 1) := by decide +kernel
theorem dX11_whyNotJudge_73 : decode cX11_whyNotJudge 73 = .ok (.ifCond .ne 37, 3) := by decide +kernel
theorem dX11_whyNotJudge_110 : decode cX11_whyNotJudge 110 = .ok (.iconst 0, 1) := by decide +kernel
theorem dX11_whyNotJudge_111 : decode cX11_whyNotJudge 111 = .ok (.istore 4, 2) := by decide +kernel
theorem dX11_whyNotJudge_113 : decode cX11_whyNotJudge 113 = .ok (.iload 4, 2) := by decide +kernel
theorem dX11_whyNotJudge_115 : decode cX11_whyNotJudge 115 = .ok (.ifCond .ne 48, 3) := by decide +kernel
theorem dX11_whyNotJudge_118 : decode cX11_whyNotJudge 118 = .ok (.aload_n 0, 1) := by decide +kernel
theorem dX11_whyNotJudge_119 : decode cX11_whyNotJudge 119 = .ok (.aload_n 0, 1) := by decide +kernel
theorem dX11_whyNotJudge_120 : decode cX11_whyNotJudge 120 = .ok (.getfield 16, 3) := by decide +kernel
theorem dX11_whyNotJudge_123 : decode cX11_whyNotJudge 123 = .ok (.iload_n 3, 1) := by decide +kernel
theorem dX11_whyNotJudge_124 : decode cX11_whyNotJudge 124 = .ok (.laload, 1) := by decide +kernel
set_option maxRecDepth 20000 in
theorem ggX11_whyNotJudge_X11_isPerson : GoodIn wsX11_whyNotJudge wsX11_isPerson := goodIn_r _ [21, 22, 10, 11, 7, 12, 27, 28, 29, 30, 31, 32, 33, 34, 35, 36, 37, 38, 39, 40, 41, 42, 43, 44, 45, 46, 47, 48, 49, 50, 51, 52, 53, 54, 55, 56, 57] (by rfl) (by decide +kernel)
set_option maxRecDepth 20000 in
theorem gX11_whyNotJudge_X11_isPerson : GoodIn wsX11_whyNotJudge (wsV RX11 206 RX11 yX11_isPerson wsX11_isPerson) := goodIn_app (goodIn_r _ [18, 19, 20, 7] (by rfl) (by decide +kernel)) ggX11_whyNotJudge_X11_isPerson
theorem dX11_whyNotJudge_125 : decode cX11_whyNotJudge 125 = .ok (.invokevirtual 206, 3) := by decide +kernel
theorem dX11_whyNotJudge_128 : decode cX11_whyNotJudge 128 = .ok (.ifCond .eq 32, 3) := by decide +kernel
theorem dX11_whyNotJudge_160 : decode cX11_whyNotJudge 160 = .ok (.bipush (-2), 2) := by decide +kernel
theorem dX11_whyNotJudge_162 : decode cX11_whyNotJudge 162 = .ok (.ireturn, 1) := by decide +kernel
theorem dX11_whyNotJudge_131 : decode cX11_whyNotJudge 131 = .ok (.aload_n 0, 1) := by decide +kernel
theorem dX11_whyNotJudge_132 : decode cX11_whyNotJudge 132 = .ok (.aload_n 0, 1) := by decide +kernel
theorem dX11_whyNotJudge_133 : decode cX11_whyNotJudge 133 = .ok (.getfield 16, 3) := by decide +kernel
theorem dX11_whyNotJudge_136 : decode cX11_whyNotJudge 136 = .ok (.iload_n 3, 1) := by decide +kernel
theorem dX11_whyNotJudge_137 : decode cX11_whyNotJudge 137 = .ok (.iconst 1, 1) := by decide +kernel
theorem dX11_whyNotJudge_138 : decode cX11_whyNotJudge 138 = .ok (.iadd, 1) := by decide +kernel
theorem dX11_whyNotJudge_139 : decode cX11_whyNotJudge 139 = .ok (.laload, 1) := by decide +kernel
theorem dX11_whyNotJudge_140 : decode cX11_whyNotJudge 140 = .ok (.invokevirtual 206, 3) := by decide +kernel
theorem dX11_whyNotJudge_143 : decode cX11_whyNotJudge 143 = .ok (.ifCond .eq 17, 3) := by decide +kernel
theorem dX11_whyNotJudge_146 : decode cX11_whyNotJudge 146 = .ok (.aload_n 0, 1) := by decide +kernel
theorem dX11_whyNotJudge_147 : decode cX11_whyNotJudge 147 = .ok (.getfield 16, 3) := by decide +kernel
theorem dX11_whyNotJudge_150 : decode cX11_whyNotJudge 150 = .ok (.iload_n 3, 1) := by decide +kernel
theorem dX11_whyNotJudge_151 : decode cX11_whyNotJudge 151 = .ok (.iconst 2, 1) := by decide +kernel
theorem dX11_whyNotJudge_152 : decode cX11_whyNotJudge 152 = .ok (.iadd, 1) := by decide +kernel
theorem dX11_whyNotJudge_153 : decode cX11_whyNotJudge 153 = .ok (.laload, 1) := by decide +kernel
set_option maxRecDepth 20000 in
theorem ggX11_whyNotJudge_X11_isDeed : GoodIn wsX11_whyNotJudge wsX11_isDeed := goodIn_r _ [25, 26, 10, 11, 7, 12] (by rfl) (by decide +kernel)
set_option maxRecDepth 20000 in
theorem gX11_whyNotJudge_X11_isDeed : GoodIn wsX11_whyNotJudge (va_wsS RX11 278 yX11_isDeed wsX11_isDeed) := goodIn_app (goodIn_r _ [23, 24, 7] (by rfl) (by decide +kernel)) ggX11_whyNotJudge_X11_isDeed
theorem dX11_whyNotJudge_154 : decode cX11_whyNotJudge 154 = .ok (.invokestatic 278, 3) := by decide +kernel
theorem dX11_whyNotJudge_157 : decode cX11_whyNotJudge 157 = .ok (.ifCond .ne 6, 3) := by decide +kernel
theorem dX11_whyNotJudge_163 : decode cX11_whyNotJudge 163 = .ok (.iinc 2 3, 3) := by decide +kernel
theorem dX11_whyNotJudge_166 : decode cX11_whyNotJudge 166 = .ok (.goto (-120), 3) := by decide +kernel
theorem dX11_whyNotJudge_76 : decode cX11_whyNotJudge 76 = .ok (.aload_n 0, 1) := by decide +kernel
theorem dX11_whyNotJudge_77 : decode cX11_whyNotJudge 77 = .ok (.getfield 16, 3) := by decide +kernel
theorem dX11_whyNotJudge_80 : decode cX11_whyNotJudge 80 = .ok (.iload_n 3, 1) := by decide +kernel
theorem dX11_whyNotJudge_81 : decode cX11_whyNotJudge 81 = .ok (.iconst 1, 1) := by decide +kernel
theorem dX11_whyNotJudge_82 : decode cX11_whyNotJudge 82 = .ok (.iadd, 1) := by decide +kernel
theorem dX11_whyNotJudge_83 : decode cX11_whyNotJudge 83 = .ok (.laload, 1) := by decide +kernel
theorem dX11_whyNotJudge_84 : decode cX11_whyNotJudge 84 = .ok (.ldc2_w 103, 3) := by decide +kernel
theorem dX11_whyNotJudge_87 : decode cX11_whyNotJudge 87 = .ok (.lcmp, 1) := by decide +kernel
theorem dX11_whyNotJudge_88 : decode cX11_whyNotJudge 88 = .ok (.ifCond .ne 22, 3) := by decide +kernel
theorem dX11_whyNotJudge_91 : decode cX11_whyNotJudge 91 = .ok (.aload_n 0, 1) := by decide +kernel
theorem dX11_whyNotJudge_92 : decode cX11_whyNotJudge 92 = .ok (.getfield 16, 3) := by decide +kernel
theorem dX11_whyNotJudge_95 : decode cX11_whyNotJudge 95 = .ok (.iload_n 3, 1) := by decide +kernel
theorem dX11_whyNotJudge_96 : decode cX11_whyNotJudge 96 = .ok (.iconst 2, 1) := by decide +kernel
theorem dX11_whyNotJudge_97 : decode cX11_whyNotJudge 97 = .ok (.iadd, 1) := by decide +kernel
theorem dX11_whyNotJudge_98 : decode cX11_whyNotJudge 98 = .ok (.laload, 1) := by decide +kernel
theorem dX11_whyNotJudge_99 : decode cX11_whyNotJudge 99 = .ok (.ldc2_w 103, 3) := by decide +kernel
theorem dX11_whyNotJudge_102 : decode cX11_whyNotJudge 102 = .ok (.lcmp, 1) := by decide +kernel
theorem dX11_whyNotJudge_103 : decode cX11_whyNotJudge 103 = .ok (.ifCond .ne 7, 3) := by decide +kernel
theorem dX11_whyNotJudge_106 : decode cX11_whyNotJudge 106 = .ok (.iconst 1, 1) := by decide +kernel
theorem dX11_whyNotJudge_107 : decode cX11_whyNotJudge 107 = .ok (.goto 4, 3) := by decide +kernel
theorem dX11_whyNotJudge_41 : decode cX11_whyNotJudge 41 = .ok (.bipush (-2), 2) := by decide +kernel
theorem dX11_whyNotJudge_43 : decode cX11_whyNotJudge 43 = .ok (.ireturn, 1) := by decide +kernel
theorem dX11_whyNotJudge_27 : decode cX11_whyNotJudge 27 = .ok (.bipush (-6), 2) := by decide +kernel
theorem dX11_whyNotJudge_29 : decode cX11_whyNotJudge 29 = .ok (.ireturn, 1) := by decide +kernel
theorem dX11_judges_0 : decode cX11_judges 0 = .ok (.aload_n 0, 1) := by decide +kernel
set_option maxRecDepth 20000 in
theorem ggX11_judges_X11_start : GoodIn wsX11_judges wsX11_start := goodIn_r _ [8, 9, 10, 11, 12, 13, 14, 15, 16, 17, 18, 19, 7, 20, 21, 41, 42, 43, 44, 45, 46, 47, 48, 49, 50, 51, 52, 53, 54, 55, 56, 57, 58, 59, 60, 61, 62, 63, 64, 65, 66, 67, 68, 69, 70, 71] (by rfl) (by decide +kernel)
set_option maxRecDepth 20000 in
theorem gX11_judges_X11_start : GoodIn wsX11_judges (wsV RX11 229 RX11 yX11_start wsX11_start) := goodIn_app (goodIn_r _ [4, 5, 6, 7] (by rfl) (by decide +kernel)) ggX11_judges_X11_start
theorem dX11_judges_1 : decode cX11_judges 1 = .ok (.invokevirtual 229, 3) := by decide +kernel
theorem dX11_judges_4 : decode cX11_judges 4 = .ok (.iconst 0, 1) := by decide +kernel
theorem dX11_judges_5 : decode cX11_judges 5 = .ok (.istore_n 2, 1) := by decide +kernel
theorem dX11_judges_6 : decode cX11_judges 6 = .ok (.iload_n 2, 1) := by decide +kernel
theorem dX11_judges_7 : decode cX11_judges 7 = .ok (.aload_n 0, 1) := by decide +kernel
theorem dX11_judges_8 : decode cX11_judges 8 = .ok (.getfield 13, 3) := by decide +kernel
theorem dX11_judges_11 : decode cX11_judges 11 = .ok (.iload_n 1, 1) := by decide +kernel
theorem dX11_judges_12 : decode cX11_judges 12 = .ok (.iaload, 1) := by decide +kernel
theorem dX11_judges_13 : decode cX11_judges 13 = .ok (.if_icmp .ge 85, 3) := by decide +kernel
theorem dX11_judges_98 : decode cX11_judges 98 = .ok (.aload_n 0, 1) := by decide +kernel
theorem dX11_judges_99 : decode cX11_judges 99 = .ok (.getfield 13, 3) := by decide +kernel
theorem dX11_judges_102 : decode cX11_judges 102 = .ok (.iload_n 1, 1) := by decide +kernel
theorem dX11_judges_103 : decode cX11_judges 103 = .ok (.iaload, 1) := by decide +kernel
theorem dX11_judges_104 : decode cX11_judges 104 = .ok (.iconst 3, 1) := by decide +kernel
theorem dX11_judges_105 : decode cX11_judges 105 = .ok (.idiv, 1) := by decide +kernel
theorem dX11_judges_106 : decode cX11_judges 106 = .ok (.ireturn, 1) := by decide +kernel
theorem dX11_judges_16 : decode cX11_judges 16 = .ok (.bipush 60, 2) := by decide +kernel
theorem dX11_judges_18 : decode cX11_judges 18 = .ok (.iload_n 1, 1) := by decide +kernel
theorem dX11_judges_19 : decode cX11_judges 19 = .ok (.imul, 1) := by decide +kernel
theorem dX11_judges_20 : decode cX11_judges 20 = .ok (.iload_n 2, 1) := by decide +kernel
theorem dX11_judges_21 : decode cX11_judges 21 = .ok (.iadd, 1) := by decide +kernel
theorem dX11_judges_22 : decode cX11_judges 22 = .ok (.istore_n 3, 1) := by decide +kernel
theorem dX11_judges_23 : decode cX11_judges 23 = .ok (.aload_n 0, 1) := by decide +kernel
theorem dX11_judges_24 : decode cX11_judges 24 = .ok (.getfield 16, 3) := by decide +kernel
theorem dX11_judges_27 : decode cX11_judges 27 = .ok (.iload_n 3, 1) := by decide +kernel
theorem dX11_judges_28 : decode cX11_judges 28 = .ok (.laload, 1) := by decide +kernel
theorem dX11_judges_29 : decode cX11_judges 29 = .ok (.ldc2_w 103, 3) := by decide +kernel
theorem dX11_judges_32 : decode cX11_judges 32 = .ok (.lcmp, 1) := by decide +kernel
theorem dX11_judges_92 : decode cX11_judges 92 = .ok (.iinc 2 3, 3) := by decide +kernel
theorem dX11_judges_95 : decode cX11_judges 95 = .ok (.goto (-89), 3) := by decide +kernel
theorem dX11_judges_33 : decode cX11_judges 33 = .ok (.ifCond .ne 10, 3) := by decide +kernel
theorem dX11_judges_43 : decode cX11_judges 43 = .ok (.aload_n 0, 1) := by decide +kernel
theorem dX11_judges_44 : decode cX11_judges 44 = .ok (.aload_n 0, 1) := by decide +kernel
theorem dX11_judges_45 : decode cX11_judges 45 = .ok (.getfield 16, 3) := by decide +kernel
theorem dX11_judges_48 : decode cX11_judges 48 = .ok (.iload_n 3, 1) := by decide +kernel
theorem dX11_judges_49 : decode cX11_judges 49 = .ok (.laload, 1) := by decide +kernel
theorem dX11_judges_50 : decode cX11_judges 50 = .ok (.l2i, 1) := by decide +kernel
theorem dX11_judges_51 : decode cX11_judges 51 = .ok (.aload_n 0, 1) := by decide +kernel
theorem dX11_judges_52 : decode cX11_judges 52 = .ok (.getfield 16, 3) := by decide +kernel
theorem dX11_judges_55 : decode cX11_judges 55 = .ok (.iload_n 3, 1) := by decide +kernel
theorem dX11_judges_56 : decode cX11_judges 56 = .ok (.iconst 1, 1) := by decide +kernel
theorem dX11_judges_57 : decode cX11_judges 57 = .ok (.iadd, 1) := by decide +kernel
theorem dX11_judges_58 : decode cX11_judges 58 = .ok (.laload, 1) := by decide +kernel
theorem dX11_judges_59 : decode cX11_judges 59 = .ok (.l2i, 1) := by decide +kernel
theorem dX11_judges_60 : decode cX11_judges 60 = .ok (.aload_n 0, 1) := by decide +kernel
theorem dX11_judges_61 : decode cX11_judges 61 = .ok (.getfield 16, 3) := by decide +kernel
theorem dX11_judges_64 : decode cX11_judges 64 = .ok (.iload_n 3, 1) := by decide +kernel
theorem dX11_judges_65 : decode cX11_judges 65 = .ok (.iconst 2, 1) := by decide +kernel
theorem dX11_judges_66 : decode cX11_judges 66 = .ok (.iadd, 1) := by decide +kernel
theorem dX11_judges_67 : decode cX11_judges 67 = .ok (.laload, 1) := by decide +kernel
theorem dX11_judges_68 : decode cX11_judges 68 = .ok (.l2i, 1) := by decide +kernel
set_option maxRecDepth 20000 in
theorem ggX11_judges_X11_whyOf : GoodIn wsX11_judges wsX11_whyOf := goodIn_r _ [32, 10, 13, 26, 27, 7, 28, 17, 18, 19, 20, 21, 41, 42, 43, 44, 45, 46, 47, 48, 49, 50, 51, 52, 53, 54, 55, 56, 57, 58, 59, 60, 61, 62, 63, 64, 65, 66, 67, 68, 69, 70, 71] (by rfl) (by decide +kernel)
set_option maxRecDepth 20000 in
theorem gX11_judges_X11_whyOf : GoodIn wsX11_judges (wsV RX11 287 RX11 yX11_whyOf wsX11_whyOf) := goodIn_app (goodIn_r _ [29, 30, 31, 7] (by rfl) (by decide +kernel)) ggX11_judges_X11_whyOf
theorem dX11_judges_69 : decode cX11_judges 69 = .ok (.invokevirtual 287, 3) := by decide +kernel
theorem dX11_judges_72 : decode cX11_judges 72 = .ok (.ifCond .eq 7, 3) := by decide +kernel
theorem dX11_judges_79 : decode cX11_judges 79 = .ok (.aload_n 0, 1) := by decide +kernel
theorem dX11_judges_80 : decode cX11_judges 80 = .ok (.aload_n 0, 1) := by decide +kernel
theorem dX11_judges_81 : decode cX11_judges 81 = .ok (.getfield 16, 3) := by decide +kernel
theorem dX11_judges_84 : decode cX11_judges 84 = .ok (.iload_n 3, 1) := by decide +kernel
theorem dX11_judges_85 : decode cX11_judges 85 = .ok (.iconst 1, 1) := by decide +kernel
theorem dX11_judges_86 : decode cX11_judges 86 = .ok (.iadd, 1) := by decide +kernel
theorem dX11_judges_87 : decode cX11_judges 87 = .ok (.laload, 1) := by decide +kernel
theorem dX11_judges_88 : decode cX11_judges 88 = .ok (.l2i, 1) := by decide +kernel
set_option maxRecDepth 20000 in
theorem ggX11_judges_X11_isAsked : GoodIn wsX11_judges wsX11_isAsked := goodIn_r _ [36, 13, 11, 10, 37, 38, 39, 7, 40, 9, 17, 18, 19, 20, 21, 41, 42, 43, 44, 45, 46, 47, 48, 49, 50, 51, 52, 53, 54, 55, 56, 57, 58, 59, 60, 61, 62, 63, 64, 65, 66, 67, 68, 69, 70, 71] (by rfl) (by decide +kernel)
set_option maxRecDepth 20000 in
theorem gX11_judges_X11_isAsked : GoodIn wsX11_judges (wsV RX11 243 RX11 yX11_isAsked wsX11_isAsked) := goodIn_app (goodIn_r _ [33, 34, 35, 7] (by rfl) (by decide +kernel)) ggX11_judges_X11_isAsked
theorem dX11_judges_89 : decode cX11_judges 89 = .ok (.invokevirtual 243, 3) := by decide +kernel
theorem dX11_judges_75 : decode cX11_judges 75 = .ok (.iload_n 2, 1) := by decide +kernel
theorem dX11_judges_76 : decode cX11_judges 76 = .ok (.iconst 3, 1) := by decide +kernel
theorem dX11_judges_77 : decode cX11_judges 77 = .ok (.idiv, 1) := by decide +kernel
theorem dX11_judges_78 : decode cX11_judges 78 = .ok (.ireturn, 1) := by decide +kernel
theorem dX11_judges_36 : decode cX11_judges 36 = .ok (.aload_n 0, 1) := by decide +kernel
set_option maxRecDepth 20000 in
theorem ggX11_judges_X11_dayEnds : GoodIn wsX11_judges wsX11_dayEnds := goodIn_r _ [25, 9, 14, 10, 12, 13, 15, 26, 27, 7, 28, 41, 42, 43, 44, 45, 46, 47, 48, 49, 50, 51, 52, 53, 54, 55, 56, 57, 58, 59, 60, 61, 62, 63, 64, 65, 66, 67, 68, 69, 70, 71] (by rfl) (by decide +kernel)
set_option maxRecDepth 20000 in
theorem gX11_judges_X11_dayEnds : GoodIn wsX11_judges (wsV RX11 246 RX11 yX11_dayEnds wsX11_dayEnds) := goodIn_app (goodIn_r _ [22, 23, 24, 7] (by rfl) (by decide +kernel)) ggX11_judges_X11_dayEnds
theorem dX11_judges_37 : decode cX11_judges 37 = .ok (.invokevirtual 246, 3) := by decide +kernel
theorem dX11_judges_40 : decode cX11_judges 40 = .ok (.goto 52, 3) := by decide +kernel
theorem dX11_judge_0 : decode cX11_judge 0 = .ok (.aload_n 0, 1) := by decide +kernel
theorem dX11_judge_1 : decode cX11_judge 1 = .ok (.iconst 0, 1) := by decide +kernel
theorem dX11_judge_2 : decode cX11_judge 2 = .ok (.putfield 59, 3) := by decide +kernel
theorem dX11_judge_5 : decode cX11_judge 5 = .ok (.aload_n 0, 1) := by decide +kernel
theorem dX11_judge_6 : decode cX11_judge 6 = .ok (.iload_n 1, 1) := by decide +kernel
set_option maxRecDepth 20000 in
theorem ggX11_judge_X11_whyNotJudge : GoodIn wsX11_judge wsX11_whyNotJudge := goodIn_r _ [6, 7, 8, 9, 10, 11, 12, 5, 13, 14, 15, 16, 17, 18, 19, 20, 21, 22, 23, 24, 25, 26, 27, 28, 29, 30, 31, 71, 72, 73, 74, 75, 76, 77, 78, 79, 80, 81, 82, 83, 84, 85, 86, 87, 88, 89, 90, 91, 92, 93, 94, 95, 96, 97, 98, 99, 100, 101] (by rfl) (by decide +kernel)
set_option maxRecDepth 20000 in
theorem gX11_judge_X11_whyNotJudge : GoodIn wsX11_judge (wsV RX11 382 RX11 yX11_whyNotJudge wsX11_whyNotJudge) := goodIn_app (goodIn_r _ [2, 3, 4, 5] (by rfl) (by decide +kernel)) ggX11_judge_X11_whyNotJudge
theorem dX11_judge_7 : decode cX11_judge 7 = .ok (.invokevirtual 382, 3) := by decide +kernel
theorem dX11_judge_10 : decode cX11_judge 10 = .ok (.istore_n 2, 1) := by decide +kernel
theorem dX11_judge_11 : decode cX11_judge 11 = .ok (.iload_n 2, 1) := by decide +kernel
theorem dX11_judge_12 : decode cX11_judge 12 = .ok (.ifCond .eq 7, 3) := by decide +kernel
theorem dX11_judge_19 : decode cX11_judge 19 = .ok (.aload_n 0, 1) := by decide +kernel
theorem dX11_judge_20 : decode cX11_judge 20 = .ok (.iload_n 1, 1) := by decide +kernel
set_option maxRecDepth 20000 in
theorem ggX11_judge_X11_judges : GoodIn wsX11_judge wsX11_judges := goodIn_r _ [35, 8, 9, 10, 36, 37, 38, 5, 39, 27, 40, 41, 42, 43, 44, 45, 46, 47, 48, 49, 50, 51, 52, 53, 54, 55, 56, 57, 58, 59, 60, 61, 62, 63, 64, 65, 66, 67, 68, 69, 70, 71, 72, 73, 74, 75, 76, 77, 78, 79, 80, 81, 82, 83, 84, 85, 86, 87, 88, 89, 90, 91, 92, 93, 94, 95, 96, 97, 98, 99, 100, 101] (by rfl) (by decide +kernel)
set_option maxRecDepth 20000 in
theorem gX11_judge_X11_judges : GoodIn wsX11_judge (wsV RX11 385 RX11 yX11_judges wsX11_judges) := goodIn_app (goodIn_r _ [32, 33, 34, 5] (by rfl) (by decide +kernel)) ggX11_judge_X11_judges
theorem dX11_judge_21 : decode cX11_judge 21 = .ok (.invokevirtual 385, 3) := by decide +kernel
theorem dX11_judge_24 : decode cX11_judge 24 = .ok (.ireturn, 1) := by decide +kernel
theorem dX11_judge_15 : decode cX11_judge 15 = .ok (.iload_n 2, 1) := by decide +kernel
theorem dX11_judge_16 : decode cX11_judge 16 = .ok (.goto 8, 3) := by decide +kernel
set_option maxHeartbeats 4000000 in
set_option maxRecDepth 100000 in
theorem a_X11_covet (l : Launch) (G : va_G) (ct : Nat → ClassId) (a0 : Nat) (n0_0 : Int32) (a1 : Nat) (a2 : Nat) (a3 : Nat) (a4 : Nat) (a5 : Nat) (n0_6 : Int32) (n0_7 : Int32) (n0_8 : Int32) (n0_9 : Int32) (n0_10 : Int32) (l0_11 : Int64) (n0_12 : Int32) (n0_13 : Int32) (n0_14 : Int32) (n0_15 : Int32) (a6 : Nat) (a7 : Nat) (a8 : Nat) (a9 : Nat) (a10 : Nat) (a11 : Nat) (a12 : Nat) (a13 : Nat) (n0_24 : Int32) (n0_25 : Int32) (n0_26 : Int32) (n0_27 : Int32) (a14 : Nat) (n0_29 : Int32) (n0_30 : Int32) (f7 : Nat → Int32) (f8 : Nat → Int32) (f9 : Nat → Int32) (f11 : Nat → Int32) (f12 : Nat → Int32) (f13 : Nat → Int32) (p0 : Int32) (hp_n0_6 : rg 0 900 n0_6) (hp_f7 : hsI f7) (hp_f8 : psI f8) (hp_f9 : ar 0 7 f9) (hp_f11 : ar (-1) 7 f11) (hp_f13 : ar (-1) 7 f13) : Met l yX11_covet wsX11_covet ({ frames := 5, cells := 0, slots := 0, locals := 111 }) (va_Pc [.ref a0, .int p0] (wrP G ct [(a0, .inr (11, [.int n0_0, .ref a1, .ref a2, .ref a3, .ref a4, .ref a5, .int n0_6, .int n0_7, .int n0_8, .int n0_9, .int n0_10, .long l0_11, .int n0_12, .int n0_13, .int n0_14, .int n0_15, .ref a6, .ref a7, .ref a8, .ref a9, .ref a10, .ref a11, .ref a12, .ref a13, .int n0_24, .int n0_25, .int n0_26, .int n0_27, .ref a14, .int n0_29, .int n0_30])), (a7, .inl (ct 0, 15, .inl f7)), (a8, .inl (ct 0, 200, .inl f8)), (a9, .inl (ct 0, 1000, .inl f9)), (a11, .inl (ct 0, 8, .inl f11)), (a12, .inl (ct 0, 8, .inl f12)), (a13, .inl (ct 0, 8, .inl f13))])) (va_Qi (fun (r : Int32) (u : SU) => rg (-2) 7 r ∧ (r = 0 → rg 0 7 p0) ∧ (r = (-1) → rg 0 7 p0) ∧ (¬ r = (-2) → rg 0 7 p0) ∧ ar (-1) 7 (u.2.1 0) ∧ ar (-1) 7 (u.2.1 2) ∧ rg 0 0 (u.1 0) ∧ True) (fun u t => va_P G vwCl ((fun u : SU => [(a0, .inr (11, [.int (u.1 0), .ref a1, .ref a2, .ref a3, .ref a4, .ref a5, .int n0_6, .int n0_7, .int n0_8, .int n0_9, .int n0_10, .long l0_11, .int n0_12, .int n0_13, .int n0_14, .int n0_15, .ref a6, .ref a7, .ref a8, .ref a9, .ref a10, .ref a11, .ref a12, .ref a13, .int (u.1 1), .int (u.1 2), .int (u.1 3), .int (u.1 4), .ref a14, .int n0_29, .int n0_30])), (a7, .inl (ct 0, 15, .inl f7)), (a8, .inl (ct 0, 200, .inl f8)), (a9, .inl (ct 0, 1000, .inl f9)), (a11, .inl (ct 0, 8, .inl (u.2.1 0))), (a12, .inl (ct 0, 8, .inl (u.2.1 1))), (a13, .inl (ct 0, 8, .inl (u.2.1 2)))]) u) t.heap) (aset [(a0, .inr (11, [.int n0_0, .ref a1, .ref a2, .ref a3, .ref a4, .ref a5, .int n0_6, .int n0_7, .int n0_8, .int n0_9, .int n0_10, .long l0_11, .int n0_12, .int n0_13, .int n0_14, .int n0_15, .ref a6, .ref a7, .ref a8, .ref a9, .ref a10, .ref a11, .ref a12, .ref a13, .int n0_24, .int n0_25, .int n0_26, .int n0_27, .ref a14, .int n0_29, .int n0_30])), (a7, .inl (ct 0, 15, .inl f7)), (a8, .inl (ct 0, 200, .inl f8)), (a9, .inl (ct 0, 1000, .inl f9)), (a11, .inl (ct 0, 8, .inl f11)), (a12, .inl (ct 0, 8, .inl f12)), (a13, .inl (ct 0, 8, .inl f13))])) 0 0 (aset [(a0, .inr (11, [.int n0_0, .ref a1, .ref a2, .ref a3, .ref a4, .ref a5, .int n0_6, .int n0_7, .int n0_8, .int n0_9, .int n0_10, .long l0_11, .int n0_12, .int n0_13, .int n0_14, .int n0_15, .ref a6, .ref a7, .ref a8, .ref a9, .ref a10, .ref a11, .ref a12, .ref a13, .int n0_24, .int n0_25, .int n0_26, .int n0_27, .ref a14, .int n0_29, .int n0_30])), (a7, .inl (ct 0, 15, .inl f7)), (a8, .inl (ct 0, 200, .inl f8)), (a9, .inl (ct 0, 1000, .inl f9)), (a11, .inl (ct 0, 8, .inl f11)), (a12, .inl (ct 0, 8, .inl f12)), (a13, .inl (ct 0, 8, .inl f13))]) := by
  refine Met.ofW (cc := cX11_covet) (maxL := 7) (ret := (some .int)) (by decide) rfl ?_
  intro p e s m args below meth c s₁ B hml hv
  obtain ⟨rfl, hP, hK, hD0⟩ := hv
  have hx := B.exec
  have hb := B.bytes
  have hr := B.returns
  have hts := atoms_spec (ws := wsX11_covet) B.pre
  have hown : s.vm.findClass RX11 = some m.cls := findClass_of_methodNamed B.named
  have hlocks := B.notSynchronized
  have hD := hD0.aself
  generalize hAe : aset [(a0, .inr (11, [.int n0_0, .ref a1, .ref a2, .ref a3, .ref a4, .ref a5, .int n0_6, .int n0_7, .int n0_8, .int n0_9, .int n0_10, .long l0_11, .int n0_12, .int n0_13, .int n0_14, .int n0_15, .ref a6, .ref a7, .ref a8, .ref a9, .ref a10, .ref a11, .ref a12, .ref a13, .int n0_24, .int n0_25, .int n0_26, .int n0_27, .ref a14, .int n0_29, .int n0_30])), (a7, .inl (ct 0, 15, .inl f7)), (a8, .inl (ct 0, 200, .inl f8)), (a9, .inl (ct 0, 1000, .inl f9)), (a11, .inl (ct 0, 8, .inl f11)), (a12, .inl (ct 0, 8, .inl f12)), (a13, .inl (ct 0, 8, .inl f13))] = A at hD ⊢
  have hS : va_S A s.heap s.heap [] := va_S.rf
  have hl := lv_entry ([.ref a0, .int p0]) (n := 7) (Nat.le_of_ble_eq_true rfl)
  rw [lg_entry_eq]
  generalize (lg_sl ([.ref a0, .int p0]) ++ List.replicate (7 - (lg_sl ([.ref a0, .int p0])).length) Slot.unset).toArray = ls at hl ⊢
  have hl : lv_has ls 7 [(0, .ref a0), (1, .int p0)] := hl
  refine lv_aload_n hx hb dX11_covet_0 rfl (lv_at hl 0 rfl) ?_
  refine lv_iconst (v := 0) hx hb dX11_covet_1 (by decide) ?_
  refine va_put (D := G) (ci := 11) (v := .int 0) (ty := .int) (C := RX11) (T := TX11) (N := 31) hx hb hts (by decide +kernel) tyX11 tyX11_ok nmX11 hown hK.1 hP hD hS 0 rfl rfl 0 (by decide) (hts (.fieldLink RX11 59 "CardHolderModel" "thrown" "I") (by decide +kernel)) (fun _ h9 => h9) rfl (by decide +kernel) rfl rfl (Nat.le_of_ble_eq_true rfl) dX11_covet_2 (fun H locs hP hD hS => ?_)
  refine lv_aload_n hx hb dX11_covet_5 rfl (lv_at hl 0 rfl) ?_
  refine lv_iload_n hx hb dX11_covet_6 rfl (lv_at hl 1 rfl) ?_
  refine lv_i2l hx hb dX11_covet_7 rfl ?_
  refine nl_i2l (rg_t p0) (fun z7 hz7 ez7 => ?_)
  refine ro_calli (va_runV (As := [.long z7]) (rest := []) ⟨hx, hb, hml, hown, hts⟩ (a_X11_isPerson l G ct a0 (0 : Int32) a1 a2 a3 a4 a5 n0_6 n0_7 n0_8 n0_9 n0_10 l0_11 n0_12 n0_13 n0_14 n0_15 a6 a7 a8 a9 a10 a11 a12 a13 n0_24 n0_25 n0_26 n0_27 a14 n0_29 n0_30 f7 z7 hp_n0_6 hp_f7) (cwV 1 hts gX11_covet_X11_isPerson rfl rfl rfl (by decide +kernel) ⟨Nat.le_of_ble_eq_true rfl, Nat.le_of_ble_eq_true rfl⟩) (ro_preV 11 0 hK (hP.sub [0, 1] rfl) rfl rfl) rfl rfl hl.1 rfl (lv_room (Nat.le_of_ble_eq_true rfl)) dX11_covet_8 ⟨Nat.zero_le _, Nat.zero_le _⟩) hS hP (fun r8 H locs wr8 hP hS => ?_)
  obtain ⟨p_1, p_2, -⟩ := wr8
  refine lv_if_ne (tgt := 17) hx hb dX11_covet_11 (by decide) (fun c11 => ?_) (fun c11 => ?_)
  · have h_3 : rg 1 1 r8 := r_ne_lo_i c11 p_1 (by decide) (by decide)
    have h_4 : rl 0 7 z7 := (p_2 (rne h_3 (y := 0) (c := 0) (by decide) (by decide)))
    have h_5 : rg 0 7 p0 := bk_li (a := 0) (b := 7) ez7 h_4 (rg_t p0) (by decide)
    refine lv_aload_n hx hb dX11_covet_17 rfl (lv_at hl 0 rfl) ?_
    refine wj_callv (wr := []) (w1 := (fun u : SU => [(a0, .inr (11, [.int 0, .ref a1, .ref a2, .ref a3, .ref a4, .ref a5, .int n0_6, .int n0_7, .int n0_8, .int n0_9, .int n0_10, .long l0_11, .int n0_12, .int n0_13, .int n0_14, .int n0_15, .ref a6, .ref a7, .ref a8, .ref a9, .ref a10, .ref a11, .ref a12, .ref a13, .int (u.1 0), .int (u.1 1), .int (u.1 2), .int (u.1 3), .ref a14, .int n0_29, .int n0_30])), (a7, .inl (ct 0, 15, .inl f7)), (a8, .inl (ct 0, 200, .inl f8)), (a9, .inl (ct 0, 1000, .inl f9)), (a11, .inl (ct 0, 8, .inl (u.2.1 0))), (a12, .inl (ct 0, 8, .inl (u.2.1 1))), (a13, .inl (ct 0, 8, .inl (u.2.1 2)))])) (va_runV (As := []) (rest := []) ⟨hx, hb, hml, hown, hts⟩ (a_X11_laysNow l G ct a0 (0 : Int32) a1 a2 a3 a4 a5 n0_6 n0_7 n0_8 n0_9 n0_10 l0_11 n0_12 n0_13 n0_14 n0_15 a6 a7 a8 a9 a10 a11 a12 a13 n0_24 n0_25 n0_26 n0_27 a14 n0_29 n0_30 f7 f8 f9 f11 f12 f13 hp_n0_6 hp_f7 hp_f8 hp_f9 hp_f11 hp_f13) (cwV 0 hts gX11_covet_X11_laysNow rfl rfl rfl (by decide +kernel) ⟨Nat.le_of_ble_eq_true rfl, Nat.le_of_ble_eq_true rfl⟩) (wr_preV 11 0 hK (hP.sub [0, 1, 2, 3, 4, 5, 6] rfl) (hD.sub [0, 1, 2, 3, 4, 5, 6] (by decide) rfl) rfl rfl) rfl rfl hl.1 rfl (lv_room (Nat.le_of_ble_eq_true rfl)) dX11_covet_18 ⟨Nat.zero_le _, Nat.zero_le _⟩) hS hP hD [0, 1, 2, 3, 4, 5, 6] [] rfl rfl (by decide) (fun _ => rfl) (fun ur18 H locs wr18 hP hD hS => ?_)
    have hP : va_P G vwCl [(a0, .inr (11, [.int 0, .ref a1, .ref a2, .ref a3, .ref a4, .ref a5, .int n0_6, .int n0_7, .int n0_8, .int n0_9, .int n0_10, .long l0_11, .int n0_12, .int n0_13, .int n0_14, .int n0_15, .ref a6, .ref a7, .ref a8, .ref a9, .ref a10, .ref a11, .ref a12, .ref a13, .int (ur18.1 0), .int (ur18.1 1), .int (ur18.1 2), .int (ur18.1 3), .ref a14, .int n0_29, .int n0_30])), (a7, .inl (ct 0, 15, .inl f7)), (a8, .inl (ct 0, 200, .inl f8)), (a9, .inl (ct 0, 1000, .inl f9)), (a11, .inl (ct 0, 8, .inl (ur18.2.1 0))), (a12, .inl (ct 0, 8, .inl (ur18.2.1 1))), (a13, .inl (ct 0, 8, .inl (ur18.2.1 2)))] H := hP.sub [0, 1, 2, 3, 4, 5, 6] rfl
    have hD : va_D A [(a0, .inr (11, [.int 0, .ref a1, .ref a2, .ref a3, .ref a4, .ref a5, .int n0_6, .int n0_7, .int n0_8, .int n0_9, .int n0_10, .long l0_11, .int n0_12, .int n0_13, .int n0_14, .int n0_15, .ref a6, .ref a7, .ref a8, .ref a9, .ref a10, .ref a11, .ref a12, .ref a13, .int (ur18.1 0), .int (ur18.1 1), .int (ur18.1 2), .int (ur18.1 3), .ref a14, .int n0_29, .int n0_30])), (a7, .inl (ct 0, 15, .inl f7)), (a8, .inl (ct 0, 200, .inl f8)), (a9, .inl (ct 0, 1000, .inl f9)), (a11, .inl (ct 0, 8, .inl (ur18.2.1 0))), (a12, .inl (ct 0, 8, .inl (ur18.2.1 1))), (a13, .inl (ct 0, 8, .inl (ur18.2.1 2)))] := hD.sub [0, 1, 2, 3, 4, 5, 6] (by decide) rfl
    obtain ⟨p_6, p_7, -⟩ := wr18
    refine lv_iconst (v := (-1)) hx hb dX11_covet_21 (by decide) ?_
    refine lv_istore_n (lv' := [(2, .int (-1)), (0, .ref a0), (1, .int p0)]) hx hb dX11_covet_22 rfl hl (by decide) rfl (fun ls hl => ?_)
    refine lv_aload_n hx hb dX11_covet_23 rfl (lv_at hl 1 rfl) ?_
    refine lv_iload_n hx hb dX11_covet_24 rfl (lv_at hl 2 rfl) ?_
    refine ro_calli (va_runV (As := [.int p0]) (rest := []) ⟨hx, hb, hml, hown, hts⟩ (a_X11_powerOf l G ct a0 (0 : Int32) a1 a2 a3 a4 a5 n0_6 n0_7 n0_8 n0_9 n0_10 l0_11 n0_12 n0_13 n0_14 n0_15 a6 a7 a8 a9 a10 a11 a12 a13 (ur18.1 0) (ur18.1 1) (ur18.1 2) (ur18.1 3) a14 n0_29 n0_30 f7 f8 (ur18.2.1 0) p0 hp_n0_6 hp_f7 hp_f8 p_6) (cwV 1 hts gX11_covet_X11_powerOf rfl rfl rfl (by decide +kernel) ⟨Nat.le_of_ble_eq_true rfl, Nat.le_of_ble_eq_true rfl⟩) (ro_preV 11 0 hK (hP.sub [0, 1, 2, 4] rfl) rfl rfl) rfl rfl hl.1 rfl (lv_room (Nat.le_of_ble_eq_true rfl)) dX11_covet_25 ⟨Nat.zero_le _, Nat.zero_le _⟩) hS hP (fun r25 H locs wr25 hP hS => ?_)
    refine lv_istore_n (lv' := [(3, .int r25), (2, .int (-1)), (0, .ref a0), (1, .int p0)]) hx hb dX11_covet_28 rfl hl (by decide) rfl (fun ls hl => ?_)
    refine lv_iconst (v := 0) hx hb dX11_covet_29 (by decide) ?_
    refine lv_istore (lv' := [(4, .int 0), (3, .int r25), (2, .int (-1)), (0, .ref a0), (1, .int p0)]) hx hb dX11_covet_30 hl (by decide) rfl (fun ls hl => ?_)
    have j32 : ∀ (n : Nat) (x32_2 : Int32) (x32_3 : Int32) (x32_4 : Int32) (f32_4 : Nat → Int32) (H : Heap) (locs : List Loc) (ls : Array Slot), 2147483648 ≤ x32_4.toInt + (n : Int) → rg (-1) 7 x32_2 → rg 0 8 x32_4 → ar (-1) 7 f32_4 → va_P G vwCl [(a0, .inr (11, [.int 0, .ref a1, .ref a2, .ref a3, .ref a4, .ref a5, .int n0_6, .int n0_7, .int n0_8, .int n0_9, .int n0_10, .long l0_11, .int n0_12, .int n0_13, .int n0_14, .int n0_15, .ref a6, .ref a7, .ref a8, .ref a9, .ref a10, .ref a11, .ref a12, .ref a13, .int (ur18.1 0), .int (ur18.1 1), .int (ur18.1 2), .int (ur18.1 3), .ref a14, .int n0_29, .int n0_30])), (a7, .inl (ct 0, 15, .inl f7)), (a8, .inl (ct 0, 200, .inl f8)), (a9, .inl (ct 0, 1000, .inl f9)), (a11, .inl (ct 0, 8, .inl f32_4)), (a12, .inl (ct 0, 8, .inl (ur18.2.1 1))), (a13, .inl (ct 0, 8, .inl (ur18.2.1 2)))] H → va_D A [(a0, .inr (11, [.int 0, .ref a1, .ref a2, .ref a3, .ref a4, .ref a5, .int n0_6, .int n0_7, .int n0_8, .int n0_9, .int n0_10, .long l0_11, .int n0_12, .int n0_13, .int n0_14, .int n0_15, .ref a6, .ref a7, .ref a8, .ref a9, .ref a10, .ref a11, .ref a12, .ref a13, .int (ur18.1 0), .int (ur18.1 1), .int (ur18.1 2), .int (ur18.1 3), .ref a14, .int n0_29, .int n0_30])), (a7, .inl (ct 0, 15, .inl f7)), (a8, .inl (ct 0, 200, .inl f8)), (a9, .inl (ct 0, 1000, .inl f9)), (a11, .inl (ct 0, 8, .inl f32_4)), (a12, .inl (ct 0, 8, .inl (ur18.2.1 1))), (a13, .inl (ct 0, 8, .inl (ur18.2.1 2)))] → va_S A s.heap H locs → lv_has ls 7 [(0, .ref a0), (1, .int p0), (2, .int x32_2), (3, .int x32_3), (4, .int x32_4)] → W p l e (headSpec wsX11_covet ({ frames := 5, cells := 0, slots := 0, locals := 111 })).room s m ([.ref a0, .int p0] : List Value).toArray below meth c H locs 0 0 (MQ below (va_Qi (fun (r : Int32) (u : SU) => rg (-2) 7 r ∧ (r = 0 → rg 0 7 p0) ∧ (r = (-1) → rg 0 7 p0) ∧ (¬ r = (-2) → rg 0 7 p0) ∧ ar (-1) 7 (u.2.1 0) ∧ ar (-1) 7 (u.2.1 2) ∧ rg 0 0 (u.1 0) ∧ True) (fun u t => va_P G vwCl ((fun u : SU => [(a0, .inr (11, [.int (u.1 0), .ref a1, .ref a2, .ref a3, .ref a4, .ref a5, .int n0_6, .int n0_7, .int n0_8, .int n0_9, .int n0_10, .long l0_11, .int n0_12, .int n0_13, .int n0_14, .int n0_15, .ref a6, .ref a7, .ref a8, .ref a9, .ref a10, .ref a11, .ref a12, .ref a13, .int (u.1 1), .int (u.1 2), .int (u.1 3), .int (u.1 4), .ref a14, .int n0_29, .int n0_30])), (a7, .inl (ct 0, 15, .inl f7)), (a8, .inl (ct 0, 200, .inl f8)), (a9, .inl (ct 0, 1000, .inl f9)), (a11, .inl (ct 0, 8, .inl (u.2.1 0))), (a12, .inl (ct 0, 8, .inl (u.2.1 1))), (a13, .inl (ct 0, 8, .inl (u.2.1 2)))]) u) t.heap) A) ([.ref a0, .int p0] : List Value).toArray s 0 0 A) (F0 m 32 ls []) := by
      intro n
      induction n with
      | zero => intro x32_2 x32_3 x32_4 f32_4 H locs ls hn32 hx32_2 hx32_4 hf32_4 hP hD hS hl; exact absurd hn32 (by have := Int32.toInt_lt x32_4; have := Int32.le_toInt x32_4; omega)
      | succ n ih32 =>
        intro x32_2 x32_3 x32_4 f32_4 H locs ls hn32 hx32_2 hx32_4 hf32_4 hP hD hS hl
        refine lv_iload hx hb dX11_covet_32 (lv_at hl 4 rfl) ?_
        refine lv_aload_n hx hb dX11_covet_34 rfl (lv_at hl 0 rfl) ?_
        refine va_get (D := G) (ci := 11) (v := .ref a7) (C := RX11) (T := TX11) (N := 31) hx hb hts (by decide +kernel) hown hK.1 hP 0 rfl rfl 17 (by decide) (hts (.fieldLink RX11 34 "CardHolderModel" "has" "[I") (by decide +kernel)) (fun _ h9 => h9) rfl dX11_covet_35 ?_
        refine lv_iconst (v := 1) hx hb dX11_covet_38 (by decide) ?_
        refine va_iald hx hb hK.1 hP 1 0 rfl rfl (in_lit (by decide)) dX11_covet_39 ?_
        refine lv_topi (fun z39 gz39 => ?_)
        have hz39 : rg 0 8 z39 := by rw [gz39]; exact (hp_f7.1 0)
        refine lv_icmp_ge (tgt := 106) hx hb dX11_covet_40 (by decide) (fun c40 => ?_) (fun c40 => ?_)
        · refine lv_iload_n hx hb dX11_covet_106 rfl (lv_at hl 2 rfl) ?_
          exact W.iret (v := x32_2) hx hb hr (fun t ht hW => ⟨⟨x32_2, (fun k => ([0, ur18.1 0, ur18.1 1, ur18.1 2, ur18.1 3] : List Int32).getD k 0, fun k => ([f32_4, ur18.2.1 1, ur18.2.1 2] : List (Nat → Int32)).getD k (fun _ => 0), fun k => ([] : List (Nat → Int64)).getD k (fun _ => 0)), rfl, ⟨(rg_w (c := (-2)) (d := 7) hx32_2 (by decide)), (fun _ => h_5), (fun _ => h_5), (fun _ => h_5), hf32_4, p_7, (rgn 0 (x := 0) (by decide)), trivial⟩, hp_at ht hP⟩, hS.F ht⟩) hS.2.2 dX11_covet_107
        · have h_8 : rg 0 7 x32_4 := r_lt_l_i (nle_i c40) hx32_4 hz39 (by decide)
          have h_9 : rg 1 8 z39 := r_lt_r_i (nle_i c40) hx32_4 hz39 (by decide)
          refine lv_aload_n hx hb dX11_covet_43 rfl (lv_at hl 0 rfl) ?_
          refine va_get (D := G) (ci := 11) (v := .ref a11) (C := RX11) (T := TX11) (N := 31) hx hb hts (by decide +kernel) hown hK.1 hP 0 rfl rfl 21 (by decide) (hts (.fieldLink RX11 47 "CardHolderModel" "holder" "[I") (by decide +kernel)) (fun _ h9 => h9) rfl dX11_covet_44 ?_
          refine lv_iload hx hb dX11_covet_47 (lv_at hl 4 rfl) ?_
          refine va_iald hx hb hK.1 hP 4 0 rfl rfl (in_rg h_8 (by decide)) dX11_covet_49 ?_
          refine lv_topi (fun z49 gz49 => ?_)
          have hz49 : rg (-1) 7 z49 := by rw [gz49]; exact hf32_4 _
          refine lv_istore (lv' := [(5, .int z49), (0, .ref a0), (1, .int p0), (2, .int x32_2), (3, .int x32_3), (4, .int x32_4)]) hx hb dX11_covet_50 hl (by decide) rfl (fun ls hl => ?_)
          refine lv_iload hx hb dX11_covet_52 (lv_at hl 0 rfl) ?_
          refine lv_iload_n hx hb dX11_covet_54 rfl (lv_at hl 2 rfl) ?_
          have j100 : ∀ (x100_2 : Int32) (x100_3 : Int32) (f100_4 : Nat → Int32) (H : Heap) (locs : List Loc) (ls : Array Slot), rg (-1) 7 x100_2 → ar (-1) 7 f100_4 → va_P G vwCl [(a0, .inr (11, [.int 0, .ref a1, .ref a2, .ref a3, .ref a4, .ref a5, .int n0_6, .int n0_7, .int n0_8, .int n0_9, .int n0_10, .long l0_11, .int n0_12, .int n0_13, .int n0_14, .int n0_15, .ref a6, .ref a7, .ref a8, .ref a9, .ref a10, .ref a11, .ref a12, .ref a13, .int (ur18.1 0), .int (ur18.1 1), .int (ur18.1 2), .int (ur18.1 3), .ref a14, .int n0_29, .int n0_30])), (a7, .inl (ct 0, 15, .inl f7)), (a8, .inl (ct 0, 200, .inl f8)), (a9, .inl (ct 0, 1000, .inl f9)), (a11, .inl (ct 0, 8, .inl f100_4)), (a12, .inl (ct 0, 8, .inl (ur18.2.1 1))), (a13, .inl (ct 0, 8, .inl (ur18.2.1 2)))] H → va_D A [(a0, .inr (11, [.int 0, .ref a1, .ref a2, .ref a3, .ref a4, .ref a5, .int n0_6, .int n0_7, .int n0_8, .int n0_9, .int n0_10, .long l0_11, .int n0_12, .int n0_13, .int n0_14, .int n0_15, .ref a6, .ref a7, .ref a8, .ref a9, .ref a10, .ref a11, .ref a12, .ref a13, .int (ur18.1 0), .int (ur18.1 1), .int (ur18.1 2), .int (ur18.1 3), .ref a14, .int n0_29, .int n0_30])), (a7, .inl (ct 0, 15, .inl f7)), (a8, .inl (ct 0, 200, .inl f8)), (a9, .inl (ct 0, 1000, .inl f9)), (a11, .inl (ct 0, 8, .inl f100_4)), (a12, .inl (ct 0, 8, .inl (ur18.2.1 1))), (a13, .inl (ct 0, 8, .inl (ur18.2.1 2)))] → va_S A s.heap H locs → lv_has ls 7 [(0, .ref a0), (1, .int p0), (2, .int x100_2), (3, .int x100_3), (4, .int x32_4), (5, .int z49)] → W p l e (headSpec wsX11_covet ({ frames := 5, cells := 0, slots := 0, locals := 111 })).room s m ([.ref a0, .int p0] : List Value).toArray below meth c H locs 0 0 (MQ below (va_Qi (fun (r : Int32) (u : SU) => rg (-2) 7 r ∧ (r = 0 → rg 0 7 p0) ∧ (r = (-1) → rg 0 7 p0) ∧ (¬ r = (-2) → rg 0 7 p0) ∧ ar (-1) 7 (u.2.1 0) ∧ ar (-1) 7 (u.2.1 2) ∧ rg 0 0 (u.1 0) ∧ True) (fun u t => va_P G vwCl ((fun u : SU => [(a0, .inr (11, [.int (u.1 0), .ref a1, .ref a2, .ref a3, .ref a4, .ref a5, .int n0_6, .int n0_7, .int n0_8, .int n0_9, .int n0_10, .long l0_11, .int n0_12, .int n0_13, .int n0_14, .int n0_15, .ref a6, .ref a7, .ref a8, .ref a9, .ref a10, .ref a11, .ref a12, .ref a13, .int (u.1 1), .int (u.1 2), .int (u.1 3), .int (u.1 4), .ref a14, .int n0_29, .int n0_30])), (a7, .inl (ct 0, 15, .inl f7)), (a8, .inl (ct 0, 200, .inl f8)), (a9, .inl (ct 0, 1000, .inl f9)), (a11, .inl (ct 0, 8, .inl (u.2.1 0))), (a12, .inl (ct 0, 8, .inl (u.2.1 1))), (a13, .inl (ct 0, 8, .inl (u.2.1 2)))]) u) t.heap) A) ([.ref a0, .int p0] : List Value).toArray s 0 0 A) (F0 m 100 ls []) := by
            intro x100_2 x100_3 f100_4 H locs ls hx100_2 hf100_4 hP hD hS hl
            obtain ⟨z100, qz100⟩ : ∃ y : Int32, y = x32_4 + Int32.ofInt 1 := ⟨_, rfl⟩
            obtain ⟨hz100, ez100⟩ := inc_z (e := 1) (f := 8) h_8 qz100 (by decide)
            refine lv_iinc (v := z100) (lv' := [(4, .int z100), (0, .ref a0), (1, .int p0), (2, .int x100_2), (3, .int x100_3), (5, .int z49)]) hx hb dX11_covet_100 hl (k := 4) rfl (qz100.symm) (by decide) rfl (fun ls hl => ?_)
            refine lv_goto (tgt := 32) hx hb dX11_covet_103 (by decide) ?_
            exact ih32 x100_2 x100_3 z100 f100_4 _ _ ls (by have q := hn32; have := ez100; omega) hx100_2 (rg_w (c := 0) (d := 8) hz100 (by decide)) hf100_4 hP hD hS (lv_sub hl [1, 2, 3, 4, 0] rfl)
          refine lv_icmp_ne (tgt := 61) hx hb dX11_covet_55 (by decide) (fun c55 => ?_) (fun c55 => ?_)
          · refine lv_aload_n hx hb dX11_covet_61 rfl (lv_at hl 1 rfl) ?_
            refine va_get (D := G) (ci := 11) (v := .ref a11) (C := RX11) (T := TX11) (N := 31) hx hb hts (by decide +kernel) hown hK.1 hP 0 rfl rfl 21 (by decide) (hts (.fieldLink RX11 47 "CardHolderModel" "holder" "[I") (by decide +kernel)) (fun _ h9 => h9) rfl dX11_covet_62 ?_
            refine lv_iload hx hb dX11_covet_65 (lv_at hl 5 rfl) ?_
            refine lv_iload_n hx hb dX11_covet_67 rfl (lv_at hl 2 rfl) ?_
            refine va_iast hx hb hK.1 hP hD hS 4 0 rfl rfl (in_rg h_8 (by decide)) dX11_covet_68 (fun H locs hP hD hS => ?_)
            have h_10 : ar (-1) 7 (upd f32_4 x32_4.toNatClampNeg p0) := ar_u hf32_4 (rg_w (c := (-1)) (d := 7) h_5 (by decide))
            refine lv_aload_n hx hb dX11_covet_69 rfl (lv_at hl 1 rfl) ?_
            refine lv_iload_n hx hb dX11_covet_70 rfl (lv_at hl 2 rfl) ?_
            refine ro_calli (va_runV (As := [.int p0]) (rest := []) ⟨hx, hb, hml, hown, hts⟩ (a_X11_powerOf l G ct a0 (0 : Int32) a1 a2 a3 a4 a5 n0_6 n0_7 n0_8 n0_9 n0_10 l0_11 n0_12 n0_13 n0_14 n0_15 a6 a7 a8 a9 a10 a11 a12 a13 (ur18.1 0) (ur18.1 1) (ur18.1 2) (ur18.1 3) a14 n0_29 n0_30 f7 f8 (upd f32_4 x32_4.toNatClampNeg p0) p0 hp_n0_6 hp_f7 hp_f8 h_10) (cwV 1 hts gX11_covet_X11_powerOf rfl rfl rfl (by decide +kernel) ⟨Nat.le_of_ble_eq_true rfl, Nat.le_of_ble_eq_true rfl⟩) (ro_preV 11 0 hK (hP.sub [0, 1, 2, 4] rfl) rfl rfl) rfl rfl hl.1 rfl (lv_room (Nat.le_of_ble_eq_true rfl)) dX11_covet_71 ⟨Nat.zero_le _, Nat.zero_le _⟩) hS hP (fun r71 H locs wr71 hP hS => ?_)
            refine lv_istore (lv' := [(6, .int r71), (5, .int z49), (0, .ref a0), (1, .int p0), (2, .int x32_2), (3, .int x32_3), (4, .int x32_4)]) hx hb dX11_covet_74 hl (by decide) rfl (fun ls hl => ?_)
            refine lv_aload_n hx hb dX11_covet_76 rfl (lv_at hl 2 rfl) ?_
            refine va_get (D := G) (ci := 11) (v := .ref a11) (C := RX11) (T := TX11) (N := 31) hx hb hts (by decide +kernel) hown hK.1 hP 0 rfl rfl 21 (by decide) (hts (.fieldLink RX11 47 "CardHolderModel" "holder" "[I") (by decide +kernel)) (fun _ h9 => h9) rfl dX11_covet_77 ?_
            refine lv_iload hx hb dX11_covet_80 (lv_at hl 6 rfl) ?_
            refine lv_iload hx hb dX11_covet_82 (lv_at hl 1 rfl) ?_
            refine va_iast hx hb hK.1 hP hD hS 4 0 rfl rfl (in_rg h_8 (by decide)) dX11_covet_84 (fun H locs hP hD hS => ?_)
            have h_11 : ar (-1) 7 (upd (upd f32_4 x32_4.toNatClampNeg p0) x32_4.toNatClampNeg z49) := ar_u h_10 hz49
            refine lv_iload hx hb dX11_covet_85 (lv_at hl 0 rfl) ?_
            refine lv_iload_n hx hb dX11_covet_87 rfl (lv_at hl 5 rfl) ?_
            refine lv_icmp_gt (tgt := 94) hx hb dX11_covet_88 (by decide) (fun c88 => ?_) (fun c88 => ?_)
            · have h_12 : rg (-2147483648) 2147483646 x32_3 := r_lt_l_i c88 (rg_t x32_3) (rg_t r71) (by decide)
              have h_13 : rg (-2147483647) 2147483647 r71 := r_lt_r_i c88 (rg_t x32_3) (rg_t r71) (by decide)
              refine lv_iload hx hb dX11_covet_94 (lv_at hl 6 rfl) ?_
              refine lv_istore_n (lv' := [(2, .int x32_4), (6, .int r71), (5, .int z49), (0, .ref a0), (1, .int p0), (3, .int x32_3), (4, .int x32_4)]) hx hb dX11_covet_96 rfl hl (by decide) rfl (fun ls hl => ?_)
              refine lv_iload hx hb dX11_covet_97 (lv_at hl 1 rfl) ?_
              refine lv_istore_n (lv' := [(3, .int r71), (2, .int x32_4), (6, .int r71), (5, .int z49), (0, .ref a0), (1, .int p0), (4, .int x32_4)]) hx hb dX11_covet_99 rfl hl (by decide) rfl (fun ls hl => ?_)
              exact j100 x32_4 r71 (upd (upd f32_4 x32_4.toNatClampNeg p0) x32_4.toNatClampNeg z49) _ _ ls (rg_w (c := (-1)) (d := 7) h_8 (by decide)) h_11 hP hD hS (lv_sub hl [4, 5, 1, 0, 6, 3] rfl)
            · refine lv_goto (tgt := 100) hx hb dX11_covet_91 (by decide) ?_
              exact j100 x32_2 x32_3 (upd (upd f32_4 x32_4.toNatClampNeg p0) x32_4.toNatClampNeg z49) _ _ ls hx32_2 h_11 hP hD hS (lv_sub hl [2, 3, 4, 5, 6, 1] rfl)
          · have h_14 : rg 0 7 z49 := r_eq_l_i (e := 0) (f := 7) c55 hz49 h_5 (by decide)
            refine lv_goto (tgt := 100) hx hb dX11_covet_58 (by decide) ?_
            exact j100 x32_2 x32_3 f32_4 _ _ ls hx32_2 hf32_4 hP hD hS (lv_sub hl [1, 2, 3, 4, 5, 0] rfl)
    exact j32 4294967296 ((-1) : Int32) r25 (0 : Int32) (ur18.2.1 0) _ _ ls (ms_e (0 : Int32)) (rg_w (c := (-1)) (d := 7) (rgn (-1) (x := (-1)) (by decide)) (by decide)) (rg_w (c := 0) (d := 8) (rgn 0 (x := 0) (by decide)) (by decide)) p_6 hP hD hS (lv_sub hl [3, 4, 2, 1, 0] rfl)
  · have h_15 : rg 0 0 r8 := r_eq_l_i (e := 0) (f := 0) c11 p_1 (rgn 0 (x := 0) (by decide)) (by decide)
    refine lv_bipush (v := (-2)) hx hb dX11_covet_14 (by decide) ?_
    exact W.iret (v := (-2)) hx hb hr (fun t ht hW => ⟨⟨(-2), (fun k => ([0, n0_24, n0_25, n0_26, n0_27] : List Int32).getD k 0, fun k => ([f11, f12, f13] : List (Nat → Int32)).getD k (fun _ => 0), fun k => ([] : List (Nat → Int64)).getD k (fun _ => 0)), rfl, ⟨(rg_w (c := (-2)) (d := 7) (rgn (-2) (x := (-2)) (by decide)) (by decide)), (fun hq => absurd hq (rne (rgn (-2) (x := (-2)) (by decide)) (y := 0) (c := 0) (by decide) (by decide))), (fun hq => absurd hq (rne (rgn (-2) (x := (-2)) (by decide)) (y := (-1)) (c := (-1)) (by decide) (by decide))), (fun hq => absurd (req (rgn (-2) (x := (-2)) (by decide)) (y := (-2)) (by decide)) hq), hp_f11, hp_f13, (rgn 0 (x := 0) (by decide)), trivial⟩, hp_at ht hP⟩, hS.F ht⟩) hS.2.2 dX11_covet_16

set_option maxHeartbeats 4000000 in
set_option maxRecDepth 100000 in
theorem a_X11_whyNotJudge (l : Launch) (G : va_G) (ct : Nat → ClassId) (a0 : Nat) (n0_0 : Int32) (a1 : Nat) (a2 : Nat) (a3 : Nat) (a4 : Nat) (a5 : Nat) (n0_6 : Int32) (n0_7 : Int32) (n0_8 : Int32) (n0_9 : Int32) (n0_10 : Int32) (l0_11 : Int64) (n0_12 : Int32) (n0_13 : Int32) (n0_14 : Int32) (n0_15 : Int32) (a6 : Nat) (a7 : Nat) (a8 : Nat) (a9 : Nat) (a10 : Nat) (a11 : Nat) (a12 : Nat) (a13 : Nat) (n0_24 : Int32) (n0_25 : Int32) (n0_26 : Int32) (n0_27 : Int32) (a14 : Nat) (n0_29 : Int32) (n0_30 : Int32) (f1 : Nat → Int32) (f2 : Nat → Int32) (f3 : Nat → Int64) (f6 : Nat → Int32) (f7 : Nat → Int32) (p0 : Int32) (hp_f2 : ar 0 60 f2) (hp_n0_6 : rg 0 900 n0_6) (hp_f7 : hsI f7) : Met l yX11_whyNotJudge wsX11_whyNotJudge ({ frames := 2, cells := 0, slots := 0, locals := 47 }) (va_Pc [.ref a0, .int p0] (roP G ct [(a0, .inr (11, [.int n0_0, .ref a1, .ref a2, .ref a3, .ref a4, .ref a5, .int n0_6, .int n0_7, .int n0_8, .int n0_9, .int n0_10, .long l0_11, .int n0_12, .int n0_13, .int n0_14, .int n0_15, .ref a6, .ref a7, .ref a8, .ref a9, .ref a10, .ref a11, .ref a12, .ref a13, .int n0_24, .int n0_25, .int n0_26, .int n0_27, .ref a14, .int n0_29, .int n0_30])), (a1, .inl (ct 0, 4, .inl f1)), (a2, .inl (ct 0, 4, .inl f2)), (a3, .inl (ct 3, 240, .inr (.inl f3))), (a6, .inl (ct 0, 5, .inl f6)), (a7, .inl (ct 0, 15, .inl f7))])) (roQ (fun r => rg (-6) 0 r ∧ (r = 0 → rg 0 3 p0) ∧ (¬ r = (-2) → rg 0 3 p0) ∧ (r = 0 → okj f3 p0 (f2 p0.toNatClampNeg).toInt) ∧ True)) 0 0 no := by
  refine Met.ofW (cc := cX11_whyNotJudge) (maxL := 5) (ret := (some .int)) (by decide) rfl ?_
  intro p e s m args below meth c s₁ B hml hv
  obtain ⟨rfl, hP, hK⟩ := hv
  have hx := B.exec
  have hb := B.bytes
  have hr := B.returns
  have hts := atoms_spec (ws := wsX11_whyNotJudge) B.pre
  have hown : s.vm.findClass RX11 = some m.cls := findClass_of_methodNamed B.named
  have hlocks := B.notSynchronized
  have hS : va_S no s.heap s.heap [] := va_S.rf
  have hl := lv_entry ([.ref a0, .int p0]) (n := 5) (Nat.le_of_ble_eq_true rfl)
  rw [lg_entry_eq]
  generalize (lg_sl ([.ref a0, .int p0]) ++ List.replicate (5 - (lg_sl ([.ref a0, .int p0])).length) Slot.unset).toArray = ls at hl ⊢
  have hl : lv_has ls 5 [(0, .ref a0), (1, .int p0)] := hl
  refine lv_iload_n hx hb dX11_whyNotJudge_0 rfl (lv_at hl 1 rfl) ?_
  refine ro_calli (va_runS (As := [.int p0]) (rest := []) ⟨hx, hb, hml, hown, hts⟩ (a_X11_isSlot l G ct p0) (va_cwS 1 hts gX11_whyNotJudge_X11_isSlot rfl rfl rfl (by decide +kernel) ⟨Nat.le_of_ble_eq_true rfl, Nat.le_of_ble_eq_true rfl⟩) (ro_pre hK (hP.sub [] rfl)) rfl rfl hl.1 rfl (lv_room (Nat.le_of_ble_eq_true rfl)) dX11_whyNotJudge_1 ⟨Nat.zero_le _, Nat.zero_le _⟩) hS hP (fun r1 H locs wr1 hP hS => ?_)
  obtain ⟨p_1, p_2, -⟩ := wr1
  refine lv_if_eq (tgt := 14) hx hb dX11_whyNotJudge_4 (by decide) (fun c4 => ?_) (fun c4 => ?_)
  · have h_3 : rg 0 0 r1 := r_eq_l_i (e := 0) (f := 0) c4 p_1 (rgn 0 (x := 0) (by decide)) (by decide)
    refine lv_bipush (v := (-2)) hx hb dX11_whyNotJudge_14 (by decide) ?_
    exact W.iret (v := (-2)) hx hb hr (fun t ht hW => ⟨⟨(-2), (), rfl, ⟨(rg_w (c := (-6)) (d := 0) (rgn (-2) (x := (-2)) (by decide)) (by decide)), (fun hq => absurd hq (rne (rgn (-2) (x := (-2)) (by decide)) (y := 0) (c := 0) (by decide) (by decide))), (fun hq => absurd (req (rgn (-2) (x := (-2)) (by decide)) (y := (-2)) (by decide)) hq), (fun hq => absurd hq (rne (rgn (-2) (x := (-2)) (by decide)) (y := 0) (c := 0) (by decide) (by decide))), trivial⟩, trivial⟩, hS.F ht⟩) hS.2.2 dX11_whyNotJudge_16
  · have h_4 : rg 1 1 r1 := r_ne_lo_i c4 p_1 (by decide) (by decide)
    have h_5 : rg 0 3 p0 := (p_2 (rne h_4 (y := 0) (c := 0) (by decide) (by decide)))
    refine lv_aload_n hx hb dX11_whyNotJudge_7 rfl (lv_at hl 0 rfl) ?_
    refine ro_calli (va_runV (As := []) (rest := []) ⟨hx, hb, hml, hown, hts⟩ (a_X11_isCity l G ct a0 n0_0 a1 a2 a3 a4 a5 n0_6 n0_7 n0_8 n0_9 n0_10 l0_11 n0_12 n0_13 n0_14 n0_15 a6 a7 a8 a9 a10 a11 a12 a13 n0_24 n0_25 n0_26 n0_27 a14 n0_29 n0_30 f6 hp_n0_6) (cwV 0 hts gX11_whyNotJudge_X11_isCity rfl rfl rfl (by decide +kernel) ⟨Nat.le_of_ble_eq_true rfl, Nat.le_of_ble_eq_true rfl⟩) (ro_preV 11 0 hK (hP.sub [0, 4] rfl) rfl rfl) rfl rfl hl.1 rfl (lv_room (Nat.le_of_ble_eq_true rfl)) dX11_whyNotJudge_8 ⟨Nat.zero_le _, Nat.zero_le _⟩) hS hP (fun r8 H locs wr8 hP hS => ?_)
    obtain ⟨p_6, -⟩ := wr8
    refine lv_if_ne (tgt := 17) hx hb dX11_whyNotJudge_11 (by decide) (fun c11 => ?_) (fun c11 => ?_)
    · have h_7 : rg 1 1 r8 := r_ne_lo_i c11 p_6 (by decide) (by decide)
      refine lv_aload_n hx hb dX11_whyNotJudge_17 rfl (lv_at hl 0 rfl) ?_
      refine va_get (D := G) (ci := 11) (v := .ref a1) (C := RX11) (T := TX11) (N := 31) hx hb hts (by decide +kernel) hown hK.1 hP 0 rfl rfl 1 (by decide) (hts (.fieldLink RX11 7 "CardHolderModel" "width" "[I") (by decide +kernel)) (fun _ h9 => h9) rfl dX11_whyNotJudge_18 ?_
      refine lv_iload_n hx hb dX11_whyNotJudge_21 rfl (lv_at hl 1 rfl) ?_
      refine va_iald hx hb hK.1 hP 1 0 rfl rfl (in_rg h_5 (by decide)) dX11_whyNotJudge_22 ?_
      refine lv_topi (fun z22 gz22 => ?_)
      refine lv_iconst (v := (-1)) hx hb dX11_whyNotJudge_23 (by decide) ?_
      refine lv_icmp_ne (tgt := 30) hx hb dX11_whyNotJudge_24 (by decide) (fun c24 => ?_) (fun c24 => ?_)
      · refine lv_aload_n hx hb dX11_whyNotJudge_30 rfl (lv_at hl 0 rfl) ?_
        refine va_get (D := G) (ci := 11) (v := .ref a2) (C := RX11) (T := TX11) (N := 31) hx hb hts (by decide +kernel) hown hK.1 hP 0 rfl rfl 2 (by decide) (hts (.fieldLink RX11 13 "CardHolderModel" "many" "[I") (by decide +kernel)) (fun _ h9 => h9) rfl dX11_whyNotJudge_31 ?_
        refine lv_iload_n hx hb dX11_whyNotJudge_34 rfl (lv_at hl 1 rfl) ?_
        refine va_iald hx hb hK.1 hP 2 0 rfl rfl (in_rg h_5 (by decide)) dX11_whyNotJudge_35 ?_
        refine lv_topi (fun z35 gz35 => ?_)
        have hz35 : rg 0 60 z35 := by rw [gz35]; exact hp_f2 _
        refine lv_iconst (v := 3) hx hb dX11_whyNotJudge_36 (by decide) ?_
        refine lv_irem hx hb dX11_whyNotJudge_37 (by decide) ?_
        refine nm_rem (f := 2) hz35 (rgn 3 (x := 3) (by decide)) (by decide) (fun z37 hz37 tz37 => ?_)
        refine lv_if_eq (tgt := 44) hx hb dX11_whyNotJudge_38 (by decide) (fun c38 => ?_) (fun c38 => ?_)
        · have h_8 : rg 0 0 z37 := r_eq_l_i (e := 0) (f := 0) c38 hz37 (rgn 0 (x := 0) (by decide)) (by decide)
          refine lv_iconst (v := 0) hx hb dX11_whyNotJudge_44 (by decide) ?_
          refine lv_istore_n (lv' := [(2, .int 0), (0, .ref a0), (1, .int p0)]) hx hb dX11_whyNotJudge_45 rfl hl (by decide) rfl (fun ls hl => ?_)
          have j46 : ∀ (n : Nat) (x46_2 : Int32) (H : Heap) (locs : List Loc) (ls : Array Slot), 2147483648 ≤ x46_2.toInt + (n : Int) → rg 0 62 x46_2 → okj f3 p0 (x46_2).toInt → (x46_2).toInt % 3 = 0 → va_P G vwCl [(a0, .inr (11, [.int n0_0, .ref a1, .ref a2, .ref a3, .ref a4, .ref a5, .int n0_6, .int n0_7, .int n0_8, .int n0_9, .int n0_10, .long l0_11, .int n0_12, .int n0_13, .int n0_14, .int n0_15, .ref a6, .ref a7, .ref a8, .ref a9, .ref a10, .ref a11, .ref a12, .ref a13, .int n0_24, .int n0_25, .int n0_26, .int n0_27, .ref a14, .int n0_29, .int n0_30])), (a1, .inl (ct 0, 4, .inl f1)), (a2, .inl (ct 0, 4, .inl f2)), (a3, .inl (ct 3, 240, .inr (.inl f3))), (a6, .inl (ct 0, 5, .inl f6)), (a7, .inl (ct 0, 15, .inl f7))] H → va_S no s.heap H locs → lv_has ls 5 [(0, .ref a0), (1, .int p0), (2, .int x46_2)] → W p l e (headSpec wsX11_whyNotJudge ({ frames := 2, cells := 0, slots := 0, locals := 47 })).room s m ([.ref a0, .int p0] : List Value).toArray below meth c H locs 0 0 (MQ below (roQ (fun r => rg (-6) 0 r ∧ (r = 0 → rg 0 3 p0) ∧ (¬ r = (-2) → rg 0 3 p0) ∧ (r = 0 → okj f3 p0 (f2 p0.toNatClampNeg).toInt) ∧ True)) ([.ref a0, .int p0] : List Value).toArray s 0 0 no) (F0 m 46 ls []) := by
            intro n
            induction n with
            | zero => intro x46_2 H locs ls hn46 hx46_2 hj46 hm46 hP hS hl; exact absurd hn46 (by have := Int32.toInt_lt x46_2; have := Int32.le_toInt x46_2; omega)
            | succ n ih46 =>
              intro x46_2 H locs ls hn46 hx46_2 hj46 hm46 hP hS hl
              refine lv_iload_n hx hb dX11_whyNotJudge_46 rfl (lv_at hl 2 rfl) ?_
              refine lv_aload_n hx hb dX11_whyNotJudge_47 rfl (lv_at hl 0 rfl) ?_
              refine va_get (D := G) (ci := 11) (v := .ref a2) (C := RX11) (T := TX11) (N := 31) hx hb hts (by decide +kernel) hown hK.1 hP 0 rfl rfl 2 (by decide) (hts (.fieldLink RX11 13 "CardHolderModel" "many" "[I") (by decide +kernel)) (fun _ h9 => h9) rfl dX11_whyNotJudge_48 ?_
              refine lv_iload_n hx hb dX11_whyNotJudge_51 rfl (lv_at hl 1 rfl) ?_
              refine va_iald hx hb hK.1 hP 2 0 rfl rfl (in_rg h_5 (by decide)) dX11_whyNotJudge_52 ?_
              refine ix_i (y := z35) gz35.symm ?_
              refine lv_icmp_ge (tgt := 169) hx hb dX11_whyNotJudge_53 (by decide) (fun c53 => ?_) (fun c53 => ?_)
              · refine lv_iconst (v := 0) hx hb dX11_whyNotJudge_169 (by decide) ?_
                exact W.iret (v := 0) hx hb hr (fun t ht hW => ⟨⟨0, (), rfl, ⟨(rg_w (c := (-6)) (d := 0) (rgn 0 (x := 0) (by decide)) (by decide)), (fun _ => h_5), (fun _ => h_5), (fun _ => by rw [← gz35]; exact okj_t hj46 c53), trivial⟩, trivial⟩, hS.F ht⟩) hS.2.2 dX11_whyNotJudge_170
              · have h_9 : rg 0 59 x46_2 := r_lt_l_i (nle_i c53) hx46_2 hz35 (by decide)
                have h_10 : rg 1 60 z35 := r_lt_r_i (nle_i c53) hx46_2 hz35 (by decide)
                refine lv_bipush (v := 60) hx hb dX11_whyNotJudge_56 (by decide) ?_
                refine lv_iload_n hx hb dX11_whyNotJudge_58 rfl (lv_at hl 1 rfl) ?_
                refine lv_imul hx hb dX11_whyNotJudge_59 ?_
                refine nm_mul (e1 := 0) (f := 180) (rgn 60 (x := 60) (by decide)) h_5 (by decide) (fun z59 hz59 ez59 => ?_)
                refine lv_iload_n hx hb dX11_whyNotJudge_60 rfl (lv_at hl 2 rfl) ?_
                refine lv_iadd hx hb dX11_whyNotJudge_61 ?_
                refine nm_add (e1 := 0) (f := 239) hz59 h_9 (by decide) (fun z61 hz61 ez61 => ?_)
                refine lv_istore_n (lv' := [(3, .int z61), (0, .ref a0), (1, .int p0), (2, .int x46_2)]) hx hb dX11_whyNotJudge_62 rfl hl (by decide) rfl (fun ls hl => ?_)
                refine lv_aload_n hx hb dX11_whyNotJudge_63 rfl (lv_at hl 1 rfl) ?_
                refine va_get (D := G) (ci := 11) (v := .ref a3) (C := RX11) (T := TX11) (N := 31) hx hb hts (by decide +kernel) hown hK.1 hP 0 rfl rfl 3 (by decide) (hts (.fieldLink RX11 16 "CardHolderModel" "cells" "[J") (by decide +kernel)) (fun _ h9 => h9) rfl dX11_whyNotJudge_64 ?_
                refine lv_iload_n hx hb dX11_whyNotJudge_67 rfl (lv_at hl 0 rfl) ?_
                refine va_lald hx hb hK.1 hP 3 3 rfl rfl (in_rg hz61 (by decide)) dX11_whyNotJudge_68 ?_
                refine lv_topl (fun z68 gz68 => ?_)
                refine lv_ldc2 (own := RX11) (v := (-1)) hx hb hown (hts (.constantLong RX11 103 (-1)) (by decide +kernel)) dX11_whyNotJudge_69 ?_
                refine W.lcmp hx hb dX11_whyNotJudge_72 ?_
                refine lb_ne (tgt := 110) hx hb dX11_whyNotJudge_73 (by decide) (fun c73 => ?_) (fun c73 => ?_)
                · refine lv_iconst (v := 0) hx hb dX11_whyNotJudge_110 (by decide) ?_
                  refine lv_istore (lv' := [(4, .int 0), (3, .int z61), (0, .ref a0), (1, .int p0), (2, .int x46_2)]) hx hb dX11_whyNotJudge_111 hl (by decide) rfl (fun ls hl => ?_)
                  refine lv_iload hx hb dX11_whyNotJudge_113 (lv_at hl 0 rfl) ?_
                  refine lv_if_ne (tgt := 163) hx hb dX11_whyNotJudge_115 (by decide) (fun c115 => ?_) (fun c115 => ?_)
                  · exact absurd c115 (by decide)
                  · refine lv_aload_n hx hb dX11_whyNotJudge_118 rfl (lv_at hl 2 rfl) ?_
                    refine lv_aload_n hx hb dX11_whyNotJudge_119 rfl (lv_at hl 2 rfl) ?_
                    refine va_get (D := G) (ci := 11) (v := .ref a3) (C := RX11) (T := TX11) (N := 31) hx hb hts (by decide +kernel) hown hK.1 hP 0 rfl rfl 3 (by decide) (hts (.fieldLink RX11 16 "CardHolderModel" "cells" "[J") (by decide +kernel)) (fun _ h9 => h9) rfl dX11_whyNotJudge_120 ?_
                    refine lv_iload_n hx hb dX11_whyNotJudge_123 rfl (lv_at hl 1 rfl) ?_
                    refine va_lald hx hb hK.1 hP 3 3 rfl rfl (in_rg hz61 (by decide)) dX11_whyNotJudge_124 ?_
                    refine ix_l (y := z68) gz68.symm ?_
                    refine ro_calli (va_runV (As := [.long z68]) (rest := []) ⟨hx, hb, hml, hown, hts⟩ (a_X11_isPerson l G ct a0 n0_0 a1 a2 a3 a4 a5 n0_6 n0_7 n0_8 n0_9 n0_10 l0_11 n0_12 n0_13 n0_14 n0_15 a6 a7 a8 a9 a10 a11 a12 a13 n0_24 n0_25 n0_26 n0_27 a14 n0_29 n0_30 f7 z68 hp_n0_6 hp_f7) (cwV 1 hts gX11_whyNotJudge_X11_isPerson rfl rfl rfl (by decide +kernel) ⟨Nat.le_of_ble_eq_true rfl, Nat.le_of_ble_eq_true rfl⟩) (ro_preV 11 0 hK (hP.sub [0, 5] rfl) rfl rfl) rfl rfl hl.1 rfl (lv_room (Nat.le_of_ble_eq_true rfl)) dX11_whyNotJudge_125 ⟨Nat.zero_le _, Nat.zero_le _⟩) hS hP (fun r125 H locs wr125 hP hS => ?_)
                    obtain ⟨p_11, p_12, -⟩ := wr125
                    refine lv_if_eq (tgt := 160) hx hb dX11_whyNotJudge_128 (by decide) (fun c128 => ?_) (fun c128 => ?_)
                    · have h_13 : rg 0 0 r125 := r_eq_l_i (e := 0) (f := 0) c128 p_11 (rgn 0 (x := 0) (by decide)) (by decide)
                      refine lv_bipush (v := (-2)) hx hb dX11_whyNotJudge_160 (by decide) ?_
                      exact W.iret (v := (-2)) hx hb hr (fun t ht hW => ⟨⟨(-2), (), rfl, ⟨(rg_w (c := (-6)) (d := 0) (rgn (-2) (x := (-2)) (by decide)) (by decide)), (fun _ => h_5), (fun _ => h_5), (fun hq => absurd hq (rne (rgn (-2) (x := (-2)) (by decide)) (y := 0) (c := 0) (by decide) (by decide))), trivial⟩, trivial⟩, hS.F ht⟩) hS.2.2 dX11_whyNotJudge_162
                    · have h_14 : rg 1 1 r125 := r_ne_lo_i c128 p_11 (by decide) (by decide)
                      have h_15 : rl 0 7 z68 := (p_12 (rne h_14 (y := 0) (c := 0) (by decide) (by decide)))
                      refine lv_aload_n hx hb dX11_whyNotJudge_131 rfl (lv_at hl 2 rfl) ?_
                      refine lv_aload_n hx hb dX11_whyNotJudge_132 rfl (lv_at hl 2 rfl) ?_
                      refine va_get (D := G) (ci := 11) (v := .ref a3) (C := RX11) (T := TX11) (N := 31) hx hb hts (by decide +kernel) hown hK.1 hP 0 rfl rfl 3 (by decide) (hts (.fieldLink RX11 16 "CardHolderModel" "cells" "[J") (by decide +kernel)) (fun _ h9 => h9) rfl dX11_whyNotJudge_133 ?_
                      refine lv_iload_n hx hb dX11_whyNotJudge_136 rfl (lv_at hl 1 rfl) ?_
                      refine lv_iconst (v := 1) hx hb dX11_whyNotJudge_137 (by decide) ?_
                      refine lv_iadd hx hb dX11_whyNotJudge_138 ?_
                      refine nm_add (e1 := 1) (f := 240) hz61 (rgn 1 (x := 1) (by decide)) (by decide) (fun z138 hz138 ez138 => ?_)
                      replace ez138 := eqc_r ez138 (c := 1) (by decide)
                      refine va_lald hx hb hK.1 hP 3 3 rfl rfl (in_of (by have := hz138.1; omega) (by have := hm46; have := ez138; have := ez61; have := ez59; have h60 : (60 : Int32).toInt = 60 := (by decide); rw [h60] at *; have := h_9; have := h_5; omega)) dX11_whyNotJudge_139 ?_
                      refine lv_topl (fun z139 gz139 => ?_)
                      refine ro_calli (va_runV (As := [.long z139]) (rest := []) ⟨hx, hb, hml, hown, hts⟩ (a_X11_isPerson l G ct a0 n0_0 a1 a2 a3 a4 a5 n0_6 n0_7 n0_8 n0_9 n0_10 l0_11 n0_12 n0_13 n0_14 n0_15 a6 a7 a8 a9 a10 a11 a12 a13 n0_24 n0_25 n0_26 n0_27 a14 n0_29 n0_30 f7 z139 hp_n0_6 hp_f7) (cwV 1 hts gX11_whyNotJudge_X11_isPerson rfl rfl rfl (by decide +kernel) ⟨Nat.le_of_ble_eq_true rfl, Nat.le_of_ble_eq_true rfl⟩) (ro_preV 11 0 hK (hP.sub [0, 5] rfl) rfl rfl) rfl rfl hl.1 rfl (lv_room (Nat.le_of_ble_eq_true rfl)) dX11_whyNotJudge_140 ⟨Nat.zero_le _, Nat.zero_le _⟩) hS hP (fun r140 H locs wr140 hP hS => ?_)
                      obtain ⟨p_16, p_17, -⟩ := wr140
                      refine lv_if_eq (tgt := 160) hx hb dX11_whyNotJudge_143 (by decide) (fun c143 => ?_) (fun c143 => ?_)
                      · have h_18 : rg 0 0 r140 := r_eq_l_i (e := 0) (f := 0) c143 p_16 (rgn 0 (x := 0) (by decide)) (by decide)
                        refine lv_bipush (v := (-2)) hx hb dX11_whyNotJudge_160 (by decide) ?_
                        exact W.iret (v := (-2)) hx hb hr (fun t ht hW => ⟨⟨(-2), (), rfl, ⟨(rg_w (c := (-6)) (d := 0) (rgn (-2) (x := (-2)) (by decide)) (by decide)), (fun _ => h_5), (fun _ => h_5), (fun hq => absurd hq (rne (rgn (-2) (x := (-2)) (by decide)) (y := 0) (c := 0) (by decide) (by decide))), trivial⟩, trivial⟩, hS.F ht⟩) hS.2.2 dX11_whyNotJudge_162
                      · have h_19 : rg 1 1 r140 := r_ne_lo_i c143 p_16 (by decide) (by decide)
                        have h_20 : rl 0 7 z139 := (p_17 (rne h_19 (y := 0) (c := 0) (by decide) (by decide)))
                        refine lv_aload_n hx hb dX11_whyNotJudge_146 rfl (lv_at hl 2 rfl) ?_
                        refine va_get (D := G) (ci := 11) (v := .ref a3) (C := RX11) (T := TX11) (N := 31) hx hb hts (by decide +kernel) hown hK.1 hP 0 rfl rfl 3 (by decide) (hts (.fieldLink RX11 16 "CardHolderModel" "cells" "[J") (by decide +kernel)) (fun _ h9 => h9) rfl dX11_whyNotJudge_147 ?_
                        refine lv_iload_n hx hb dX11_whyNotJudge_150 rfl (lv_at hl 1 rfl) ?_
                        refine lv_iconst (v := 2) hx hb dX11_whyNotJudge_151 (by decide) ?_
                        refine lv_iadd hx hb dX11_whyNotJudge_152 ?_
                        refine nm_add (e1 := 2) (f := 241) hz61 (rgn 2 (x := 2) (by decide)) (by decide) (fun z152 hz152 ez152 => ?_)
                        replace ez152 := eqc_r ez152 (c := 2) (by decide)
                        refine va_lald hx hb hK.1 hP 3 3 rfl rfl (in_of (by have := hz152.1; omega) (by have := hm46; have := ez152; have := ez61; have := ez59; have h60 : (60 : Int32).toInt = 60 := (by decide); rw [h60] at *; have := h_9; have := h_5; omega)) dX11_whyNotJudge_153 ?_
                        refine lv_topl (fun z153 gz153 => ?_)
                        refine ro_calli (va_runS (As := [.long z153]) (rest := []) ⟨hx, hb, hml, hown, hts⟩ (a_X11_isDeed l G ct z153) (va_cwS 1 hts gX11_whyNotJudge_X11_isDeed rfl rfl rfl (by decide +kernel) ⟨Nat.le_of_ble_eq_true rfl, Nat.le_of_ble_eq_true rfl⟩) (ro_pre hK (hP.sub [] rfl)) rfl rfl hl.1 rfl (lv_room (Nat.le_of_ble_eq_true rfl)) dX11_whyNotJudge_154 ⟨Nat.zero_le _, Nat.zero_le _⟩) hS hP (fun r154 H locs wr154 hP hS => ?_)
                        obtain ⟨p_21, p_22, -⟩ := wr154
                        refine lv_if_ne (tgt := 163) hx hb dX11_whyNotJudge_157 (by decide) (fun c157 => ?_) (fun c157 => ?_)
                        · have h_23 : rg 1 1 r154 := r_ne_lo_i c157 p_21 (by decide) (by decide)
                          have h_24 : rl 0 5 z153 := (p_22 (rne h_23 (y := 0) (c := 0) (by decide) (by decide)))
                          obtain ⟨z163, qz163⟩ : ∃ y : Int32, y = x46_2 + Int32.ofInt 3 := ⟨_, rfl⟩
                          obtain ⟨hz163, ez163⟩ := inc_z (e := 3) (f := 62) h_9 qz163 (by decide)
                          refine lv_iinc (v := z163) (lv' := [(2, .int z163), (4, .int 0), (3, .int z61), (0, .ref a0), (1, .int p0)]) hx hb dX11_whyNotJudge_163 hl (k := 4) rfl (qz163.symm) (by decide) rfl (fun ls hl => ?_)
                          refine lv_goto (tgt := 46) hx hb dX11_whyNotJudge_166 (by decide) ?_
                          exact ih46 z163 _ _ ls (by have q := hn46; have := ez163; omega) (rg_w (c := 0) (d := 62) hz163 (by decide)) (okj_s hj46 hm46 ez163 (rg_w (c := 0) (d := 60) h_9 (by decide)) (ix60 ez61 ez59 h_5 (rg_w (c := 0) (d := 60) h_9 (by decide))) (okr_p gz68 gz139 gz153 (nx1 ez138 (rg_w (c := 0) (d := 240) hz61 (by decide)) (c := 1) rfl) (nx1 ez152 (rg_w (c := 0) (d := 240) hz61 (by decide)) (c := 2) rfl) h_15 h_20 h_24)) (by have := ez163; have := hm46; omega) hP hS (lv_sub hl [3, 4, 0] rfl)
                        · have h_25 : rg 0 0 r154 := r_eq_l_i (e := 0) (f := 0) c157 p_21 (rgn 0 (x := 0) (by decide)) (by decide)
                          refine lv_bipush (v := (-2)) hx hb dX11_whyNotJudge_160 (by decide) ?_
                          exact W.iret (v := (-2)) hx hb hr (fun t ht hW => ⟨⟨(-2), (), rfl, ⟨(rg_w (c := (-6)) (d := 0) (rgn (-2) (x := (-2)) (by decide)) (by decide)), (fun _ => h_5), (fun _ => h_5), (fun hq => absurd hq (rne (rgn (-2) (x := (-2)) (by decide)) (y := 0) (c := 0) (by decide) (by decide))), trivial⟩, trivial⟩, hS.F ht⟩) hS.2.2 dX11_whyNotJudge_162
                · have h_26 : rl (-1) (-1) z68 := r_eq_l_l (e := (-1)) (f := (-1)) c73 (rl_t z68) (rln (-1) (x := (-1)) (by decide)) (by decide)
                  refine lv_aload_n hx hb dX11_whyNotJudge_76 rfl (lv_at hl 1 rfl) ?_
                  refine va_get (D := G) (ci := 11) (v := .ref a3) (C := RX11) (T := TX11) (N := 31) hx hb hts (by decide +kernel) hown hK.1 hP 0 rfl rfl 3 (by decide) (hts (.fieldLink RX11 16 "CardHolderModel" "cells" "[J") (by decide +kernel)) (fun _ h9 => h9) rfl dX11_whyNotJudge_77 ?_
                  refine lv_iload_n hx hb dX11_whyNotJudge_80 rfl (lv_at hl 0 rfl) ?_
                  refine lv_iconst (v := 1) hx hb dX11_whyNotJudge_81 (by decide) ?_
                  refine lv_iadd hx hb dX11_whyNotJudge_82 ?_
                  refine nm_add (e1 := 1) (f := 240) hz61 (rgn 1 (x := 1) (by decide)) (by decide) (fun z82 hz82 ez82 => ?_)
                  replace ez82 := eqc_r ez82 (c := 1) (by decide)
                  refine va_lald hx hb hK.1 hP 3 3 rfl rfl (in_of (by have := hz82.1; omega) (by have := hm46; have := ez82; have := ez61; have := ez59; have h60 : (60 : Int32).toInt = 60 := (by decide); rw [h60] at *; have := h_9; have := h_5; omega)) dX11_whyNotJudge_83 ?_
                  refine lv_topl (fun z83 gz83 => ?_)
                  refine lv_ldc2 (own := RX11) (v := (-1)) hx hb hown (hts (.constantLong RX11 103 (-1)) (by decide +kernel)) dX11_whyNotJudge_84 ?_
                  refine W.lcmp hx hb dX11_whyNotJudge_87 ?_
                  refine lb_ne (tgt := 110) hx hb dX11_whyNotJudge_88 (by decide) (fun c88 => ?_) (fun c88 => ?_)
                  · refine lv_iconst (v := 0) hx hb dX11_whyNotJudge_110 (by decide) ?_
                    refine lv_istore (lv' := [(4, .int 0), (3, .int z61), (0, .ref a0), (1, .int p0), (2, .int x46_2)]) hx hb dX11_whyNotJudge_111 hl (by decide) rfl (fun ls hl => ?_)
                    refine lv_iload hx hb dX11_whyNotJudge_113 (lv_at hl 0 rfl) ?_
                    refine lv_if_ne (tgt := 163) hx hb dX11_whyNotJudge_115 (by decide) (fun c115 => ?_) (fun c115 => ?_)
                    · exact absurd c115 (by decide)
                    · refine lv_aload_n hx hb dX11_whyNotJudge_118 rfl (lv_at hl 2 rfl) ?_
                      refine lv_aload_n hx hb dX11_whyNotJudge_119 rfl (lv_at hl 2 rfl) ?_
                      refine va_get (D := G) (ci := 11) (v := .ref a3) (C := RX11) (T := TX11) (N := 31) hx hb hts (by decide +kernel) hown hK.1 hP 0 rfl rfl 3 (by decide) (hts (.fieldLink RX11 16 "CardHolderModel" "cells" "[J") (by decide +kernel)) (fun _ h9 => h9) rfl dX11_whyNotJudge_120 ?_
                      refine lv_iload_n hx hb dX11_whyNotJudge_123 rfl (lv_at hl 1 rfl) ?_
                      refine va_lald hx hb hK.1 hP 3 3 rfl rfl (in_rg hz61 (by decide)) dX11_whyNotJudge_124 ?_
                      refine ix_l (y := z68) gz68.symm ?_
                      refine ro_calli (va_runV (As := [.long z68]) (rest := []) ⟨hx, hb, hml, hown, hts⟩ (a_X11_isPerson l G ct a0 n0_0 a1 a2 a3 a4 a5 n0_6 n0_7 n0_8 n0_9 n0_10 l0_11 n0_12 n0_13 n0_14 n0_15 a6 a7 a8 a9 a10 a11 a12 a13 n0_24 n0_25 n0_26 n0_27 a14 n0_29 n0_30 f7 z68 hp_n0_6 hp_f7) (cwV 1 hts gX11_whyNotJudge_X11_isPerson rfl rfl rfl (by decide +kernel) ⟨Nat.le_of_ble_eq_true rfl, Nat.le_of_ble_eq_true rfl⟩) (ro_preV 11 0 hK (hP.sub [0, 5] rfl) rfl rfl) rfl rfl hl.1 rfl (lv_room (Nat.le_of_ble_eq_true rfl)) dX11_whyNotJudge_125 ⟨Nat.zero_le _, Nat.zero_le _⟩) hS hP (fun r125 H locs wr125 hP hS => ?_)
                      obtain ⟨p_27, p_28, -⟩ := wr125
                      refine lv_if_eq (tgt := 160) hx hb dX11_whyNotJudge_128 (by decide) (fun c128 => ?_) (fun c128 => ?_)
                      · have h_29 : rg 0 0 r125 := r_eq_l_i (e := 0) (f := 0) c128 p_27 (rgn 0 (x := 0) (by decide)) (by decide)
                        refine lv_bipush (v := (-2)) hx hb dX11_whyNotJudge_160 (by decide) ?_
                        exact W.iret (v := (-2)) hx hb hr (fun t ht hW => ⟨⟨(-2), (), rfl, ⟨(rg_w (c := (-6)) (d := 0) (rgn (-2) (x := (-2)) (by decide)) (by decide)), (fun _ => h_5), (fun _ => h_5), (fun hq => absurd hq (rne (rgn (-2) (x := (-2)) (by decide)) (y := 0) (c := 0) (by decide) (by decide))), trivial⟩, trivial⟩, hS.F ht⟩) hS.2.2 dX11_whyNotJudge_162
                      · have h_30 : rg 1 1 r125 := r_ne_lo_i c128 p_27 (by decide) (by decide)
                        have h_31 : rl 0 7 z68 := (p_28 (rne h_30 (y := 0) (c := 0) (by decide) (by decide)))
                        refine lv_aload_n hx hb dX11_whyNotJudge_131 rfl (lv_at hl 2 rfl) ?_
                        refine lv_aload_n hx hb dX11_whyNotJudge_132 rfl (lv_at hl 2 rfl) ?_
                        refine va_get (D := G) (ci := 11) (v := .ref a3) (C := RX11) (T := TX11) (N := 31) hx hb hts (by decide +kernel) hown hK.1 hP 0 rfl rfl 3 (by decide) (hts (.fieldLink RX11 16 "CardHolderModel" "cells" "[J") (by decide +kernel)) (fun _ h9 => h9) rfl dX11_whyNotJudge_133 ?_
                        refine lv_iload_n hx hb dX11_whyNotJudge_136 rfl (lv_at hl 1 rfl) ?_
                        refine lv_iconst (v := 1) hx hb dX11_whyNotJudge_137 (by decide) ?_
                        refine lv_iadd hx hb dX11_whyNotJudge_138 ?_
                        refine nm_add (e1 := 1) (f := 240) hz61 (rgn 1 (x := 1) (by decide)) (by decide) (fun z138 hz138 ez138 => ?_)
                        replace ez138 := eqc_r ez138 (c := 1) (by decide)
                        refine va_lald hx hb hK.1 hP 3 3 rfl rfl (in_of (by have := hz138.1; omega) (by have := hm46; have := ez138; have := ez61; have := ez59; have h60 : (60 : Int32).toInt = 60 := (by decide); rw [h60] at *; have := h_9; have := h_5; omega)) dX11_whyNotJudge_139 ?_
                        refine lv_topl (fun z139 gz139 => ?_)
                        refine ro_calli (va_runV (As := [.long z139]) (rest := []) ⟨hx, hb, hml, hown, hts⟩ (a_X11_isPerson l G ct a0 n0_0 a1 a2 a3 a4 a5 n0_6 n0_7 n0_8 n0_9 n0_10 l0_11 n0_12 n0_13 n0_14 n0_15 a6 a7 a8 a9 a10 a11 a12 a13 n0_24 n0_25 n0_26 n0_27 a14 n0_29 n0_30 f7 z139 hp_n0_6 hp_f7) (cwV 1 hts gX11_whyNotJudge_X11_isPerson rfl rfl rfl (by decide +kernel) ⟨Nat.le_of_ble_eq_true rfl, Nat.le_of_ble_eq_true rfl⟩) (ro_preV 11 0 hK (hP.sub [0, 5] rfl) rfl rfl) rfl rfl hl.1 rfl (lv_room (Nat.le_of_ble_eq_true rfl)) dX11_whyNotJudge_140 ⟨Nat.zero_le _, Nat.zero_le _⟩) hS hP (fun r140 H locs wr140 hP hS => ?_)
                        obtain ⟨p_32, p_33, -⟩ := wr140
                        refine lv_if_eq (tgt := 160) hx hb dX11_whyNotJudge_143 (by decide) (fun c143 => ?_) (fun c143 => ?_)
                        · have h_34 : rg 0 0 r140 := r_eq_l_i (e := 0) (f := 0) c143 p_32 (rgn 0 (x := 0) (by decide)) (by decide)
                          refine lv_bipush (v := (-2)) hx hb dX11_whyNotJudge_160 (by decide) ?_
                          exact W.iret (v := (-2)) hx hb hr (fun t ht hW => ⟨⟨(-2), (), rfl, ⟨(rg_w (c := (-6)) (d := 0) (rgn (-2) (x := (-2)) (by decide)) (by decide)), (fun _ => h_5), (fun _ => h_5), (fun hq => absurd hq (rne (rgn (-2) (x := (-2)) (by decide)) (y := 0) (c := 0) (by decide) (by decide))), trivial⟩, trivial⟩, hS.F ht⟩) hS.2.2 dX11_whyNotJudge_162
                        · have h_35 : rg 1 1 r140 := r_ne_lo_i c143 p_32 (by decide) (by decide)
                          have h_36 : rl 0 7 z139 := (p_33 (rne h_35 (y := 0) (c := 0) (by decide) (by decide)))
                          refine lv_aload_n hx hb dX11_whyNotJudge_146 rfl (lv_at hl 2 rfl) ?_
                          refine va_get (D := G) (ci := 11) (v := .ref a3) (C := RX11) (T := TX11) (N := 31) hx hb hts (by decide +kernel) hown hK.1 hP 0 rfl rfl 3 (by decide) (hts (.fieldLink RX11 16 "CardHolderModel" "cells" "[J") (by decide +kernel)) (fun _ h9 => h9) rfl dX11_whyNotJudge_147 ?_
                          refine lv_iload_n hx hb dX11_whyNotJudge_150 rfl (lv_at hl 1 rfl) ?_
                          refine lv_iconst (v := 2) hx hb dX11_whyNotJudge_151 (by decide) ?_
                          refine lv_iadd hx hb dX11_whyNotJudge_152 ?_
                          refine nm_add (e1 := 2) (f := 241) hz61 (rgn 2 (x := 2) (by decide)) (by decide) (fun z152 hz152 ez152 => ?_)
                          replace ez152 := eqc_r ez152 (c := 2) (by decide)
                          refine va_lald hx hb hK.1 hP 3 3 rfl rfl (in_of (by have := hz152.1; omega) (by have := hm46; have := ez152; have := ez61; have := ez59; have h60 : (60 : Int32).toInt = 60 := (by decide); rw [h60] at *; have := h_9; have := h_5; omega)) dX11_whyNotJudge_153 ?_
                          refine lv_topl (fun z153 gz153 => ?_)
                          refine ro_calli (va_runS (As := [.long z153]) (rest := []) ⟨hx, hb, hml, hown, hts⟩ (a_X11_isDeed l G ct z153) (va_cwS 1 hts gX11_whyNotJudge_X11_isDeed rfl rfl rfl (by decide +kernel) ⟨Nat.le_of_ble_eq_true rfl, Nat.le_of_ble_eq_true rfl⟩) (ro_pre hK (hP.sub [] rfl)) rfl rfl hl.1 rfl (lv_room (Nat.le_of_ble_eq_true rfl)) dX11_whyNotJudge_154 ⟨Nat.zero_le _, Nat.zero_le _⟩) hS hP (fun r154 H locs wr154 hP hS => ?_)
                          obtain ⟨p_37, p_38, -⟩ := wr154
                          refine lv_if_ne (tgt := 163) hx hb dX11_whyNotJudge_157 (by decide) (fun c157 => ?_) (fun c157 => ?_)
                          · have h_39 : rg 1 1 r154 := r_ne_lo_i c157 p_37 (by decide) (by decide)
                            have h_40 : rl 0 5 z153 := (p_38 (rne h_39 (y := 0) (c := 0) (by decide) (by decide)))
                            obtain ⟨z163, qz163⟩ : ∃ y : Int32, y = x46_2 + Int32.ofInt 3 := ⟨_, rfl⟩
                            obtain ⟨hz163, ez163⟩ := inc_z (e := 3) (f := 62) h_9 qz163 (by decide)
                            refine lv_iinc (v := z163) (lv' := [(2, .int z163), (4, .int 0), (3, .int z61), (0, .ref a0), (1, .int p0)]) hx hb dX11_whyNotJudge_163 hl (k := 4) rfl (qz163.symm) (by decide) rfl (fun ls hl => ?_)
                            refine lv_goto (tgt := 46) hx hb dX11_whyNotJudge_166 (by decide) ?_
                            exact ih46 z163 _ _ ls (by have q := hn46; have := ez163; omega) (rg_w (c := 0) (d := 62) hz163 (by decide)) (okj_s hj46 hm46 ez163 (rg_w (c := 0) (d := 60) h_9 (by decide)) (ix60 ez61 ez59 h_5 (rg_w (c := 0) (d := 60) h_9 (by decide))) (okr_p gz68 gz139 gz153 (nx1 ez138 (rg_w (c := 0) (d := 240) hz61 (by decide)) (c := 1) rfl) (nx1 ez152 (rg_w (c := 0) (d := 240) hz61 (by decide)) (c := 2) rfl) h_31 h_36 h_40)) (by have := ez163; have := hm46; omega) hP hS (lv_sub hl [3, 4, 0] rfl)
                          · have h_41 : rg 0 0 r154 := r_eq_l_i (e := 0) (f := 0) c157 p_37 (rgn 0 (x := 0) (by decide)) (by decide)
                            refine lv_bipush (v := (-2)) hx hb dX11_whyNotJudge_160 (by decide) ?_
                            exact W.iret (v := (-2)) hx hb hr (fun t ht hW => ⟨⟨(-2), (), rfl, ⟨(rg_w (c := (-6)) (d := 0) (rgn (-2) (x := (-2)) (by decide)) (by decide)), (fun _ => h_5), (fun _ => h_5), (fun hq => absurd hq (rne (rgn (-2) (x := (-2)) (by decide)) (y := 0) (c := 0) (by decide) (by decide))), trivial⟩, trivial⟩, hS.F ht⟩) hS.2.2 dX11_whyNotJudge_162
                  · have h_42 : rl (-1) (-1) z83 := r_eq_l_l (e := (-1)) (f := (-1)) c88 (rl_t z83) (rln (-1) (x := (-1)) (by decide)) (by decide)
                    refine lv_aload_n hx hb dX11_whyNotJudge_91 rfl (lv_at hl 1 rfl) ?_
                    refine va_get (D := G) (ci := 11) (v := .ref a3) (C := RX11) (T := TX11) (N := 31) hx hb hts (by decide +kernel) hown hK.1 hP 0 rfl rfl 3 (by decide) (hts (.fieldLink RX11 16 "CardHolderModel" "cells" "[J") (by decide +kernel)) (fun _ h9 => h9) rfl dX11_whyNotJudge_92 ?_
                    refine lv_iload_n hx hb dX11_whyNotJudge_95 rfl (lv_at hl 0 rfl) ?_
                    refine lv_iconst (v := 2) hx hb dX11_whyNotJudge_96 (by decide) ?_
                    refine lv_iadd hx hb dX11_whyNotJudge_97 ?_
                    refine nm_add (e1 := 2) (f := 241) hz61 (rgn 2 (x := 2) (by decide)) (by decide) (fun z97 hz97 ez97 => ?_)
                    replace ez97 := eqc_r ez97 (c := 2) (by decide)
                    refine va_lald hx hb hK.1 hP 3 3 rfl rfl (in_of (by have := hz97.1; omega) (by have := hm46; have := ez97; have := ez61; have := ez59; have h60 : (60 : Int32).toInt = 60 := (by decide); rw [h60] at *; have := h_9; have := h_5; omega)) dX11_whyNotJudge_98 ?_
                    refine lv_topl (fun z98 gz98 => ?_)
                    refine lv_ldc2 (own := RX11) (v := (-1)) hx hb hown (hts (.constantLong RX11 103 (-1)) (by decide +kernel)) dX11_whyNotJudge_99 ?_
                    refine W.lcmp hx hb dX11_whyNotJudge_102 ?_
                    refine lb_ne (tgt := 110) hx hb dX11_whyNotJudge_103 (by decide) (fun c103 => ?_) (fun c103 => ?_)
                    · refine lv_iconst (v := 0) hx hb dX11_whyNotJudge_110 (by decide) ?_
                      refine lv_istore (lv' := [(4, .int 0), (3, .int z61), (0, .ref a0), (1, .int p0), (2, .int x46_2)]) hx hb dX11_whyNotJudge_111 hl (by decide) rfl (fun ls hl => ?_)
                      refine lv_iload hx hb dX11_whyNotJudge_113 (lv_at hl 0 rfl) ?_
                      refine lv_if_ne (tgt := 163) hx hb dX11_whyNotJudge_115 (by decide) (fun c115 => ?_) (fun c115 => ?_)
                      · exact absurd c115 (by decide)
                      · refine lv_aload_n hx hb dX11_whyNotJudge_118 rfl (lv_at hl 2 rfl) ?_
                        refine lv_aload_n hx hb dX11_whyNotJudge_119 rfl (lv_at hl 2 rfl) ?_
                        refine va_get (D := G) (ci := 11) (v := .ref a3) (C := RX11) (T := TX11) (N := 31) hx hb hts (by decide +kernel) hown hK.1 hP 0 rfl rfl 3 (by decide) (hts (.fieldLink RX11 16 "CardHolderModel" "cells" "[J") (by decide +kernel)) (fun _ h9 => h9) rfl dX11_whyNotJudge_120 ?_
                        refine lv_iload_n hx hb dX11_whyNotJudge_123 rfl (lv_at hl 1 rfl) ?_
                        refine va_lald hx hb hK.1 hP 3 3 rfl rfl (in_rg hz61 (by decide)) dX11_whyNotJudge_124 ?_
                        refine ix_l (y := z68) gz68.symm ?_
                        refine ro_calli (va_runV (As := [.long z68]) (rest := []) ⟨hx, hb, hml, hown, hts⟩ (a_X11_isPerson l G ct a0 n0_0 a1 a2 a3 a4 a5 n0_6 n0_7 n0_8 n0_9 n0_10 l0_11 n0_12 n0_13 n0_14 n0_15 a6 a7 a8 a9 a10 a11 a12 a13 n0_24 n0_25 n0_26 n0_27 a14 n0_29 n0_30 f7 z68 hp_n0_6 hp_f7) (cwV 1 hts gX11_whyNotJudge_X11_isPerson rfl rfl rfl (by decide +kernel) ⟨Nat.le_of_ble_eq_true rfl, Nat.le_of_ble_eq_true rfl⟩) (ro_preV 11 0 hK (hP.sub [0, 5] rfl) rfl rfl) rfl rfl hl.1 rfl (lv_room (Nat.le_of_ble_eq_true rfl)) dX11_whyNotJudge_125 ⟨Nat.zero_le _, Nat.zero_le _⟩) hS hP (fun r125 H locs wr125 hP hS => ?_)
                        obtain ⟨p_43, p_44, -⟩ := wr125
                        refine lv_if_eq (tgt := 160) hx hb dX11_whyNotJudge_128 (by decide) (fun c128 => ?_) (fun c128 => ?_)
                        · have h_45 : rg 0 0 r125 := r_eq_l_i (e := 0) (f := 0) c128 p_43 (rgn 0 (x := 0) (by decide)) (by decide)
                          refine lv_bipush (v := (-2)) hx hb dX11_whyNotJudge_160 (by decide) ?_
                          exact W.iret (v := (-2)) hx hb hr (fun t ht hW => ⟨⟨(-2), (), rfl, ⟨(rg_w (c := (-6)) (d := 0) (rgn (-2) (x := (-2)) (by decide)) (by decide)), (fun _ => h_5), (fun _ => h_5), (fun hq => absurd hq (rne (rgn (-2) (x := (-2)) (by decide)) (y := 0) (c := 0) (by decide) (by decide))), trivial⟩, trivial⟩, hS.F ht⟩) hS.2.2 dX11_whyNotJudge_162
                        · have h_46 : rg 1 1 r125 := r_ne_lo_i c128 p_43 (by decide) (by decide)
                          have h_47 : rl 0 7 z68 := (p_44 (rne h_46 (y := 0) (c := 0) (by decide) (by decide)))
                          refine lv_aload_n hx hb dX11_whyNotJudge_131 rfl (lv_at hl 2 rfl) ?_
                          refine lv_aload_n hx hb dX11_whyNotJudge_132 rfl (lv_at hl 2 rfl) ?_
                          refine va_get (D := G) (ci := 11) (v := .ref a3) (C := RX11) (T := TX11) (N := 31) hx hb hts (by decide +kernel) hown hK.1 hP 0 rfl rfl 3 (by decide) (hts (.fieldLink RX11 16 "CardHolderModel" "cells" "[J") (by decide +kernel)) (fun _ h9 => h9) rfl dX11_whyNotJudge_133 ?_
                          refine lv_iload_n hx hb dX11_whyNotJudge_136 rfl (lv_at hl 1 rfl) ?_
                          refine lv_iconst (v := 1) hx hb dX11_whyNotJudge_137 (by decide) ?_
                          refine lv_iadd hx hb dX11_whyNotJudge_138 ?_
                          refine nm_add (e1 := 1) (f := 240) hz61 (rgn 1 (x := 1) (by decide)) (by decide) (fun z138 hz138 ez138 => ?_)
                          replace ez138 := eqc_r ez138 (c := 1) (by decide)
                          refine va_lald hx hb hK.1 hP 3 3 rfl rfl (in_of (by have := hz138.1; omega) (by have := hm46; have := ez138; have := ez61; have := ez59; have h60 : (60 : Int32).toInt = 60 := (by decide); rw [h60] at *; have := h_9; have := h_5; omega)) dX11_whyNotJudge_139 ?_
                          refine lv_topl (fun z139 gz139 => ?_)
                          refine ro_calli (va_runV (As := [.long z139]) (rest := []) ⟨hx, hb, hml, hown, hts⟩ (a_X11_isPerson l G ct a0 n0_0 a1 a2 a3 a4 a5 n0_6 n0_7 n0_8 n0_9 n0_10 l0_11 n0_12 n0_13 n0_14 n0_15 a6 a7 a8 a9 a10 a11 a12 a13 n0_24 n0_25 n0_26 n0_27 a14 n0_29 n0_30 f7 z139 hp_n0_6 hp_f7) (cwV 1 hts gX11_whyNotJudge_X11_isPerson rfl rfl rfl (by decide +kernel) ⟨Nat.le_of_ble_eq_true rfl, Nat.le_of_ble_eq_true rfl⟩) (ro_preV 11 0 hK (hP.sub [0, 5] rfl) rfl rfl) rfl rfl hl.1 rfl (lv_room (Nat.le_of_ble_eq_true rfl)) dX11_whyNotJudge_140 ⟨Nat.zero_le _, Nat.zero_le _⟩) hS hP (fun r140 H locs wr140 hP hS => ?_)
                          obtain ⟨p_48, p_49, -⟩ := wr140
                          refine lv_if_eq (tgt := 160) hx hb dX11_whyNotJudge_143 (by decide) (fun c143 => ?_) (fun c143 => ?_)
                          · have h_50 : rg 0 0 r140 := r_eq_l_i (e := 0) (f := 0) c143 p_48 (rgn 0 (x := 0) (by decide)) (by decide)
                            refine lv_bipush (v := (-2)) hx hb dX11_whyNotJudge_160 (by decide) ?_
                            exact W.iret (v := (-2)) hx hb hr (fun t ht hW => ⟨⟨(-2), (), rfl, ⟨(rg_w (c := (-6)) (d := 0) (rgn (-2) (x := (-2)) (by decide)) (by decide)), (fun _ => h_5), (fun _ => h_5), (fun hq => absurd hq (rne (rgn (-2) (x := (-2)) (by decide)) (y := 0) (c := 0) (by decide) (by decide))), trivial⟩, trivial⟩, hS.F ht⟩) hS.2.2 dX11_whyNotJudge_162
                          · have h_51 : rg 1 1 r140 := r_ne_lo_i c143 p_48 (by decide) (by decide)
                            have h_52 : rl 0 7 z139 := (p_49 (rne h_51 (y := 0) (c := 0) (by decide) (by decide)))
                            refine lv_aload_n hx hb dX11_whyNotJudge_146 rfl (lv_at hl 2 rfl) ?_
                            refine va_get (D := G) (ci := 11) (v := .ref a3) (C := RX11) (T := TX11) (N := 31) hx hb hts (by decide +kernel) hown hK.1 hP 0 rfl rfl 3 (by decide) (hts (.fieldLink RX11 16 "CardHolderModel" "cells" "[J") (by decide +kernel)) (fun _ h9 => h9) rfl dX11_whyNotJudge_147 ?_
                            refine lv_iload_n hx hb dX11_whyNotJudge_150 rfl (lv_at hl 1 rfl) ?_
                            refine lv_iconst (v := 2) hx hb dX11_whyNotJudge_151 (by decide) ?_
                            refine lv_iadd hx hb dX11_whyNotJudge_152 ?_
                            refine nm_add (e1 := 2) (f := 241) hz61 (rgn 2 (x := 2) (by decide)) (by decide) (fun z152 hz152 ez152 => ?_)
                            replace ez152 := eqc_r ez152 (c := 2) (by decide)
                            refine va_lald hx hb hK.1 hP 3 3 rfl rfl (in_of (by have := hz152.1; omega) (by have := hm46; have := ez152; have := ez61; have := ez59; have h60 : (60 : Int32).toInt = 60 := (by decide); rw [h60] at *; have := h_9; have := h_5; omega)) dX11_whyNotJudge_153 ?_
                            refine lv_topl (fun z153 gz153 => ?_)
                            refine ro_calli (va_runS (As := [.long z153]) (rest := []) ⟨hx, hb, hml, hown, hts⟩ (a_X11_isDeed l G ct z153) (va_cwS 1 hts gX11_whyNotJudge_X11_isDeed rfl rfl rfl (by decide +kernel) ⟨Nat.le_of_ble_eq_true rfl, Nat.le_of_ble_eq_true rfl⟩) (ro_pre hK (hP.sub [] rfl)) rfl rfl hl.1 rfl (lv_room (Nat.le_of_ble_eq_true rfl)) dX11_whyNotJudge_154 ⟨Nat.zero_le _, Nat.zero_le _⟩) hS hP (fun r154 H locs wr154 hP hS => ?_)
                            obtain ⟨p_53, p_54, -⟩ := wr154
                            refine lv_if_ne (tgt := 163) hx hb dX11_whyNotJudge_157 (by decide) (fun c157 => ?_) (fun c157 => ?_)
                            · have h_55 : rg 1 1 r154 := r_ne_lo_i c157 p_53 (by decide) (by decide)
                              have h_56 : rl 0 5 z153 := (p_54 (rne h_55 (y := 0) (c := 0) (by decide) (by decide)))
                              obtain ⟨z163, qz163⟩ : ∃ y : Int32, y = x46_2 + Int32.ofInt 3 := ⟨_, rfl⟩
                              obtain ⟨hz163, ez163⟩ := inc_z (e := 3) (f := 62) h_9 qz163 (by decide)
                              refine lv_iinc (v := z163) (lv' := [(2, .int z163), (4, .int 0), (3, .int z61), (0, .ref a0), (1, .int p0)]) hx hb dX11_whyNotJudge_163 hl (k := 4) rfl (qz163.symm) (by decide) rfl (fun ls hl => ?_)
                              refine lv_goto (tgt := 46) hx hb dX11_whyNotJudge_166 (by decide) ?_
                              exact ih46 z163 _ _ ls (by have q := hn46; have := ez163; omega) (rg_w (c := 0) (d := 62) hz163 (by decide)) (okj_s hj46 hm46 ez163 (rg_w (c := 0) (d := 60) h_9 (by decide)) (ix60 ez61 ez59 h_5 (rg_w (c := 0) (d := 60) h_9 (by decide))) (okr_p gz68 gz139 gz153 (nx1 ez138 (rg_w (c := 0) (d := 240) hz61 (by decide)) (c := 1) rfl) (nx1 ez152 (rg_w (c := 0) (d := 240) hz61 (by decide)) (c := 2) rfl) h_47 h_52 h_56)) (by have := ez163; have := hm46; omega) hP hS (lv_sub hl [3, 4, 0] rfl)
                            · have h_57 : rg 0 0 r154 := r_eq_l_i (e := 0) (f := 0) c157 p_53 (rgn 0 (x := 0) (by decide)) (by decide)
                              refine lv_bipush (v := (-2)) hx hb dX11_whyNotJudge_160 (by decide) ?_
                              exact W.iret (v := (-2)) hx hb hr (fun t ht hW => ⟨⟨(-2), (), rfl, ⟨(rg_w (c := (-6)) (d := 0) (rgn (-2) (x := (-2)) (by decide)) (by decide)), (fun _ => h_5), (fun _ => h_5), (fun hq => absurd hq (rne (rgn (-2) (x := (-2)) (by decide)) (y := 0) (c := 0) (by decide) (by decide))), trivial⟩, trivial⟩, hS.F ht⟩) hS.2.2 dX11_whyNotJudge_162
                    · have h_58 : rl (-1) (-1) z98 := r_eq_l_l (e := (-1)) (f := (-1)) c103 (rl_t z98) (rln (-1) (x := (-1)) (by decide)) (by decide)
                      refine lv_iconst (v := 1) hx hb dX11_whyNotJudge_106 (by decide) ?_
                      refine lv_goto (tgt := 111) hx hb dX11_whyNotJudge_107 (by decide) ?_
                      refine lv_istore (lv' := [(4, .int 1), (3, .int z61), (0, .ref a0), (1, .int p0), (2, .int x46_2)]) hx hb dX11_whyNotJudge_111 hl (by decide) rfl (fun ls hl => ?_)
                      refine lv_iload hx hb dX11_whyNotJudge_113 (lv_at hl 0 rfl) ?_
                      refine lv_if_ne (tgt := 163) hx hb dX11_whyNotJudge_115 (by decide) (fun c115 => ?_) (fun c115 => ?_)
                      · obtain ⟨z163, qz163⟩ : ∃ y : Int32, y = x46_2 + Int32.ofInt 3 := ⟨_, rfl⟩
                        obtain ⟨hz163, ez163⟩ := inc_z (e := 3) (f := 62) h_9 qz163 (by decide)
                        refine lv_iinc (v := z163) (lv' := [(2, .int z163), (4, .int 1), (3, .int z61), (0, .ref a0), (1, .int p0)]) hx hb dX11_whyNotJudge_163 hl (k := 4) rfl (qz163.symm) (by decide) rfl (fun ls hl => ?_)
                        refine lv_goto (tgt := 46) hx hb dX11_whyNotJudge_166 (by decide) ?_
                        exact ih46 z163 _ _ ls (by have q := hn46; have := ez163; omega) (rg_w (c := 0) (d := 62) hz163 (by decide)) (okj_s hj46 hm46 ez163 (rg_w (c := 0) (d := 60) h_9 (by decide)) (ix60 ez61 ez59 h_5 (rg_w (c := 0) (d := 60) h_9 (by decide))) (okr_d gz68 gz83 gz98 (nx1 ez82 (rg_w (c := 0) (d := 240) hz61 (by decide)) (c := 1) rfl) (nx1 ez97 (rg_w (c := 0) (d := 240) hz61 (by decide)) (c := 2) rfl) c73 c88 c103)) (by have := ez163; have := hm46; omega) hP hS (lv_sub hl [3, 4, 0] rfl)
                      · exact absurd c115 (by decide)
          exact j46 4294967296 (0 : Int32) _ _ ls (ms_e (0 : Int32)) (rg_w (c := 0) (d := 62) (rgn 0 (x := 0) (by decide)) (by decide)) okj_0 (by decide) hP hS (lv_sub hl [1, 2, 0] rfl)
        · have h_59 : rg 1 2 z37 := r_ne_lo_i c38 hz37 (by decide) (by decide)
          refine lv_bipush (v := (-2)) hx hb dX11_whyNotJudge_41 (by decide) ?_
          exact W.iret (v := (-2)) hx hb hr (fun t ht hW => ⟨⟨(-2), (), rfl, ⟨(rg_w (c := (-6)) (d := 0) (rgn (-2) (x := (-2)) (by decide)) (by decide)), (fun _ => h_5), (fun _ => h_5), (fun hq => absurd hq (rne (rgn (-2) (x := (-2)) (by decide)) (y := 0) (c := 0) (by decide) (by decide))), trivial⟩, trivial⟩, hS.F ht⟩) hS.2.2 dX11_whyNotJudge_43
      · have h_60 : rg (-1) (-1) z22 := r_eq_l_i (e := (-1)) (f := (-1)) c24 (rg_t z22) (rgn (-1) (x := (-1)) (by decide)) (by decide)
        refine lv_bipush (v := (-6)) hx hb dX11_whyNotJudge_27 (by decide) ?_
        exact W.iret (v := (-6)) hx hb hr (fun t ht hW => ⟨⟨(-6), (), rfl, ⟨(rg_w (c := (-6)) (d := 0) (rgn (-6) (x := (-6)) (by decide)) (by decide)), (fun _ => h_5), (fun _ => h_5), (fun hq => absurd hq (rne (rgn (-6) (x := (-6)) (by decide)) (y := 0) (c := 0) (by decide) (by decide))), trivial⟩, trivial⟩, hS.F ht⟩) hS.2.2 dX11_whyNotJudge_29
    · have h_61 : rg 0 0 r8 := r_eq_l_i (e := 0) (f := 0) c11 p_6 (rgn 0 (x := 0) (by decide)) (by decide)
      refine lv_bipush (v := (-2)) hx hb dX11_whyNotJudge_14 (by decide) ?_
      exact W.iret (v := (-2)) hx hb hr (fun t ht hW => ⟨⟨(-2), (), rfl, ⟨(rg_w (c := (-6)) (d := 0) (rgn (-2) (x := (-2)) (by decide)) (by decide)), (fun _ => h_5), (fun _ => h_5), (fun hq => absurd hq (rne (rgn (-2) (x := (-2)) (by decide)) (y := 0) (c := 0) (by decide) (by decide))), trivial⟩, trivial⟩, hS.F ht⟩) hS.2.2 dX11_whyNotJudge_16

set_option maxHeartbeats 4000000 in
set_option maxRecDepth 100000 in
theorem a_X11_judges (l : Launch) (G : va_G) (ct : Nat → ClassId) (a0 : Nat) (n0_0 : Int32) (a1 : Nat) (a2 : Nat) (a3 : Nat) (a4 : Nat) (a5 : Nat) (n0_6 : Int32) (n0_7 : Int32) (n0_8 : Int32) (n0_9 : Int32) (n0_10 : Int32) (l0_11 : Int64) (n0_12 : Int32) (n0_13 : Int32) (n0_14 : Int32) (n0_15 : Int32) (a6 : Nat) (a7 : Nat) (a8 : Nat) (a9 : Nat) (a10 : Nat) (a11 : Nat) (a12 : Nat) (a13 : Nat) (n0_24 : Int32) (n0_25 : Int32) (n0_26 : Int32) (n0_27 : Int32) (a14 : Nat) (n0_29 : Int32) (n0_30 : Int32) (f2 : Nat → Int32) (f3 : Nat → Int64) (f7 : Nat → Int32) (f8 : Nat → Int32) (f11 : Nat → Int32) (f12 : Nat → Int32) (f13 : Nat → Int32) (p0 : Int32) (hp_f2 : ar 0 60 f2) (hp_n0_6 : rg 0 900 n0_6) (hp_f7 : hsI f7) (hp_f8 : psI f8) (hp_f11 : ar (-1) 7 f11) (hp_f13 : ar (-1) 7 f13) (hp_p0 : rg 0 3 p0) (hj : okj f3 p0 (f2 p0.toNatClampNeg).toInt) : Met l yX11_judges wsX11_judges ({ frames := 3, cells := 0, slots := 0, locals := 64 }) (va_Pc [.ref a0, .int p0] (wrP G ct [(a0, .inr (11, [.int n0_0, .ref a1, .ref a2, .ref a3, .ref a4, .ref a5, .int n0_6, .int n0_7, .int n0_8, .int n0_9, .int n0_10, .long l0_11, .int n0_12, .int n0_13, .int n0_14, .int n0_15, .ref a6, .ref a7, .ref a8, .ref a9, .ref a10, .ref a11, .ref a12, .ref a13, .int n0_24, .int n0_25, .int n0_26, .int n0_27, .ref a14, .int n0_29, .int n0_30])), (a2, .inl (ct 0, 4, .inl f2)), (a3, .inl (ct 3, 240, .inr (.inl f3))), (a7, .inl (ct 0, 15, .inl f7)), (a8, .inl (ct 0, 200, .inl f8)), (a11, .inl (ct 0, 8, .inl f11)), (a12, .inl (ct 0, 8, .inl f12)), (a13, .inl (ct 0, 8, .inl f13))])) (va_Qi (fun (r : Int32) (u : SU) => rg 0 20 r ∧ ar (-1) 7 (u.2.1 0) ∧ ar (-1) 7 (u.2.1 2) ∧ rg 0 0 (u.1 1) ∧ rg 0 0 (u.1 3) ∧ True) (fun u t => va_P G vwCl ((fun u : SU => [(a0, .inr (11, [.int n0_0, .ref a1, .ref a2, .ref a3, .ref a4, .ref a5, .int n0_6, .int n0_7, .int n0_8, .int n0_9, .int n0_10, .long l0_11, .int n0_12, .int n0_13, .int n0_14, .int n0_15, .ref a6, .ref a7, .ref a8, .ref a9, .ref a10, .ref a11, .ref a12, .ref a13, .int (u.1 0), .int (u.1 1), .int (u.1 2), .int (u.1 3), .ref a14, .int n0_29, .int n0_30])), (a2, .inl (ct 0, 4, .inl f2)), (a3, .inl (ct 3, 240, .inr (.inl f3))), (a7, .inl (ct 0, 15, .inl f7)), (a8, .inl (ct 0, 200, .inl f8)), (a11, .inl (ct 0, 8, .inl (u.2.1 0))), (a12, .inl (ct 0, 8, .inl (u.2.1 1))), (a13, .inl (ct 0, 8, .inl (u.2.1 2)))]) u) t.heap) (aset [(a0, .inr (11, [.int n0_0, .ref a1, .ref a2, .ref a3, .ref a4, .ref a5, .int n0_6, .int n0_7, .int n0_8, .int n0_9, .int n0_10, .long l0_11, .int n0_12, .int n0_13, .int n0_14, .int n0_15, .ref a6, .ref a7, .ref a8, .ref a9, .ref a10, .ref a11, .ref a12, .ref a13, .int n0_24, .int n0_25, .int n0_26, .int n0_27, .ref a14, .int n0_29, .int n0_30])), (a2, .inl (ct 0, 4, .inl f2)), (a3, .inl (ct 3, 240, .inr (.inl f3))), (a7, .inl (ct 0, 15, .inl f7)), (a8, .inl (ct 0, 200, .inl f8)), (a11, .inl (ct 0, 8, .inl f11)), (a12, .inl (ct 0, 8, .inl f12)), (a13, .inl (ct 0, 8, .inl f13))])) 0 0 (aset [(a0, .inr (11, [.int n0_0, .ref a1, .ref a2, .ref a3, .ref a4, .ref a5, .int n0_6, .int n0_7, .int n0_8, .int n0_9, .int n0_10, .long l0_11, .int n0_12, .int n0_13, .int n0_14, .int n0_15, .ref a6, .ref a7, .ref a8, .ref a9, .ref a10, .ref a11, .ref a12, .ref a13, .int n0_24, .int n0_25, .int n0_26, .int n0_27, .ref a14, .int n0_29, .int n0_30])), (a2, .inl (ct 0, 4, .inl f2)), (a3, .inl (ct 3, 240, .inr (.inl f3))), (a7, .inl (ct 0, 15, .inl f7)), (a8, .inl (ct 0, 200, .inl f8)), (a11, .inl (ct 0, 8, .inl f11)), (a12, .inl (ct 0, 8, .inl f12)), (a13, .inl (ct 0, 8, .inl f13))]) := by
  refine Met.ofW (cc := cX11_judges) (maxL := 4) (ret := (some .int)) (by decide) rfl ?_
  intro p e s m args below meth c s₁ B hml hv
  obtain ⟨rfl, hP, hK, hD0⟩ := hv
  have hx := B.exec
  have hb := B.bytes
  have hr := B.returns
  have hts := atoms_spec (ws := wsX11_judges) B.pre
  have hown : s.vm.findClass RX11 = some m.cls := findClass_of_methodNamed B.named
  have hlocks := B.notSynchronized
  have hD := hD0.aself
  generalize hAe : aset [(a0, .inr (11, [.int n0_0, .ref a1, .ref a2, .ref a3, .ref a4, .ref a5, .int n0_6, .int n0_7, .int n0_8, .int n0_9, .int n0_10, .long l0_11, .int n0_12, .int n0_13, .int n0_14, .int n0_15, .ref a6, .ref a7, .ref a8, .ref a9, .ref a10, .ref a11, .ref a12, .ref a13, .int n0_24, .int n0_25, .int n0_26, .int n0_27, .ref a14, .int n0_29, .int n0_30])), (a2, .inl (ct 0, 4, .inl f2)), (a3, .inl (ct 3, 240, .inr (.inl f3))), (a7, .inl (ct 0, 15, .inl f7)), (a8, .inl (ct 0, 200, .inl f8)), (a11, .inl (ct 0, 8, .inl f11)), (a12, .inl (ct 0, 8, .inl f12)), (a13, .inl (ct 0, 8, .inl f13))] = A at hD ⊢
  have hS : va_S A s.heap s.heap [] := va_S.rf
  have hl := lv_entry ([.ref a0, .int p0]) (n := 4) (Nat.le_of_ble_eq_true rfl)
  rw [lg_entry_eq]
  generalize (lg_sl ([.ref a0, .int p0]) ++ List.replicate (4 - (lg_sl ([.ref a0, .int p0])).length) Slot.unset).toArray = ls at hl ⊢
  have hl : lv_has ls 4 [(0, .ref a0), (1, .int p0)] := hl
  refine lv_aload_n hx hb dX11_judges_0 rfl (lv_at hl 0 rfl) ?_
  refine wj_callv (wr := [(a2, .inl (ct 0, 4, .inl f2)), (a3, .inl (ct 3, 240, .inr (.inl f3)))]) (w1 := (fun u : SU => [(a0, .inr (11, [.int n0_0, .ref a1, .ref a2, .ref a3, .ref a4, .ref a5, .int n0_6, .int n0_7, .int n0_8, .int n0_9, .int n0_10, .long l0_11, .int n0_12, .int n0_13, .int n0_14, .int n0_15, .ref a6, .ref a7, .ref a8, .ref a9, .ref a10, .ref a11, .ref a12, .ref a13, .int (u.1 0), .int (u.1 1), .int (u.1 2), .int (u.1 3), .ref a14, .int n0_29, .int n0_30])), (a7, .inl (ct 0, 15, .inl f7)), (a8, .inl (ct 0, 200, .inl f8)), (a11, .inl (ct 0, 8, .inl (u.2.1 0))), (a12, .inl (ct 0, 8, .inl (u.2.1 1))), (a13, .inl (ct 0, 8, .inl (u.2.1 2)))])) (va_runV (As := []) (rest := []) ⟨hx, hb, hml, hown, hts⟩ (a_X11_start l G ct a0 n0_0 a1 a2 a3 a4 a5 n0_6 n0_7 n0_8 n0_9 n0_10 l0_11 n0_12 n0_13 n0_14 n0_15 a6 a7 a8 a9 a10 a11 a12 a13 n0_24 n0_25 n0_26 n0_27 a14 n0_29 n0_30 f7 f8 f11 f12 f13 hp_n0_6 hp_f7 hp_f8 hp_f11 hp_f13) (cwV 0 hts gX11_judges_X11_start rfl rfl rfl (by decide +kernel) ⟨Nat.le_of_ble_eq_true rfl, Nat.le_of_ble_eq_true rfl⟩) (wr_preV 11 0 hK (hP.sub [0, 3, 4, 5, 6, 7] rfl) (hD.sub [0, 3, 4, 5, 6, 7] (by decide) rfl) rfl rfl) rfl rfl hl.1 rfl (lv_room (Nat.le_of_ble_eq_true rfl)) dX11_judges_1 ⟨Nat.zero_le _, Nat.zero_le _⟩) hS hP hD [0, 3, 4, 5, 6, 7] [1, 2] rfl rfl (by decide) (fun _ => rfl) (fun ur1 H locs wr1 hP hD hS => ?_)
  have hP : va_P G vwCl [(a0, .inr (11, [.int n0_0, .ref a1, .ref a2, .ref a3, .ref a4, .ref a5, .int n0_6, .int n0_7, .int n0_8, .int n0_9, .int n0_10, .long l0_11, .int n0_12, .int n0_13, .int n0_14, .int n0_15, .ref a6, .ref a7, .ref a8, .ref a9, .ref a10, .ref a11, .ref a12, .ref a13, .int (ur1.1 0), .int (ur1.1 1), .int (ur1.1 2), .int (ur1.1 3), .ref a14, .int n0_29, .int n0_30])), (a2, .inl (ct 0, 4, .inl f2)), (a3, .inl (ct 3, 240, .inr (.inl f3))), (a7, .inl (ct 0, 15, .inl f7)), (a8, .inl (ct 0, 200, .inl f8)), (a11, .inl (ct 0, 8, .inl (ur1.2.1 0))), (a12, .inl (ct 0, 8, .inl (ur1.2.1 1))), (a13, .inl (ct 0, 8, .inl (ur1.2.1 2)))] H := hP.sub [2, 0, 1, 3, 4, 5, 6, 7] rfl
  have hD : va_D A [(a0, .inr (11, [.int n0_0, .ref a1, .ref a2, .ref a3, .ref a4, .ref a5, .int n0_6, .int n0_7, .int n0_8, .int n0_9, .int n0_10, .long l0_11, .int n0_12, .int n0_13, .int n0_14, .int n0_15, .ref a6, .ref a7, .ref a8, .ref a9, .ref a10, .ref a11, .ref a12, .ref a13, .int (ur1.1 0), .int (ur1.1 1), .int (ur1.1 2), .int (ur1.1 3), .ref a14, .int n0_29, .int n0_30])), (a2, .inl (ct 0, 4, .inl f2)), (a3, .inl (ct 3, 240, .inr (.inl f3))), (a7, .inl (ct 0, 15, .inl f7)), (a8, .inl (ct 0, 200, .inl f8)), (a11, .inl (ct 0, 8, .inl (ur1.2.1 0))), (a12, .inl (ct 0, 8, .inl (ur1.2.1 1))), (a13, .inl (ct 0, 8, .inl (ur1.2.1 2)))] := hD.sub [2, 0, 1, 3, 4, 5, 6, 7] (by decide) rfl
  obtain ⟨p_1, p_2, p_3, p_4, p_5, p_6, -⟩ := wr1
  refine lv_iconst (v := 0) hx hb dX11_judges_4 (by decide) ?_
  refine lv_istore_n (lv' := [(2, .int 0), (0, .ref a0), (1, .int p0)]) hx hb dX11_judges_5 rfl hl (by decide) rfl (fun ls hl => ?_)
  have j6 : ∀ (n : Nat) (x6_2 : Int32) (v6_0_24 : Int32) (v6_0_25 : Int32) (v6_0_26 : Int32) (f6_5 : Nat → Int32) (f6_6 : Nat → Int32) (H : Heap) (locs : List Loc) (ls : Array Slot), 2147483648 ≤ x6_2.toInt + (n : Int) → rg 0 62 x6_2 → rg 0 0 v6_0_25 → ar (-1) 7 f6_5 → (x6_2).toInt % 3 = 0 → va_P G vwCl [(a0, .inr (11, [.int n0_0, .ref a1, .ref a2, .ref a3, .ref a4, .ref a5, .int n0_6, .int n0_7, .int n0_8, .int n0_9, .int n0_10, .long l0_11, .int n0_12, .int n0_13, .int n0_14, .int n0_15, .ref a6, .ref a7, .ref a8, .ref a9, .ref a10, .ref a11, .ref a12, .ref a13, .int v6_0_24, .int v6_0_25, .int v6_0_26, .int (ur1.1 3), .ref a14, .int n0_29, .int n0_30])), (a2, .inl (ct 0, 4, .inl f2)), (a3, .inl (ct 3, 240, .inr (.inl f3))), (a7, .inl (ct 0, 15, .inl f7)), (a8, .inl (ct 0, 200, .inl f8)), (a11, .inl (ct 0, 8, .inl f6_5)), (a12, .inl (ct 0, 8, .inl f6_6)), (a13, .inl (ct 0, 8, .inl (ur1.2.1 2)))] H → va_D A [(a0, .inr (11, [.int n0_0, .ref a1, .ref a2, .ref a3, .ref a4, .ref a5, .int n0_6, .int n0_7, .int n0_8, .int n0_9, .int n0_10, .long l0_11, .int n0_12, .int n0_13, .int n0_14, .int n0_15, .ref a6, .ref a7, .ref a8, .ref a9, .ref a10, .ref a11, .ref a12, .ref a13, .int v6_0_24, .int v6_0_25, .int v6_0_26, .int (ur1.1 3), .ref a14, .int n0_29, .int n0_30])), (a2, .inl (ct 0, 4, .inl f2)), (a3, .inl (ct 3, 240, .inr (.inl f3))), (a7, .inl (ct 0, 15, .inl f7)), (a8, .inl (ct 0, 200, .inl f8)), (a11, .inl (ct 0, 8, .inl f6_5)), (a12, .inl (ct 0, 8, .inl f6_6)), (a13, .inl (ct 0, 8, .inl (ur1.2.1 2)))] → va_S A s.heap H locs → lv_has ls 4 [(0, .ref a0), (1, .int p0), (2, .int x6_2)] → W p l e (headSpec wsX11_judges ({ frames := 3, cells := 0, slots := 0, locals := 64 })).room s m ([.ref a0, .int p0] : List Value).toArray below meth c H locs 0 0 (MQ below (va_Qi (fun (r : Int32) (u : SU) => rg 0 20 r ∧ ar (-1) 7 (u.2.1 0) ∧ ar (-1) 7 (u.2.1 2) ∧ rg 0 0 (u.1 1) ∧ rg 0 0 (u.1 3) ∧ True) (fun u t => va_P G vwCl ((fun u : SU => [(a0, .inr (11, [.int n0_0, .ref a1, .ref a2, .ref a3, .ref a4, .ref a5, .int n0_6, .int n0_7, .int n0_8, .int n0_9, .int n0_10, .long l0_11, .int n0_12, .int n0_13, .int n0_14, .int n0_15, .ref a6, .ref a7, .ref a8, .ref a9, .ref a10, .ref a11, .ref a12, .ref a13, .int (u.1 0), .int (u.1 1), .int (u.1 2), .int (u.1 3), .ref a14, .int n0_29, .int n0_30])), (a2, .inl (ct 0, 4, .inl f2)), (a3, .inl (ct 3, 240, .inr (.inl f3))), (a7, .inl (ct 0, 15, .inl f7)), (a8, .inl (ct 0, 200, .inl f8)), (a11, .inl (ct 0, 8, .inl (u.2.1 0))), (a12, .inl (ct 0, 8, .inl (u.2.1 1))), (a13, .inl (ct 0, 8, .inl (u.2.1 2)))]) u) t.heap) A) ([.ref a0, .int p0] : List Value).toArray s 0 0 A) (F0 m 6 ls []) := by
    intro n
    induction n with
    | zero => intro x6_2 v6_0_24 v6_0_25 v6_0_26 f6_5 f6_6 H locs ls hn6 hx6_2 hv6_0_25 hf6_5 hm6 hP hD hS hl; exact absurd hn6 (by have := Int32.toInt_lt x6_2; have := Int32.le_toInt x6_2; omega)
    | succ n ih6 =>
      intro x6_2 v6_0_24 v6_0_25 v6_0_26 f6_5 f6_6 H locs ls hn6 hx6_2 hv6_0_25 hf6_5 hm6 hP hD hS hl
      refine lv_iload_n hx hb dX11_judges_6 rfl (lv_at hl 2 rfl) ?_
      refine lv_aload_n hx hb dX11_judges_7 rfl (lv_at hl 0 rfl) ?_
      refine va_get (D := G) (ci := 11) (v := .ref a2) (C := RX11) (T := TX11) (N := 31) hx hb hts (by decide +kernel) hown hK.1 hP 0 rfl rfl 2 (by decide) (hts (.fieldLink RX11 13 "CardHolderModel" "many" "[I") (by decide +kernel)) (fun _ h9 => h9) rfl dX11_judges_8 ?_
      refine lv_iload_n hx hb dX11_judges_11 rfl (lv_at hl 1 rfl) ?_
      refine va_iald hx hb hK.1 hP 1 0 rfl rfl (in_rg hp_p0 (by decide)) dX11_judges_12 ?_
      refine lv_topi (fun z12 gz12 => ?_)
      have hz12 : rg 0 60 z12 := by rw [gz12]; exact hp_f2 _
      refine lv_icmp_ge (tgt := 98) hx hb dX11_judges_13 (by decide) (fun c13 => ?_) (fun c13 => ?_)
      · refine lv_aload_n hx hb dX11_judges_98 rfl (lv_at hl 0 rfl) ?_
        refine va_get (D := G) (ci := 11) (v := .ref a2) (C := RX11) (T := TX11) (N := 31) hx hb hts (by decide +kernel) hown hK.1 hP 0 rfl rfl 2 (by decide) (hts (.fieldLink RX11 13 "CardHolderModel" "many" "[I") (by decide +kernel)) (fun _ h9 => h9) rfl dX11_judges_99 ?_
        refine lv_iload_n hx hb dX11_judges_102 rfl (lv_at hl 1 rfl) ?_
        refine va_iald hx hb hK.1 hP 1 0 rfl rfl (in_rg hp_p0 (by decide)) dX11_judges_103 ?_
        refine ix_i (y := z12) gz12.symm ?_
        refine lv_iconst (v := 3) hx hb dX11_judges_104 (by decide) ?_
        refine lv_idiv hx hb dX11_judges_105 (by decide) ?_
        refine nm_div (f := 20) hz12 (rgn 3 (x := 3) (by decide)) (by decide) (fun z105 hz105 => ?_)
        exact W.iret (v := z105) hx hb hr (fun t ht hW => ⟨⟨z105, (fun k => ([v6_0_24, v6_0_25, v6_0_26, ur1.1 3] : List Int32).getD k 0, fun k => ([f6_5, f6_6, ur1.2.1 2] : List (Nat → Int32)).getD k (fun _ => 0), fun k => ([] : List (Nat → Int64)).getD k (fun _ => 0)), rfl, ⟨hz105, hf6_5, p_2, hv6_0_25, p_6, trivial⟩, hp_at ht hP⟩, hS.F ht⟩) hS.2.2 dX11_judges_106
      · have h_7 : rg 0 59 x6_2 := r_lt_l_i (nle_i c13) hx6_2 hz12 (by decide)
        have h_8 : rg 1 60 z12 := r_lt_r_i (nle_i c13) hx6_2 hz12 (by decide)
        refine lv_bipush (v := 60) hx hb dX11_judges_16 (by decide) ?_
        refine lv_iload_n hx hb dX11_judges_18 rfl (lv_at hl 1 rfl) ?_
        refine lv_imul hx hb dX11_judges_19 ?_
        refine nm_mul (e1 := 0) (f := 180) (rgn 60 (x := 60) (by decide)) hp_p0 (by decide) (fun z19 hz19 ez19 => ?_)
        refine lv_iload_n hx hb dX11_judges_20 rfl (lv_at hl 2 rfl) ?_
        refine lv_iadd hx hb dX11_judges_21 ?_
        refine nm_add (e1 := 0) (f := 239) hz19 h_7 (by decide) (fun z21 hz21 ez21 => ?_)
        refine lv_istore_n (lv' := [(3, .int z21), (0, .ref a0), (1, .int p0), (2, .int x6_2)]) hx hb dX11_judges_22 rfl hl (by decide) rfl (fun ls hl => ?_)
        refine lv_aload_n hx hb dX11_judges_23 rfl (lv_at hl 1 rfl) ?_
        refine va_get (D := G) (ci := 11) (v := .ref a3) (C := RX11) (T := TX11) (N := 31) hx hb hts (by decide +kernel) hown hK.1 hP 0 rfl rfl 3 (by decide) (hts (.fieldLink RX11 16 "CardHolderModel" "cells" "[J") (by decide +kernel)) (fun _ h9 => h9) rfl dX11_judges_24 ?_
        refine lv_iload_n hx hb dX11_judges_27 rfl (lv_at hl 0 rfl) ?_
        refine va_lald hx hb hK.1 hP 2 3 rfl rfl (in_rg hz21 (by decide)) dX11_judges_28 ?_
        refine lv_topl (fun z28 gz28 => ?_)
        refine lv_ldc2 (own := RX11) (v := (-1)) hx hb hown (hts (.constantLong RX11 103 (-1)) (by decide +kernel)) dX11_judges_29 ?_
        refine W.lcmp hx hb dX11_judges_32 ?_
        have j92 : ∀ (v92_0_24 : Int32) (v92_0_25 : Int32) (v92_0_26 : Int32) (f92_5 : Nat → Int32) (f92_6 : Nat → Int32) (H : Heap) (locs : List Loc) (ls : Array Slot), rg 0 0 v92_0_25 → ar (-1) 7 f92_5 → va_P G vwCl [(a0, .inr (11, [.int n0_0, .ref a1, .ref a2, .ref a3, .ref a4, .ref a5, .int n0_6, .int n0_7, .int n0_8, .int n0_9, .int n0_10, .long l0_11, .int n0_12, .int n0_13, .int n0_14, .int n0_15, .ref a6, .ref a7, .ref a8, .ref a9, .ref a10, .ref a11, .ref a12, .ref a13, .int v92_0_24, .int v92_0_25, .int v92_0_26, .int (ur1.1 3), .ref a14, .int n0_29, .int n0_30])), (a2, .inl (ct 0, 4, .inl f2)), (a3, .inl (ct 3, 240, .inr (.inl f3))), (a7, .inl (ct 0, 15, .inl f7)), (a8, .inl (ct 0, 200, .inl f8)), (a11, .inl (ct 0, 8, .inl f92_5)), (a12, .inl (ct 0, 8, .inl f92_6)), (a13, .inl (ct 0, 8, .inl (ur1.2.1 2)))] H → va_D A [(a0, .inr (11, [.int n0_0, .ref a1, .ref a2, .ref a3, .ref a4, .ref a5, .int n0_6, .int n0_7, .int n0_8, .int n0_9, .int n0_10, .long l0_11, .int n0_12, .int n0_13, .int n0_14, .int n0_15, .ref a6, .ref a7, .ref a8, .ref a9, .ref a10, .ref a11, .ref a12, .ref a13, .int v92_0_24, .int v92_0_25, .int v92_0_26, .int (ur1.1 3), .ref a14, .int n0_29, .int n0_30])), (a2, .inl (ct 0, 4, .inl f2)), (a3, .inl (ct 3, 240, .inr (.inl f3))), (a7, .inl (ct 0, 15, .inl f7)), (a8, .inl (ct 0, 200, .inl f8)), (a11, .inl (ct 0, 8, .inl f92_5)), (a12, .inl (ct 0, 8, .inl f92_6)), (a13, .inl (ct 0, 8, .inl (ur1.2.1 2)))] → va_S A s.heap H locs → lv_has ls 4 [(0, .ref a0), (1, .int p0), (2, .int x6_2), (3, .int z21)] → W p l e (headSpec wsX11_judges ({ frames := 3, cells := 0, slots := 0, locals := 64 })).room s m ([.ref a0, .int p0] : List Value).toArray below meth c H locs 0 0 (MQ below (va_Qi (fun (r : Int32) (u : SU) => rg 0 20 r ∧ ar (-1) 7 (u.2.1 0) ∧ ar (-1) 7 (u.2.1 2) ∧ rg 0 0 (u.1 1) ∧ rg 0 0 (u.1 3) ∧ True) (fun u t => va_P G vwCl ((fun u : SU => [(a0, .inr (11, [.int n0_0, .ref a1, .ref a2, .ref a3, .ref a4, .ref a5, .int n0_6, .int n0_7, .int n0_8, .int n0_9, .int n0_10, .long l0_11, .int n0_12, .int n0_13, .int n0_14, .int n0_15, .ref a6, .ref a7, .ref a8, .ref a9, .ref a10, .ref a11, .ref a12, .ref a13, .int (u.1 0), .int (u.1 1), .int (u.1 2), .int (u.1 3), .ref a14, .int n0_29, .int n0_30])), (a2, .inl (ct 0, 4, .inl f2)), (a3, .inl (ct 3, 240, .inr (.inl f3))), (a7, .inl (ct 0, 15, .inl f7)), (a8, .inl (ct 0, 200, .inl f8)), (a11, .inl (ct 0, 8, .inl (u.2.1 0))), (a12, .inl (ct 0, 8, .inl (u.2.1 1))), (a13, .inl (ct 0, 8, .inl (u.2.1 2)))]) u) t.heap) A) ([.ref a0, .int p0] : List Value).toArray s 0 0 A) (F0 m 92 ls []) := by
          intro v92_0_24 v92_0_25 v92_0_26 f92_5 f92_6 H locs ls hv92_0_25 hf92_5 hP hD hS hl
          obtain ⟨z92, qz92⟩ : ∃ y : Int32, y = x6_2 + Int32.ofInt 3 := ⟨_, rfl⟩
          obtain ⟨hz92, ez92⟩ := inc_z (e := 3) (f := 62) h_7 qz92 (by decide)
          refine lv_iinc (v := z92) (lv' := [(2, .int z92), (0, .ref a0), (1, .int p0), (3, .int z21)]) hx hb dX11_judges_92 hl (k := 2) rfl (qz92.symm) (by decide) rfl (fun ls hl => ?_)
          refine lv_goto (tgt := 6) hx hb dX11_judges_95 (by decide) ?_
          exact ih6 z92 v92_0_24 v92_0_25 v92_0_26 f92_5 f92_6 _ _ ls (by have q := hn6; have := ez92; omega) (rg_w (c := 0) (d := 62) hz92 (by decide)) hv92_0_25 hf92_5 (by have := ez92; have := hm6; omega) hP hD hS (lv_sub hl [1, 2, 0] rfl)
        refine lb_ne (tgt := 43) hx hb dX11_judges_33 (by decide) (fun c33 => ?_) (fun c33 => ?_)
        · have ho := okr_n (okj_l (by rw [gz12]; exact hj) c13 hm6 (rg_w (c := 0) (d := 60) h_7 (by decide)) (ix60 ez21 ez19 hp_p0 (rg_w (c := 0) (d := 60) h_7 (by decide)))) gz28 c33
          have h_9 : rl 0 7 z28 := by rw [gz28]; exact ho.1
          refine lv_aload_n hx hb dX11_judges_43 rfl (lv_at hl 1 rfl) ?_
          refine lv_aload_n hx hb dX11_judges_44 rfl (lv_at hl 1 rfl) ?_
          refine va_get (D := G) (ci := 11) (v := .ref a3) (C := RX11) (T := TX11) (N := 31) hx hb hts (by decide +kernel) hown hK.1 hP 0 rfl rfl 3 (by decide) (hts (.fieldLink RX11 16 "CardHolderModel" "cells" "[J") (by decide +kernel)) (fun _ h9 => h9) rfl dX11_judges_45 ?_
          refine lv_iload_n hx hb dX11_judges_48 rfl (lv_at hl 0 rfl) ?_
          refine va_lald hx hb hK.1 hP 2 3 rfl rfl (in_rg hz21 (by decide)) dX11_judges_49 ?_
          refine ix_l (y := z28) gz28.symm ?_
          refine lv_l2i hx hb dX11_judges_50 rfl ?_
          refine nm_l2i h_9 (by decide) (fun z50 hz50 ez50 => ?_)
          refine lv_aload_n hx hb dX11_judges_51 rfl (lv_at hl 1 rfl) ?_
          refine va_get (D := G) (ci := 11) (v := .ref a3) (C := RX11) (T := TX11) (N := 31) hx hb hts (by decide +kernel) hown hK.1 hP 0 rfl rfl 3 (by decide) (hts (.fieldLink RX11 16 "CardHolderModel" "cells" "[J") (by decide +kernel)) (fun _ h9 => h9) rfl dX11_judges_52 ?_
          refine lv_iload_n hx hb dX11_judges_55 rfl (lv_at hl 0 rfl) ?_
          refine lv_iconst (v := 1) hx hb dX11_judges_56 (by decide) ?_
          refine lv_iadd hx hb dX11_judges_57 ?_
          refine nm_add (e1 := 1) (f := 240) hz21 (rgn 1 (x := 1) (by decide)) (by decide) (fun z57 hz57 ez57 => ?_)
          replace ez57 := eqc_r ez57 (c := 1) (by decide)
          refine va_lald hx hb hK.1 hP 2 3 rfl rfl (in_of (by have := hz57.1; omega) (by have := hm6; have := ez57; have := ez21; have := ez19; have h60 : (60 : Int32).toInt = 60 := (by decide); rw [h60] at *; have := h_7; have := hp_p0; omega)) dX11_judges_58 ?_
          refine lv_topl (fun z58 gz58 => ?_)
          have h_10 : rl 0 7 z58 := by rw [gz58, nx1 ez57 (rg_w (c := 0) (d := 240) hz21 (by decide)) (c := 1) rfl]; exact ho.2.1
          refine lv_l2i hx hb dX11_judges_59 rfl ?_
          refine nm_l2i h_10 (by decide) (fun z59 hz59 ez59 => ?_)
          refine lv_aload_n hx hb dX11_judges_60 rfl (lv_at hl 1 rfl) ?_
          refine va_get (D := G) (ci := 11) (v := .ref a3) (C := RX11) (T := TX11) (N := 31) hx hb hts (by decide +kernel) hown hK.1 hP 0 rfl rfl 3 (by decide) (hts (.fieldLink RX11 16 "CardHolderModel" "cells" "[J") (by decide +kernel)) (fun _ h9 => h9) rfl dX11_judges_61 ?_
          refine lv_iload_n hx hb dX11_judges_64 rfl (lv_at hl 0 rfl) ?_
          refine lv_iconst (v := 2) hx hb dX11_judges_65 (by decide) ?_
          refine lv_iadd hx hb dX11_judges_66 ?_
          refine nm_add (e1 := 2) (f := 241) hz21 (rgn 2 (x := 2) (by decide)) (by decide) (fun z66 hz66 ez66 => ?_)
          replace ez66 := eqc_r ez66 (c := 2) (by decide)
          refine va_lald hx hb hK.1 hP 2 3 rfl rfl (in_of (by have := hz66.1; omega) (by have := hm6; have := ez66; have := ez21; have := ez19; have h60 : (60 : Int32).toInt = 60 := (by decide); rw [h60] at *; have := h_7; have := hp_p0; omega)) dX11_judges_67 ?_
          refine lv_topl (fun z67 gz67 => ?_)
          have h_11 : rl 0 5 z67 := by rw [gz67, nx1 ez66 (rg_w (c := 0) (d := 240) hz21 (by decide)) (c := 2) rfl]; exact ho.2.2
          refine lv_l2i hx hb dX11_judges_68 rfl ?_
          refine nm_l2i h_11 (by decide) (fun z68 hz68 ez68 => ?_)
          refine ro_calli (va_runV (As := [.int z50, .int z59, .int z68]) (rest := []) ⟨hx, hb, hml, hown, hts⟩ (a_X11_whyOf l G ct a0 n0_0 a1 a2 a3 a4 a5 n0_6 n0_7 n0_8 n0_9 n0_10 l0_11 n0_12 n0_13 n0_14 n0_15 a6 a7 a8 a9 a10 a11 a12 a13 v6_0_24 v6_0_25 v6_0_26 (ur1.1 3) a14 n0_29 n0_30 f8 f6_5 z50 z59 z68 hp_n0_6 hp_f8 hf6_5 hz50 hz59) (cwV 3 hts gX11_judges_X11_whyOf rfl rfl rfl (by decide +kernel) ⟨Nat.le_of_ble_eq_true rfl, Nat.le_of_ble_eq_true rfl⟩) (ro_preV 11 0 hK (hP.sub [0, 4, 5] rfl) rfl rfl) rfl rfl hl.1 rfl (lv_room (Nat.le_of_ble_eq_true rfl)) dX11_judges_69 ⟨Nat.zero_le _, Nat.zero_le _⟩) hS hP (fun r69 H locs wr69 hP hS => ?_)
          obtain ⟨p_12, -⟩ := wr69
          refine lv_if_eq (tgt := 79) hx hb dX11_judges_72 (by decide) (fun c72 => ?_) (fun c72 => ?_)
          · have h_13 : rg 0 0 r69 := r_eq_l_i (e := 0) (f := 0) c72 p_12 (rgn 0 (x := 0) (by decide)) (by decide)
            refine lv_aload_n hx hb dX11_judges_79 rfl (lv_at hl 1 rfl) ?_
            refine lv_aload_n hx hb dX11_judges_80 rfl (lv_at hl 1 rfl) ?_
            refine va_get (D := G) (ci := 11) (v := .ref a3) (C := RX11) (T := TX11) (N := 31) hx hb hts (by decide +kernel) hown hK.1 hP 0 rfl rfl 3 (by decide) (hts (.fieldLink RX11 16 "CardHolderModel" "cells" "[J") (by decide +kernel)) (fun _ h9 => h9) rfl dX11_judges_81 ?_
            refine lv_iload_n hx hb dX11_judges_84 rfl (lv_at hl 0 rfl) ?_
            refine lv_iconst (v := 1) hx hb dX11_judges_85 (by decide) ?_
            refine lv_iadd hx hb dX11_judges_86 ?_
            refine nm_add (e1 := 1) (f := 240) hz21 (rgn 1 (x := 1) (by decide)) (by decide) (fun z86 hz86 ez86 => ?_)
            replace ez86 := eqc_r ez86 (c := 1) (by decide)
            refine va_lald hx hb hK.1 hP 2 3 rfl rfl (in_of (by have := hz86.1; omega) (by have := hm6; have := ez86; have := ez21; have := ez19; have h60 : (60 : Int32).toInt = 60 := (by decide); rw [h60] at *; have := h_7; have := hp_p0; omega)) dX11_judges_87 ?_
            refine lv_topl (fun z87 gz87 => ?_)
            have h_14 : rl 0 7 z87 := by rw [gz87, nx1 ez86 (rg_w (c := 0) (d := 240) hz21 (by decide)) (c := 1) rfl]; exact ho.2.1
            refine lv_l2i hx hb dX11_judges_88 rfl ?_
            refine nm_l2i h_14 (by decide) (fun z88 hz88 ez88 => ?_)
            refine wj_callv (wr := [(a2, .inl (ct 0, 4, .inl f2)), (a3, .inl (ct 3, 240, .inr (.inl f3))), (a13, .inl (ct 0, 8, .inl (ur1.2.1 2)))]) (w1 := (fun u : SU => [(a0, .inr (11, [.int n0_0, .ref a1, .ref a2, .ref a3, .ref a4, .ref a5, .int n0_6, .int n0_7, .int n0_8, .int n0_9, .int n0_10, .long l0_11, .int n0_12, .int n0_13, .int n0_14, .int n0_15, .ref a6, .ref a7, .ref a8, .ref a9, .ref a10, .ref a11, .ref a12, .ref a13, .int (u.1 0), .int v6_0_25, .int v6_0_26, .int (ur1.1 3), .ref a14, .int n0_29, .int n0_30])), (a7, .inl (ct 0, 15, .inl f7)), (a8, .inl (ct 0, 200, .inl f8)), (a11, .inl (ct 0, 8, .inl (u.2.1 0))), (a12, .inl (ct 0, 8, .inl (u.2.1 1)))])) (va_runV (As := [.int z88]) (rest := []) ⟨hx, hb, hml, hown, hts⟩ (a_X11_isAsked l G ct a0 n0_0 a1 a2 a3 a4 a5 n0_6 n0_7 n0_8 n0_9 n0_10 l0_11 n0_12 n0_13 n0_14 n0_15 a6 a7 a8 a9 a10 a11 a12 a13 v6_0_24 v6_0_25 v6_0_26 (ur1.1 3) a14 n0_29 n0_30 f7 f8 f6_5 f6_6 z88 hp_n0_6 hp_f7 hp_f8 hf6_5 hz88) (cwV 1 hts gX11_judges_X11_isAsked rfl rfl rfl (by decide +kernel) ⟨Nat.le_of_ble_eq_true rfl, Nat.le_of_ble_eq_true rfl⟩) (wr_preV 11 0 hK (hP.sub [0, 3, 4, 5, 6] rfl) (hD.sub [0, 3, 4, 5, 6] (by decide) rfl) rfl rfl) rfl rfl hl.1 rfl (lv_room (Nat.le_of_ble_eq_true rfl)) dX11_judges_89 ⟨Nat.zero_le _, Nat.zero_le _⟩) hS hP hD [0, 3, 4, 5, 6] [1, 2, 7] rfl rfl (by decide) (fun _ => rfl) (fun ur89 H locs wr89 hP hD hS => ?_)
            have hP : va_P G vwCl [(a0, .inr (11, [.int n0_0, .ref a1, .ref a2, .ref a3, .ref a4, .ref a5, .int n0_6, .int n0_7, .int n0_8, .int n0_9, .int n0_10, .long l0_11, .int n0_12, .int n0_13, .int n0_14, .int n0_15, .ref a6, .ref a7, .ref a8, .ref a9, .ref a10, .ref a11, .ref a12, .ref a13, .int (ur89.1 0), .int v6_0_25, .int v6_0_26, .int (ur1.1 3), .ref a14, .int n0_29, .int n0_30])), (a2, .inl (ct 0, 4, .inl f2)), (a3, .inl (ct 3, 240, .inr (.inl f3))), (a7, .inl (ct 0, 15, .inl f7)), (a8, .inl (ct 0, 200, .inl f8)), (a11, .inl (ct 0, 8, .inl (ur89.2.1 0))), (a12, .inl (ct 0, 8, .inl (ur89.2.1 1))), (a13, .inl (ct 0, 8, .inl (ur1.2.1 2)))] H := hP.sub [3, 0, 1, 4, 5, 6, 7, 2] rfl
            have hD : va_D A [(a0, .inr (11, [.int n0_0, .ref a1, .ref a2, .ref a3, .ref a4, .ref a5, .int n0_6, .int n0_7, .int n0_8, .int n0_9, .int n0_10, .long l0_11, .int n0_12, .int n0_13, .int n0_14, .int n0_15, .ref a6, .ref a7, .ref a8, .ref a9, .ref a10, .ref a11, .ref a12, .ref a13, .int (ur89.1 0), .int v6_0_25, .int v6_0_26, .int (ur1.1 3), .ref a14, .int n0_29, .int n0_30])), (a2, .inl (ct 0, 4, .inl f2)), (a3, .inl (ct 3, 240, .inr (.inl f3))), (a7, .inl (ct 0, 15, .inl f7)), (a8, .inl (ct 0, 200, .inl f8)), (a11, .inl (ct 0, 8, .inl (ur89.2.1 0))), (a12, .inl (ct 0, 8, .inl (ur89.2.1 1))), (a13, .inl (ct 0, 8, .inl (ur1.2.1 2)))] := hD.sub [3, 0, 1, 4, 5, 6, 7, 2] (by decide) rfl
            obtain ⟨p_15, -⟩ := wr89
            exact j92 (ur89.1 0) v6_0_25 v6_0_26 (ur89.2.1 0) (ur89.2.1 1) _ _ ls hv6_0_25 p_15 hP hD hS (lv_sub hl [1, 2, 3, 0] rfl)
          · have h_16 : rg 1 3 r69 := r_ne_lo_i c72 p_12 (by decide) (by decide)
            refine lv_iload_n hx hb dX11_judges_75 rfl (lv_at hl 3 rfl) ?_
            refine lv_iconst (v := 3) hx hb dX11_judges_76 (by decide) ?_
            refine lv_idiv hx hb dX11_judges_77 (by decide) ?_
            refine nm_div (f := 19) h_7 (rgn 3 (x := 3) (by decide)) (by decide) (fun z77 hz77 => ?_)
            exact W.iret (v := z77) hx hb hr (fun t ht hW => ⟨⟨z77, (fun k => ([v6_0_24, v6_0_25, v6_0_26, ur1.1 3] : List Int32).getD k 0, fun k => ([f6_5, f6_6, ur1.2.1 2] : List (Nat → Int32)).getD k (fun _ => 0), fun k => ([] : List (Nat → Int64)).getD k (fun _ => 0)), rfl, ⟨(rg_w (c := 0) (d := 20) hz77 (by decide)), hf6_5, p_2, hv6_0_25, p_6, trivial⟩, hp_at ht hP⟩, hS.F ht⟩) hS.2.2 dX11_judges_78
        · have h_17 : rl (-1) (-1) z28 := r_eq_l_l (e := (-1)) (f := (-1)) c33 (rl_t z28) (rln (-1) (x := (-1)) (by decide)) (by decide)
          refine lv_aload_n hx hb dX11_judges_36 rfl (lv_at hl 1 rfl) ?_
          refine wj_callv (wr := [(a2, .inl (ct 0, 4, .inl f2)), (a3, .inl (ct 3, 240, .inr (.inl f3))), (a8, .inl (ct 0, 200, .inl f8)), (a12, .inl (ct 0, 8, .inl f6_6))]) (w1 := (fun u : SU => [(a0, .inr (11, [.int n0_0, .ref a1, .ref a2, .ref a3, .ref a4, .ref a5, .int n0_6, .int n0_7, .int n0_8, .int n0_9, .int n0_10, .long l0_11, .int n0_12, .int n0_13, .int n0_14, .int n0_15, .ref a6, .ref a7, .ref a8, .ref a9, .ref a10, .ref a11, .ref a12, .ref a13, .int (u.1 0), .int (u.1 1), .int (u.1 2), .int (ur1.1 3), .ref a14, .int n0_29, .int n0_30])), (a7, .inl (ct 0, 15, .inl f7)), (a11, .inl (ct 0, 8, .inl (u.2.1 0))), (a13, .inl (ct 0, 8, .inl (ur1.2.1 2)))])) (va_runV (As := []) (rest := []) ⟨hx, hb, hml, hown, hts⟩ (a_X11_dayEnds l G ct a0 n0_0 a1 a2 a3 a4 a5 n0_6 n0_7 n0_8 n0_9 n0_10 l0_11 n0_12 n0_13 n0_14 n0_15 a6 a7 a8 a9 a10 a11 a12 a13 v6_0_24 v6_0_25 v6_0_26 (ur1.1 3) a14 n0_29 n0_30 f7 f6_5 (ur1.2.1 2) hp_n0_6 hp_f7 hf6_5 p_2) (cwV 0 hts gX11_judges_X11_dayEnds rfl rfl rfl (by decide +kernel) ⟨Nat.le_of_ble_eq_true rfl, Nat.le_of_ble_eq_true rfl⟩) (wr_preV 11 0 hK (hP.sub [0, 3, 5, 7] rfl) (hD.sub [0, 3, 5, 7] (by decide) rfl) rfl rfl) rfl rfl hl.1 rfl (lv_room (Nat.le_of_ble_eq_true rfl)) dX11_judges_37 ⟨Nat.zero_le _, Nat.zero_le _⟩) hS hP hD [0, 3, 5, 7] [1, 2, 4, 6] rfl rfl (by decide) (fun _ => rfl) (fun ur37 H locs wr37 hP hD hS => ?_)
          have hP : va_P G vwCl [(a0, .inr (11, [.int n0_0, .ref a1, .ref a2, .ref a3, .ref a4, .ref a5, .int n0_6, .int n0_7, .int n0_8, .int n0_9, .int n0_10, .long l0_11, .int n0_12, .int n0_13, .int n0_14, .int n0_15, .ref a6, .ref a7, .ref a8, .ref a9, .ref a10, .ref a11, .ref a12, .ref a13, .int (ur37.1 0), .int (ur37.1 1), .int (ur37.1 2), .int (ur1.1 3), .ref a14, .int n0_29, .int n0_30])), (a2, .inl (ct 0, 4, .inl f2)), (a3, .inl (ct 3, 240, .inr (.inl f3))), (a7, .inl (ct 0, 15, .inl f7)), (a8, .inl (ct 0, 200, .inl f8)), (a11, .inl (ct 0, 8, .inl (ur37.2.1 0))), (a12, .inl (ct 0, 8, .inl f6_6)), (a13, .inl (ct 0, 8, .inl (ur1.2.1 2)))] H := hP.sub [4, 0, 1, 5, 2, 6, 3, 7] rfl
          have hD : va_D A [(a0, .inr (11, [.int n0_0, .ref a1, .ref a2, .ref a3, .ref a4, .ref a5, .int n0_6, .int n0_7, .int n0_8, .int n0_9, .int n0_10, .long l0_11, .int n0_12, .int n0_13, .int n0_14, .int n0_15, .ref a6, .ref a7, .ref a8, .ref a9, .ref a10, .ref a11, .ref a12, .ref a13, .int (ur37.1 0), .int (ur37.1 1), .int (ur37.1 2), .int (ur1.1 3), .ref a14, .int n0_29, .int n0_30])), (a2, .inl (ct 0, 4, .inl f2)), (a3, .inl (ct 3, 240, .inr (.inl f3))), (a7, .inl (ct 0, 15, .inl f7)), (a8, .inl (ct 0, 200, .inl f8)), (a11, .inl (ct 0, 8, .inl (ur37.2.1 0))), (a12, .inl (ct 0, 8, .inl f6_6)), (a13, .inl (ct 0, 8, .inl (ur1.2.1 2)))] := hD.sub [4, 0, 1, 5, 2, 6, 3, 7] (by decide) rfl
          obtain ⟨p_18, p_19, p_20, -⟩ := wr37
          refine lv_goto (tgt := 92) hx hb dX11_judges_40 (by decide) ?_
          exact j92 (ur37.1 0) (ur37.1 1) (ur37.1 2) (ur37.2.1 0) f6_6 _ _ ls p_20 p_18 hP hD hS (lv_sub hl [1, 2, 3, 0] rfl)
  exact j6 4294967296 (0 : Int32) (ur1.1 0) (ur1.1 1) (ur1.1 2) (ur1.2.1 0) (ur1.2.1 1) _ _ ls (ms_e (0 : Int32)) (rg_w (c := 0) (d := 62) (rgn 0 (x := 0) (by decide)) (by decide)) p_4 p_1 (by decide) hP hD hS (lv_sub hl [1, 2, 0] rfl)

set_option maxHeartbeats 4000000 in
set_option maxRecDepth 100000 in
theorem a_X11_judge (l : Launch) (G : va_G) (ct : Nat → ClassId) (a0 : Nat) (n0_0 : Int32) (a1 : Nat) (a2 : Nat) (a3 : Nat) (a4 : Nat) (a5 : Nat) (n0_6 : Int32) (n0_7 : Int32) (n0_8 : Int32) (n0_9 : Int32) (n0_10 : Int32) (l0_11 : Int64) (n0_12 : Int32) (n0_13 : Int32) (n0_14 : Int32) (n0_15 : Int32) (a6 : Nat) (a7 : Nat) (a8 : Nat) (a9 : Nat) (a10 : Nat) (a11 : Nat) (a12 : Nat) (a13 : Nat) (n0_24 : Int32) (n0_25 : Int32) (n0_26 : Int32) (n0_27 : Int32) (a14 : Nat) (n0_29 : Int32) (n0_30 : Int32) (f1 : Nat → Int32) (f2 : Nat → Int32) (f3 : Nat → Int64) (f6 : Nat → Int32) (f7 : Nat → Int32) (f8 : Nat → Int32) (f11 : Nat → Int32) (f12 : Nat → Int32) (f13 : Nat → Int32) (p0 : Int32) (hp_f2 : ar 0 60 f2) (hp_n0_6 : rg 0 900 n0_6) (hp_f7 : hsI f7) (hp_f8 : psI f8) (hp_f11 : ar (-1) 7 f11) (hp_f13 : ar (-1) 7 f13) : Met l yX11_judge wsX11_judge ({ frames := 4, cells := 0, slots := 0, locals := 87 }) (va_Pc [.ref a0, .int p0] (wrP G ct [(a0, .inr (11, [.int n0_0, .ref a1, .ref a2, .ref a3, .ref a4, .ref a5, .int n0_6, .int n0_7, .int n0_8, .int n0_9, .int n0_10, .long l0_11, .int n0_12, .int n0_13, .int n0_14, .int n0_15, .ref a6, .ref a7, .ref a8, .ref a9, .ref a10, .ref a11, .ref a12, .ref a13, .int n0_24, .int n0_25, .int n0_26, .int n0_27, .ref a14, .int n0_29, .int n0_30])), (a1, .inl (ct 0, 4, .inl f1)), (a2, .inl (ct 0, 4, .inl f2)), (a3, .inl (ct 3, 240, .inr (.inl f3))), (a6, .inl (ct 0, 5, .inl f6)), (a7, .inl (ct 0, 15, .inl f7)), (a8, .inl (ct 0, 200, .inl f8)), (a11, .inl (ct 0, 8, .inl f11)), (a12, .inl (ct 0, 8, .inl f12)), (a13, .inl (ct 0, 8, .inl f13))])) (va_Qi (fun (r : Int32) (u : SU) => rg (-6) 20 r ∧ (r = 0 → rg 0 3 p0) ∧ (¬ r = (-2) → rg 0 3 p0) ∧ ar (-1) 7 (u.2.1 0) ∧ ar (-1) 7 (u.2.1 2) ∧ rg 0 0 (u.1 0) ∧ True) (fun u t => va_P G vwCl ((fun u : SU => [(a0, .inr (11, [.int (u.1 0), .ref a1, .ref a2, .ref a3, .ref a4, .ref a5, .int n0_6, .int n0_7, .int n0_8, .int n0_9, .int n0_10, .long l0_11, .int n0_12, .int n0_13, .int n0_14, .int n0_15, .ref a6, .ref a7, .ref a8, .ref a9, .ref a10, .ref a11, .ref a12, .ref a13, .int (u.1 1), .int (u.1 2), .int (u.1 3), .int (u.1 4), .ref a14, .int n0_29, .int n0_30])), (a1, .inl (ct 0, 4, .inl f1)), (a2, .inl (ct 0, 4, .inl f2)), (a3, .inl (ct 3, 240, .inr (.inl f3))), (a6, .inl (ct 0, 5, .inl f6)), (a7, .inl (ct 0, 15, .inl f7)), (a8, .inl (ct 0, 200, .inl f8)), (a11, .inl (ct 0, 8, .inl (u.2.1 0))), (a12, .inl (ct 0, 8, .inl (u.2.1 1))), (a13, .inl (ct 0, 8, .inl (u.2.1 2)))]) u) t.heap) (aset [(a0, .inr (11, [.int n0_0, .ref a1, .ref a2, .ref a3, .ref a4, .ref a5, .int n0_6, .int n0_7, .int n0_8, .int n0_9, .int n0_10, .long l0_11, .int n0_12, .int n0_13, .int n0_14, .int n0_15, .ref a6, .ref a7, .ref a8, .ref a9, .ref a10, .ref a11, .ref a12, .ref a13, .int n0_24, .int n0_25, .int n0_26, .int n0_27, .ref a14, .int n0_29, .int n0_30])), (a1, .inl (ct 0, 4, .inl f1)), (a2, .inl (ct 0, 4, .inl f2)), (a3, .inl (ct 3, 240, .inr (.inl f3))), (a6, .inl (ct 0, 5, .inl f6)), (a7, .inl (ct 0, 15, .inl f7)), (a8, .inl (ct 0, 200, .inl f8)), (a11, .inl (ct 0, 8, .inl f11)), (a12, .inl (ct 0, 8, .inl f12)), (a13, .inl (ct 0, 8, .inl f13))])) 0 0 (aset [(a0, .inr (11, [.int n0_0, .ref a1, .ref a2, .ref a3, .ref a4, .ref a5, .int n0_6, .int n0_7, .int n0_8, .int n0_9, .int n0_10, .long l0_11, .int n0_12, .int n0_13, .int n0_14, .int n0_15, .ref a6, .ref a7, .ref a8, .ref a9, .ref a10, .ref a11, .ref a12, .ref a13, .int n0_24, .int n0_25, .int n0_26, .int n0_27, .ref a14, .int n0_29, .int n0_30])), (a1, .inl (ct 0, 4, .inl f1)), (a2, .inl (ct 0, 4, .inl f2)), (a3, .inl (ct 3, 240, .inr (.inl f3))), (a6, .inl (ct 0, 5, .inl f6)), (a7, .inl (ct 0, 15, .inl f7)), (a8, .inl (ct 0, 200, .inl f8)), (a11, .inl (ct 0, 8, .inl f11)), (a12, .inl (ct 0, 8, .inl f12)), (a13, .inl (ct 0, 8, .inl f13))]) := by
  refine Met.ofW (cc := cX11_judge) (maxL := 3) (ret := (some .int)) (by decide) rfl ?_
  intro p e s m args below meth c s₁ B hml hv
  obtain ⟨rfl, hP, hK, hD0⟩ := hv
  have hx := B.exec
  have hb := B.bytes
  have hr := B.returns
  have hts := atoms_spec (ws := wsX11_judge) B.pre
  have hown : s.vm.findClass RX11 = some m.cls := findClass_of_methodNamed B.named
  have hlocks := B.notSynchronized
  have hD := hD0.aself
  generalize hAe : aset [(a0, .inr (11, [.int n0_0, .ref a1, .ref a2, .ref a3, .ref a4, .ref a5, .int n0_6, .int n0_7, .int n0_8, .int n0_9, .int n0_10, .long l0_11, .int n0_12, .int n0_13, .int n0_14, .int n0_15, .ref a6, .ref a7, .ref a8, .ref a9, .ref a10, .ref a11, .ref a12, .ref a13, .int n0_24, .int n0_25, .int n0_26, .int n0_27, .ref a14, .int n0_29, .int n0_30])), (a1, .inl (ct 0, 4, .inl f1)), (a2, .inl (ct 0, 4, .inl f2)), (a3, .inl (ct 3, 240, .inr (.inl f3))), (a6, .inl (ct 0, 5, .inl f6)), (a7, .inl (ct 0, 15, .inl f7)), (a8, .inl (ct 0, 200, .inl f8)), (a11, .inl (ct 0, 8, .inl f11)), (a12, .inl (ct 0, 8, .inl f12)), (a13, .inl (ct 0, 8, .inl f13))] = A at hD ⊢
  have hS : va_S A s.heap s.heap [] := va_S.rf
  have hl := lv_entry ([.ref a0, .int p0]) (n := 3) (Nat.le_of_ble_eq_true rfl)
  rw [lg_entry_eq]
  generalize (lg_sl ([.ref a0, .int p0]) ++ List.replicate (3 - (lg_sl ([.ref a0, .int p0])).length) Slot.unset).toArray = ls at hl ⊢
  have hl : lv_has ls 3 [(0, .ref a0), (1, .int p0)] := hl
  refine lv_aload_n hx hb dX11_judge_0 rfl (lv_at hl 0 rfl) ?_
  refine lv_iconst (v := 0) hx hb dX11_judge_1 (by decide) ?_
  refine va_put (D := G) (ci := 11) (v := .int 0) (ty := .int) (C := RX11) (T := TX11) (N := 31) hx hb hts (by decide +kernel) tyX11 tyX11_ok nmX11 hown hK.1 hP hD hS 0 rfl rfl 0 (by decide) (hts (.fieldLink RX11 59 "CardHolderModel" "thrown" "I") (by decide +kernel)) (fun _ h9 => h9) rfl (by decide +kernel) rfl rfl (Nat.le_of_ble_eq_true rfl) dX11_judge_2 (fun H locs hP hD hS => ?_)
  refine lv_aload_n hx hb dX11_judge_5 rfl (lv_at hl 0 rfl) ?_
  refine lv_iload_n hx hb dX11_judge_6 rfl (lv_at hl 1 rfl) ?_
  refine ro_calli (va_runV (As := [.int p0]) (rest := []) ⟨hx, hb, hml, hown, hts⟩ (a_X11_whyNotJudge l G ct a0 (0 : Int32) a1 a2 a3 a4 a5 n0_6 n0_7 n0_8 n0_9 n0_10 l0_11 n0_12 n0_13 n0_14 n0_15 a6 a7 a8 a9 a10 a11 a12 a13 n0_24 n0_25 n0_26 n0_27 a14 n0_29 n0_30 f1 f2 f3 f6 f7 p0 hp_f2 hp_n0_6 hp_f7) (cwV 1 hts gX11_judge_X11_whyNotJudge rfl rfl rfl (by decide +kernel) ⟨Nat.le_of_ble_eq_true rfl, Nat.le_of_ble_eq_true rfl⟩) (ro_preV 11 0 hK (hP.sub [0, 1, 2, 3, 4, 5] rfl) rfl rfl) rfl rfl hl.1 rfl (lv_room (Nat.le_of_ble_eq_true rfl)) dX11_judge_7 ⟨Nat.zero_le _, Nat.zero_le _⟩) hS hP (fun r7 H locs wr7 hP hS => ?_)
  obtain ⟨p_1, p_2, p_3, p_4, -⟩ := wr7
  refine lv_istore_n (lv' := [(2, .int r7), (0, .ref a0), (1, .int p0)]) hx hb dX11_judge_10 rfl hl (by decide) rfl (fun ls hl => ?_)
  refine lv_iload_n hx hb dX11_judge_11 rfl (lv_at hl 0 rfl) ?_
  refine lv_if_eq (tgt := 19) hx hb dX11_judge_12 (by decide) (fun c12 => ?_) (fun c12 => ?_)
  · have h_5 : rg 0 0 r7 := r_eq_l_i (e := 0) (f := 0) c12 p_1 (rgn 0 (x := 0) (by decide)) (by decide)
    have h_6 : rg 0 3 p0 := (p_2 (req h_5 (y := 0) (by decide)))
    refine lv_aload_n hx hb dX11_judge_19 rfl (lv_at hl 1 rfl) ?_
    refine lv_iload_n hx hb dX11_judge_20 rfl (lv_at hl 2 rfl) ?_
    refine wj_calli (wr := [(a1, .inl (ct 0, 4, .inl f1)), (a6, .inl (ct 0, 5, .inl f6))]) (w1 := (fun u : SU => [(a0, .inr (11, [.int 0, .ref a1, .ref a2, .ref a3, .ref a4, .ref a5, .int n0_6, .int n0_7, .int n0_8, .int n0_9, .int n0_10, .long l0_11, .int n0_12, .int n0_13, .int n0_14, .int n0_15, .ref a6, .ref a7, .ref a8, .ref a9, .ref a10, .ref a11, .ref a12, .ref a13, .int (u.1 0), .int (u.1 1), .int (u.1 2), .int (u.1 3), .ref a14, .int n0_29, .int n0_30])), (a2, .inl (ct 0, 4, .inl f2)), (a3, .inl (ct 3, 240, .inr (.inl f3))), (a7, .inl (ct 0, 15, .inl f7)), (a8, .inl (ct 0, 200, .inl f8)), (a11, .inl (ct 0, 8, .inl (u.2.1 0))), (a12, .inl (ct 0, 8, .inl (u.2.1 1))), (a13, .inl (ct 0, 8, .inl (u.2.1 2)))])) (va_runV (As := [.int p0]) (rest := []) ⟨hx, hb, hml, hown, hts⟩ (a_X11_judges l G ct a0 (0 : Int32) a1 a2 a3 a4 a5 n0_6 n0_7 n0_8 n0_9 n0_10 l0_11 n0_12 n0_13 n0_14 n0_15 a6 a7 a8 a9 a10 a11 a12 a13 n0_24 n0_25 n0_26 n0_27 a14 n0_29 n0_30 f2 f3 f7 f8 f11 f12 f13 p0 hp_f2 hp_n0_6 hp_f7 hp_f8 hp_f11 hp_f13 h_6 (p_4 (req h_5 (y := 0) (by decide)))) (cwV 1 hts gX11_judge_X11_judges rfl rfl rfl (by decide +kernel) ⟨Nat.le_of_ble_eq_true rfl, Nat.le_of_ble_eq_true rfl⟩) (wr_preV 11 0 hK (hP.sub [0, 2, 3, 5, 6, 7, 8, 9] rfl) (hD.sub [0, 2, 3, 5, 6, 7, 8, 9] (by decide) rfl) rfl rfl) rfl rfl hl.1 rfl (lv_room (Nat.le_of_ble_eq_true rfl)) dX11_judge_21 ⟨Nat.zero_le _, Nat.zero_le _⟩) hS hP hD [0, 2, 3, 5, 6, 7, 8, 9] [1, 4] rfl rfl (by decide) (fun _ => rfl) (fun r21 ur21 H locs wr21 hP hD hS => ?_)
    have hP : va_P G vwCl [(a0, .inr (11, [.int 0, .ref a1, .ref a2, .ref a3, .ref a4, .ref a5, .int n0_6, .int n0_7, .int n0_8, .int n0_9, .int n0_10, .long l0_11, .int n0_12, .int n0_13, .int n0_14, .int n0_15, .ref a6, .ref a7, .ref a8, .ref a9, .ref a10, .ref a11, .ref a12, .ref a13, .int (ur21.1 0), .int (ur21.1 1), .int (ur21.1 2), .int (ur21.1 3), .ref a14, .int n0_29, .int n0_30])), (a1, .inl (ct 0, 4, .inl f1)), (a2, .inl (ct 0, 4, .inl f2)), (a3, .inl (ct 3, 240, .inr (.inl f3))), (a6, .inl (ct 0, 5, .inl f6)), (a7, .inl (ct 0, 15, .inl f7)), (a8, .inl (ct 0, 200, .inl f8)), (a11, .inl (ct 0, 8, .inl (ur21.2.1 0))), (a12, .inl (ct 0, 8, .inl (ur21.2.1 1))), (a13, .inl (ct 0, 8, .inl (ur21.2.1 2)))] H := hP.sub [2, 0, 3, 4, 1, 5, 6, 7, 8, 9] rfl
    have hD : va_D A [(a0, .inr (11, [.int 0, .ref a1, .ref a2, .ref a3, .ref a4, .ref a5, .int n0_6, .int n0_7, .int n0_8, .int n0_9, .int n0_10, .long l0_11, .int n0_12, .int n0_13, .int n0_14, .int n0_15, .ref a6, .ref a7, .ref a8, .ref a9, .ref a10, .ref a11, .ref a12, .ref a13, .int (ur21.1 0), .int (ur21.1 1), .int (ur21.1 2), .int (ur21.1 3), .ref a14, .int n0_29, .int n0_30])), (a1, .inl (ct 0, 4, .inl f1)), (a2, .inl (ct 0, 4, .inl f2)), (a3, .inl (ct 3, 240, .inr (.inl f3))), (a6, .inl (ct 0, 5, .inl f6)), (a7, .inl (ct 0, 15, .inl f7)), (a8, .inl (ct 0, 200, .inl f8)), (a11, .inl (ct 0, 8, .inl (ur21.2.1 0))), (a12, .inl (ct 0, 8, .inl (ur21.2.1 1))), (a13, .inl (ct 0, 8, .inl (ur21.2.1 2)))] := hD.sub [2, 0, 3, 4, 1, 5, 6, 7, 8, 9] (by decide) rfl
    obtain ⟨p_7, p_8, p_9, p_10, p_11, -⟩ := wr21
    exact W.iret (v := r21) hx hb hr (fun t ht hW => ⟨⟨r21, (fun k => ([0, ur21.1 0, ur21.1 1, ur21.1 2, ur21.1 3] : List Int32).getD k 0, fun k => ([ur21.2.1 0, ur21.2.1 1, ur21.2.1 2] : List (Nat → Int32)).getD k (fun _ => 0), fun k => ([] : List (Nat → Int64)).getD k (fun _ => 0)), rfl, ⟨(rg_w (c := (-6)) (d := 20) p_7 (by decide)), (fun _ => h_6), (fun _ => h_6), p_8, p_9, (rgn 0 (x := 0) (by decide)), trivial⟩, hp_at ht hP⟩, hS.F ht⟩) hS.2.2 dX11_judge_24
  · have h_12 : rg (-6) (-1) r7 := r_ne_hi_i c12 p_1 (by decide) (by decide)
    refine lv_iload_n hx hb dX11_judge_15 rfl (lv_at hl 0 rfl) ?_
    refine lv_goto (tgt := 24) hx hb dX11_judge_16 (by decide) ?_
    exact W.iret (v := r7) hx hb hr (fun t ht hW => ⟨⟨r7, (fun k => ([0, n0_24, n0_25, n0_26, n0_27] : List Int32).getD k 0, fun k => ([f11, f12, f13] : List (Nat → Int32)).getD k (fun _ => 0), fun k => ([] : List (Nat → Int64)).getD k (fun _ => 0)), rfl, ⟨(rg_w (c := (-6)) (d := 20) h_12 (by decide)), (fun hq => rg_w (p_2 hq) (by decide)), (fun hq => rg_w (p_3 hq) (by decide)), hp_f11, hp_f13, (rgn 0 (x := 0) (by decide)), trivial⟩, hp_at ht hP⟩, hS.F ht⟩) hS.2.2 dX11_judge_24
