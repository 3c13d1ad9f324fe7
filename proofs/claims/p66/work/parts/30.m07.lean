theorem dX11_work_0 : decode cX11_work 0 = .ok (.aload_n 0, 1) := by decide +kernel
theorem dX11_work_1 : decode cX11_work 1 = .ok (.iconst 0, 1) := by decide +kernel
theorem dX11_work_2 : decode cX11_work 2 = .ok (.putfield 59, 3) := by decide +kernel
theorem dX11_work_5 : decode cX11_work 5 = .ok (.aload_n 0, 1) := by decide +kernel
set_option maxRecDepth 20000 in
theorem ggX11_work_X11_isCity : GoodIn wsX11_work wsX11_isCity := goodIn_r _ [8, 9, 58, 59, 60, 61, 62, 63, 64, 65, 66, 67, 68, 69, 70, 71, 72, 73, 74, 75, 76, 77, 78, 79, 80, 81, 82, 83, 84, 85, 86, 87, 88] (by rfl) (by decide +kernel)
set_option maxRecDepth 20000 in
theorem gX11_work_X11_isCity : GoodIn wsX11_work (wsV RX11 209 RX11 yX11_isCity wsX11_isCity) := goodIn_app (goodIn_r _ [4, 5, 6, 7] (by rfl) (by decide +kernel)) ggX11_work_X11_isCity
theorem dX11_work_6 : decode cX11_work 6 = .ok (.invokevirtual 209, 3) := by decide +kernel
theorem dX11_work_9 : decode cX11_work 9 = .ok (.ifCond .ne 6, 3) := by decide +kernel
theorem dX11_work_15 : decode cX11_work 15 = .ok (.aload_n 0, 1) := by decide +kernel
set_option maxRecDepth 20000 in
theorem ggX11_work_X11_laysNow : GoodIn wsX11_work wsX11_laysNow := goodIn_r _ [13, 2, 14, 15, 16, 17, 7, 18, 19, 20, 21, 22, 23, 24, 25, 26, 27, 28, 29, 30, 31, 32, 33, 34, 35, 36, 37, 38, 39, 40, 41, 42, 43, 44, 45, 46, 47, 48, 49, 58, 59, 60, 61, 62, 63, 64, 65, 66, 67, 68, 69, 70, 71, 72, 73, 74, 75, 76, 77, 78, 79, 80, 81, 82, 83, 84, 85, 86, 87, 88] (by rfl) (by decide +kernel)
set_option maxRecDepth 20000 in
theorem gX11_work_X11_laysNow : GoodIn wsX11_work (wsV RX11 251 RX11 yX11_laysNow wsX11_laysNow) := goodIn_app (goodIn_r _ [10, 11, 12, 7] (by rfl) (by decide +kernel)) ggX11_work_X11_laysNow
theorem dX11_work_16 : decode cX11_work 16 = .ok (.invokevirtual 251, 3) := by decide +kernel
theorem dX11_work_19 : decode cX11_work 19 = .ok (.iconst 0, 1) := by decide +kernel
theorem dX11_work_20 : decode cX11_work 20 = .ok (.istore_n 1, 1) := by decide +kernel
theorem dX11_work_21 : decode cX11_work 21 = .ok (.iconst 0, 1) := by decide +kernel
theorem dX11_work_22 : decode cX11_work 22 = .ok (.istore_n 2, 1) := by decide +kernel
theorem dX11_work_23 : decode cX11_work 23 = .ok (.iload_n 2, 1) := by decide +kernel
theorem dX11_work_24 : decode cX11_work 24 = .ok (.aload_n 0, 1) := by decide +kernel
theorem dX11_work_25 : decode cX11_work 25 = .ok (.getfield 34, 3) := by decide +kernel
theorem dX11_work_28 : decode cX11_work 28 = .ok (.iconst 1, 1) := by decide +kernel
theorem dX11_work_29 : decode cX11_work 29 = .ok (.iaload, 1) := by decide +kernel
theorem dX11_work_30 : decode cX11_work 30 = .ok (.if_icmp .ge 28, 3) := by decide +kernel
theorem dX11_work_58 : decode cX11_work 58 = .ok (.iload_n 1, 1) := by decide +kernel
theorem dX11_work_59 : decode cX11_work 59 = .ok (.ireturn, 1) := by decide +kernel
theorem dX11_work_33 : decode cX11_work 33 = .ok (.aload_n 0, 1) := by decide +kernel
theorem dX11_work_34 : decode cX11_work 34 = .ok (.iload_n 2, 1) := by decide +kernel
set_option maxRecDepth 20000 in
theorem ggX11_work_X11_laysWork : GoodIn wsX11_work wsX11_laysWork := goodIn_r _ [53, 3, 2, 54, 55, 56, 7, 57, 19, 22, 47, 48, 49, 26, 27, 28, 29, 30, 58, 59, 60, 61, 62, 63, 64, 65, 66, 67, 68, 69, 70, 71, 72, 73, 74, 75, 76, 77, 78, 79, 80, 81, 82, 83, 84, 85, 86, 87, 88] (by rfl) (by decide +kernel)
set_option maxRecDepth 20000 in
theorem gX11_work_X11_laysWork : GoodIn wsX11_work (wsV RX11 306 RX11 yX11_laysWork wsX11_laysWork) := goodIn_app (goodIn_r _ [50, 51, 52, 7] (by rfl) (by decide +kernel)) ggX11_work_X11_laysWork
theorem dX11_work_35 : decode cX11_work 35 = .ok (.invokevirtual 306, 3) := by decide +kernel
theorem dX11_work_38 : decode cX11_work 38 = .ok (.iload_n 1, 1) := by decide +kernel
theorem dX11_work_39 : decode cX11_work 39 = .ok (.aload_n 0, 1) := by decide +kernel
theorem dX11_work_40 : decode cX11_work 40 = .ok (.getfield 56, 3) := by decide +kernel
theorem dX11_work_43 : decode cX11_work 43 = .ok (.aload_n 0, 1) := by decide +kernel
theorem dX11_work_44 : decode cX11_work 44 = .ok (.iload_n 2, 1) := by decide +kernel
theorem dX11_work_45 : decode cX11_work 45 = .ok (.iconst 2, 1) := by decide +kernel
set_option maxRecDepth 20000 in
theorem ggX11_work_X11_of : GoodIn wsX11_work wsX11_of := goodIn_r _ [29, 30, 58, 59, 60, 61, 62, 63, 64, 65, 66, 67, 68, 69, 70, 71, 72, 73, 74, 75, 76, 77, 78, 79, 80, 81, 82, 83, 84, 85, 86, 87, 88] (by rfl) (by decide +kernel)
set_option maxRecDepth 20000 in
theorem gX11_work_X11_of : GoodIn wsX11_work (wsV RX11 214 RX11 yX11_of wsX11_of) := goodIn_app (goodIn_r _ [26, 27, 28, 7] (by rfl) (by decide +kernel)) ggX11_work_X11_of
theorem dX11_work_46 : decode cX11_work 46 = .ok (.invokevirtual 214, 3) := by decide +kernel
theorem dX11_work_49 : decode cX11_work 49 = .ok (.iaload, 1) := by decide +kernel
theorem dX11_work_50 : decode cX11_work 50 = .ok (.iadd, 1) := by decide +kernel
theorem dX11_work_51 : decode cX11_work 51 = .ok (.istore_n 1, 1) := by decide +kernel
theorem dX11_work_52 : decode cX11_work 52 = .ok (.iinc 2 1, 3) := by decide +kernel
theorem dX11_work_55 : decode cX11_work 55 = .ok (.goto (-32), 3) := by decide +kernel
theorem dX11_work_12 : decode cX11_work 12 = .ok (.bipush (-2), 2) := by decide +kernel
theorem dX11_work_14 : decode cX11_work 14 = .ok (.ireturn, 1) := by decide +kernel
theorem dX11_works_0 : decode cX11_works 0 = .ok (.aload_n 0, 1) := by decide +kernel
theorem dX11_works_1 : decode cX11_works 1 = .ok (.iconst 0, 1) := by decide +kernel
theorem dX11_works_2 : decode cX11_works 2 = .ok (.putfield 59, 3) := by decide +kernel
theorem dX11_works_5 : decode cX11_works 5 = .ok (.aload_n 0, 1) := by decide +kernel
theorem dX11_works_6 : decode cX11_works 6 = .ok (.iload_n 1, 1) := by decide +kernel
theorem dX11_works_7 : decode cX11_works 7 = .ok (.i2l, 1) := by decide +kernel
set_option maxRecDepth 20000 in
theorem ggX11_works_X11_isPerson : GoodIn wsX11_works wsX11_isPerson := goodIn_r _ [8, 9, 10, 11, 7, 12, 60, 61, 62, 63, 64, 65, 66, 67, 68, 69, 70, 71, 72, 73, 74, 75, 76, 77, 78, 79, 80, 81, 82, 83, 84, 85, 86, 87, 88, 89, 90] (by rfl) (by decide +kernel)
set_option maxRecDepth 20000 in
theorem gX11_works_X11_isPerson : GoodIn wsX11_works (wsV RX11 206 RX11 yX11_isPerson wsX11_isPerson) := goodIn_app (goodIn_r _ [4, 5, 6, 7] (by rfl) (by decide +kernel)) ggX11_works_X11_isPerson
theorem dX11_works_8 : decode cX11_works 8 = .ok (.invokevirtual 206, 3) := by decide +kernel
theorem dX11_works_11 : decode cX11_works 11 = .ok (.ifCond .ne 6, 3) := by decide +kernel
theorem dX11_works_17 : decode cX11_works 17 = .ok (.aload_n 0, 1) := by decide +kernel
set_option maxRecDepth 20000 in
theorem ggX11_works_X11_laysNow : GoodIn wsX11_works wsX11_laysNow := goodIn_r _ [16, 9, 17, 18, 19, 20, 7, 21, 2, 22, 23, 24, 25, 26, 27, 28, 29, 30, 31, 32, 33, 34, 35, 36, 37, 38, 39, 40, 41, 42, 43, 44, 45, 46, 47, 48, 49, 50, 51, 60, 61, 62, 63, 64, 65, 66, 67, 68, 69, 70, 71, 72, 73, 74, 75, 76, 77, 78, 79, 80, 81, 82, 83, 84, 85, 86, 87, 88, 89, 90] (by rfl) (by decide +kernel)
set_option maxRecDepth 20000 in
theorem gX11_works_X11_laysNow : GoodIn wsX11_works (wsV RX11 251 RX11 yX11_laysNow wsX11_laysNow) := goodIn_app (goodIn_r _ [13, 14, 15, 7] (by rfl) (by decide +kernel)) ggX11_works_X11_laysNow
theorem dX11_works_18 : decode cX11_works 18 = .ok (.invokevirtual 251, 3) := by decide +kernel
theorem dX11_works_21 : decode cX11_works 21 = .ok (.aload_n 0, 1) := by decide +kernel
theorem dX11_works_22 : decode cX11_works 22 = .ok (.getfield 47, 3) := by decide +kernel
theorem dX11_works_25 : decode cX11_works 25 = .ok (.iload_n 1, 1) := by decide +kernel
theorem dX11_works_26 : decode cX11_works 26 = .ok (.iaload, 1) := by decide +kernel
theorem dX11_works_27 : decode cX11_works 27 = .ok (.istore_n 2, 1) := by decide +kernel
theorem dX11_works_28 : decode cX11_works 28 = .ok (.iload_n 2, 1) := by decide +kernel
theorem dX11_works_29 : decode cX11_works 29 = .ok (.iconst (-1), 1) := by decide +kernel
theorem dX11_works_30 : decode cX11_works 30 = .ok (.if_icmp .ne 5, 3) := by decide +kernel
theorem dX11_works_35 : decode cX11_works 35 = .ok (.aload_n 0, 1) := by decide +kernel
theorem dX11_works_36 : decode cX11_works 36 = .ok (.iload_n 2, 1) := by decide +kernel
set_option maxRecDepth 20000 in
theorem ggX11_works_X11_laysWork : GoodIn wsX11_works wsX11_laysWork := goodIn_r _ [55, 3, 9, 56, 57, 58, 7, 59, 2, 24, 49, 50, 51, 28, 29, 30, 31, 32, 60, 61, 62, 63, 64, 65, 66, 67, 68, 69, 70, 71, 72, 73, 74, 75, 76, 77, 78, 79, 80, 81, 82, 83, 84, 85, 86, 87, 88, 89, 90] (by rfl) (by decide +kernel)
set_option maxRecDepth 20000 in
theorem gX11_works_X11_laysWork : GoodIn wsX11_works (wsV RX11 306 RX11 yX11_laysWork wsX11_laysWork) := goodIn_app (goodIn_r _ [52, 53, 54, 7] (by rfl) (by decide +kernel)) ggX11_works_X11_laysWork
theorem dX11_works_37 : decode cX11_works 37 = .ok (.invokevirtual 306, 3) := by decide +kernel
theorem dX11_works_40 : decode cX11_works 40 = .ok (.aload_n 0, 1) := by decide +kernel
theorem dX11_works_41 : decode cX11_works 41 = .ok (.iload_n 2, 1) := by decide +kernel
theorem dX11_works_42 : decode cX11_works 42 = .ok (.iconst 2, 1) := by decide +kernel
set_option maxRecDepth 20000 in
theorem ggX11_works_X11_of : GoodIn wsX11_works wsX11_of := goodIn_r _ [31, 32, 60, 61, 62, 63, 64, 65, 66, 67, 68, 69, 70, 71, 72, 73, 74, 75, 76, 77, 78, 79, 80, 81, 82, 83, 84, 85, 86, 87, 88, 89, 90] (by rfl) (by decide +kernel)
set_option maxRecDepth 20000 in
theorem gX11_works_X11_of : GoodIn wsX11_works (wsV RX11 214 RX11 yX11_of wsX11_of) := goodIn_app (goodIn_r _ [28, 29, 30, 7] (by rfl) (by decide +kernel)) ggX11_works_X11_of
theorem dX11_works_43 : decode cX11_works 43 = .ok (.invokevirtual 214, 3) := by decide +kernel
theorem dX11_works_46 : decode cX11_works 46 = .ok (.istore_n 3, 1) := by decide +kernel
theorem dX11_works_47 : decode cX11_works 47 = .ok (.iconst 0, 1) := by decide +kernel
theorem dX11_works_48 : decode cX11_works 48 = .ok (.istore 4, 2) := by decide +kernel
theorem dX11_works_50 : decode cX11_works 50 = .ok (.iload 4, 2) := by decide +kernel
theorem dX11_works_52 : decode cX11_works 52 = .ok (.iload_n 1, 1) := by decide +kernel
theorem dX11_works_53 : decode cX11_works 53 = .ok (.if_icmp .gt 119, 3) := by decide +kernel
theorem dX11_works_172 : decode cX11_works 172 = .ok (.iconst (-1), 1) := by decide +kernel
theorem dX11_works_173 : decode cX11_works 173 = .ok (.ireturn, 1) := by decide +kernel
theorem dX11_works_56 : decode cX11_works 56 = .ok (.aload_n 0, 1) := by decide +kernel
theorem dX11_works_57 : decode cX11_works 57 = .ok (.iload 4, 2) := by decide +kernel
theorem dX11_works_59 : decode cX11_works 59 = .ok (.iload_n 2, 1) := by decide +kernel
theorem dX11_works_60 : decode cX11_works 60 = .ok (.iload_n 3, 1) := by decide +kernel
set_option maxRecDepth 20000 in
theorem ggX11_works_X11_mayDo : GoodIn wsX11_works wsX11_mayDo := goodIn_r _ [59, 2, 24, 49, 50, 7, 51, 28, 29, 30, 31, 32, 60, 61, 62, 63, 64, 65, 66, 67, 68, 69, 70, 71, 72, 73, 74, 75, 76, 77, 78, 79, 80, 81, 82, 83, 84, 85, 86, 87, 88, 89, 90] (by rfl) (by decide +kernel)
set_option maxRecDepth 20000 in
theorem gX11_works_X11_mayDo : GoodIn wsX11_works (wsV RX11 303 RX11 yX11_mayDo wsX11_mayDo) := goodIn_app (goodIn_r _ [56, 57, 58, 7] (by rfl) (by decide +kernel)) ggX11_works_X11_mayDo
theorem dX11_works_61 : decode cX11_works 61 = .ok (.invokevirtual 303, 3) := by decide +kernel
theorem dX11_works_64 : decode cX11_works 64 = .ok (.istore 5, 2) := by decide +kernel
theorem dX11_works_66 : decode cX11_works 66 = .ok (.iconst 0, 1) := by decide +kernel
theorem dX11_works_67 : decode cX11_works 67 = .ok (.istore 6, 2) := by decide +kernel
theorem dX11_works_69 : decode cX11_works 69 = .ok (.iload 6, 2) := by decide +kernel
theorem dX11_works_71 : decode cX11_works 71 = .ok (.bipush 6, 2) := by decide +kernel
theorem dX11_works_130 : decode cX11_works 130 = .ok (.iload 4, 2) := by decide +kernel
theorem dX11_works_132 : decode cX11_works 132 = .ok (.iload_n 1, 1) := by decide +kernel
theorem dX11_works_133 : decode cX11_works 133 = .ok (.if_icmp .ne 17, 3) := by decide +kernel
theorem dX11_works_150 : decode cX11_works 150 = .ok (.iload 6, 2) := by decide +kernel
theorem dX11_works_152 : decode cX11_works 152 = .ok (.bipush 6, 2) := by decide +kernel
theorem dX11_works_166 : decode cX11_works 166 = .ok (.iinc 4 1, 3) := by decide +kernel
theorem dX11_works_169 : decode cX11_works 169 = .ok (.goto (-119), 3) := by decide +kernel
theorem dX11_works_154 : decode cX11_works 154 = .ok (.if_icmp .ge 12, 3) := by decide +kernel
theorem dX11_works_157 : decode cX11_works 157 = .ok (.iload_n 3, 1) := by decide +kernel
theorem dX11_works_158 : decode cX11_works 158 = .ok (.iconst 1, 1) := by decide +kernel
theorem dX11_works_159 : decode cX11_works 159 = .ok (.iload 6, 2) := by decide +kernel
theorem dX11_works_161 : decode cX11_works 161 = .ok (.ishl, 1) := by decide +kernel
theorem dX11_works_162 : decode cX11_works 162 = .ok (.iconst (-1), 1) := by decide +kernel
theorem dX11_works_163 : decode cX11_works 163 = .ok (.ixor, 1) := by decide +kernel
theorem dX11_works_164 : decode cX11_works 164 = .ok (.iand, 1) := by decide +kernel
theorem dX11_works_165 : decode cX11_works 165 = .ok (.istore_n 3, 1) := by decide +kernel
theorem dX11_works_136 : decode cX11_works 136 = .ok (.iload 6, 2) := by decide +kernel
theorem dX11_works_138 : decode cX11_works 138 = .ok (.bipush 6, 2) := by decide +kernel
theorem dX11_works_140 : decode cX11_works 140 = .ok (.if_icmp .ne 7, 3) := by decide +kernel
theorem dX11_works_147 : decode cX11_works 147 = .ok (.iload 6, 2) := by decide +kernel
theorem dX11_works_149 : decode cX11_works 149 = .ok (.ireturn, 1) := by decide +kernel
theorem dX11_works_143 : decode cX11_works 143 = .ok (.iconst (-1), 1) := by decide +kernel
theorem dX11_works_144 : decode cX11_works 144 = .ok (.goto 5, 3) := by decide +kernel
theorem dX11_works_73 : decode cX11_works 73 = .ok (.if_icmp .ge 57, 3) := by decide +kernel
theorem dX11_works_76 : decode cX11_works 76 = .ok (.iload 5, 2) := by decide +kernel
theorem dX11_works_78 : decode cX11_works 78 = .ok (.iload 6, 2) := by decide +kernel
set_option maxRecDepth 20000 in
theorem ggX11_works_X11_isBit : GoodIn wsX11_works wsX11_isBit := goodIn_r _ [51] (by rfl) (by decide +kernel)
set_option maxRecDepth 20000 in
theorem gX11_works_X11_isBit : GoodIn wsX11_works (va_wsS RX11 239 yX11_isBit wsX11_isBit) := goodIn_app (goodIn_r _ [49, 50, 7] (by rfl) (by decide +kernel)) ggX11_works_X11_isBit
theorem dX11_works_80 : decode cX11_works 80 = .ok (.invokestatic 239, 3) := by decide +kernel
theorem dX11_works_124 : decode cX11_works 124 = .ok (.iinc 6 1, 3) := by decide +kernel
theorem dX11_works_127 : decode cX11_works 127 = .ok (.goto (-58), 3) := by decide +kernel
theorem dX11_works_83 : decode cX11_works 83 = .ok (.ifCond .eq 41, 3) := by decide +kernel
theorem dX11_works_86 : decode cX11_works 86 = .ok (.iconst 1, 1) := by decide +kernel
theorem dX11_works_87 : decode cX11_works 87 = .ok (.aload_n 0, 1) := by decide +kernel
theorem dX11_works_88 : decode cX11_works 88 = .ok (.getfield 56, 3) := by decide +kernel
theorem dX11_works_91 : decode cX11_works 91 = .ok (.bipush 64, 2) := by decide +kernel
theorem dX11_works_93 : decode cX11_works 93 = .ok (.iload 4, 2) := by decide +kernel
theorem dX11_works_95 : decode cX11_works 95 = .ok (.iconst 1, 1) := by decide +kernel
theorem dX11_works_96 : decode cX11_works 96 = .ok (.iadd, 1) := by decide +kernel
theorem dX11_works_97 : decode cX11_works 97 = .ok (.imul, 1) := by decide +kernel
theorem dX11_works_98 : decode cX11_works 98 = .ok (.iload_n 3, 1) := by decide +kernel
theorem dX11_works_99 : decode cX11_works 99 = .ok (.iconst 1, 1) := by decide +kernel
theorem dX11_works_100 : decode cX11_works 100 = .ok (.iload 6, 2) := by decide +kernel
theorem dX11_works_102 : decode cX11_works 102 = .ok (.ishl, 1) := by decide +kernel
theorem dX11_works_103 : decode cX11_works 103 = .ok (.iconst (-1), 1) := by decide +kernel
theorem dX11_works_104 : decode cX11_works 104 = .ok (.ixor, 1) := by decide +kernel
theorem dX11_works_105 : decode cX11_works 105 = .ok (.iand, 1) := by decide +kernel
theorem dX11_works_106 : decode cX11_works 106 = .ok (.iadd, 1) := by decide +kernel
theorem dX11_works_107 : decode cX11_works 107 = .ok (.iaload, 1) := by decide +kernel
theorem dX11_works_108 : decode cX11_works 108 = .ok (.iadd, 1) := by decide +kernel
theorem dX11_works_109 : decode cX11_works 109 = .ok (.aload_n 0, 1) := by decide +kernel
theorem dX11_works_110 : decode cX11_works 110 = .ok (.getfield 56, 3) := by decide +kernel
theorem dX11_works_113 : decode cX11_works 113 = .ok (.bipush 64, 2) := by decide +kernel
theorem dX11_works_115 : decode cX11_works 115 = .ok (.iload 4, 2) := by decide +kernel
theorem dX11_works_117 : decode cX11_works 117 = .ok (.imul, 1) := by decide +kernel
theorem dX11_works_118 : decode cX11_works 118 = .ok (.iload_n 3, 1) := by decide +kernel
theorem dX11_works_119 : decode cX11_works 119 = .ok (.iadd, 1) := by decide +kernel
theorem dX11_works_120 : decode cX11_works 120 = .ok (.iaload, 1) := by decide +kernel
theorem dX11_works_121 : decode cX11_works 121 = .ok (.if_icmp .eq 9, 3) := by decide +kernel
theorem dX11_works_33 : decode cX11_works 33 = .ok (.iconst (-1), 1) := by decide +kernel
theorem dX11_works_34 : decode cX11_works 34 = .ok (.ireturn, 1) := by decide +kernel
theorem dX11_works_14 : decode cX11_works 14 = .ok (.bipush (-2), 2) := by decide +kernel
theorem dX11_works_16 : decode cX11_works 16 = .ok (.ireturn, 1) := by decide +kernel
theorem dX11_doneBy_0 : decode cX11_doneBy 0 = .ok (.iconst 0, 1) := by decide +kernel
theorem dX11_doneBy_1 : decode cX11_doneBy 1 = .ok (.istore_n 2, 1) := by decide +kernel
theorem dX11_doneBy_2 : decode cX11_doneBy 2 = .ok (.iconst 0, 1) := by decide +kernel
theorem dX11_doneBy_3 : decode cX11_doneBy 3 = .ok (.istore_n 3, 1) := by decide +kernel
theorem dX11_doneBy_4 : decode cX11_doneBy 4 = .ok (.iload_n 3, 1) := by decide +kernel
theorem dX11_doneBy_5 : decode cX11_doneBy 5 = .ok (.aload_n 0, 1) := by decide +kernel
theorem dX11_doneBy_6 : decode cX11_doneBy 6 = .ok (.getfield 34, 3) := by decide +kernel
theorem dX11_doneBy_9 : decode cX11_doneBy 9 = .ok (.iconst 1, 1) := by decide +kernel
theorem dX11_doneBy_10 : decode cX11_doneBy 10 = .ok (.iaload, 1) := by decide +kernel
theorem dX11_doneBy_11 : decode cX11_doneBy 11 = .ok (.if_icmp .ge 30, 3) := by decide +kernel
theorem dX11_doneBy_41 : decode cX11_doneBy 41 = .ok (.iload_n 2, 1) := by decide +kernel
theorem dX11_doneBy_42 : decode cX11_doneBy 42 = .ok (.ireturn, 1) := by decide +kernel
theorem dX11_doneBy_14 : decode cX11_doneBy 14 = .ok (.iload_n 2, 1) := by decide +kernel
theorem dX11_doneBy_15 : decode cX11_doneBy 15 = .ok (.iload_n 1, 1) := by decide +kernel
theorem dX11_doneBy_16 : decode cX11_doneBy 16 = .ok (.iload_n 3, 1) := by decide +kernel
set_option maxRecDepth 20000 in
theorem ggX11_doneBy_X11_isBit : GoodIn wsX11_doneBy wsX11_isBit := goodIn_r _ [5] (by rfl) (by decide +kernel)
set_option maxRecDepth 20000 in
theorem gX11_doneBy_X11_isBit : GoodIn wsX11_doneBy (va_wsS RX11 239 yX11_isBit wsX11_isBit) := goodIn_app (goodIn_r _ [2, 3, 4] (by rfl) (by decide +kernel)) ggX11_doneBy_X11_isBit
theorem dX11_doneBy_17 : decode cX11_doneBy 17 = .ok (.invokestatic 239, 3) := by decide +kernel
theorem dX11_doneBy_33 : decode cX11_doneBy 33 = .ok (.ior, 1) := by decide +kernel
theorem dX11_doneBy_34 : decode cX11_doneBy 34 = .ok (.istore_n 2, 1) := by decide +kernel
theorem dX11_doneBy_35 : decode cX11_doneBy 35 = .ok (.iinc 3 1, 3) := by decide +kernel
theorem dX11_doneBy_38 : decode cX11_doneBy 38 = .ok (.goto (-34), 3) := by decide +kernel
theorem dX11_doneBy_20 : decode cX11_doneBy 20 = .ok (.ifCond .eq 12, 3) := by decide +kernel
theorem dX11_doneBy_32 : decode cX11_doneBy 32 = .ok (.iconst 0, 1) := by decide +kernel
theorem dX11_doneBy_23 : decode cX11_doneBy 23 = .ok (.aload_n 0, 1) := by decide +kernel
theorem dX11_doneBy_24 : decode cX11_doneBy 24 = .ok (.iload_n 3, 1) := by decide +kernel
theorem dX11_doneBy_25 : decode cX11_doneBy 25 = .ok (.iconst 1, 1) := by decide +kernel
set_option maxRecDepth 20000 in
theorem ggX11_doneBy_X11_of : GoodIn wsX11_doneBy wsX11_of := goodIn_r _ [9, 10, 11, 12, 13, 14, 15, 16, 17, 18, 19, 20, 21, 22, 23, 24, 25, 26, 27, 28, 29, 30, 31, 32, 33, 34, 35, 36, 37, 38, 39, 40, 41] (by rfl) (by decide +kernel)
set_option maxRecDepth 20000 in
theorem gX11_doneBy_X11_of : GoodIn wsX11_doneBy (wsV RX11 214 RX11 yX11_of wsX11_of) := goodIn_app (goodIn_r _ [6, 7, 8, 4] (by rfl) (by decide +kernel)) ggX11_doneBy_X11_of
theorem dX11_doneBy_26 : decode cX11_doneBy 26 = .ok (.invokevirtual 214, 3) := by decide +kernel
theorem dX11_doneBy_29 : decode cX11_doneBy 29 = .ok (.goto 4, 3) := by decide +kernel
theorem dX11_handsOf_0 : decode cX11_handsOf 0 = .ok (.iconst 0, 1) := by decide +kernel
theorem dX11_handsOf_1 : decode cX11_handsOf 1 = .ok (.istore_n 2, 1) := by decide +kernel
theorem dX11_handsOf_2 : decode cX11_handsOf 2 = .ok (.iconst 0, 1) := by decide +kernel
theorem dX11_handsOf_3 : decode cX11_handsOf 3 = .ok (.istore_n 3, 1) := by decide +kernel
theorem dX11_handsOf_4 : decode cX11_handsOf 4 = .ok (.iload_n 3, 1) := by decide +kernel
theorem dX11_handsOf_5 : decode cX11_handsOf 5 = .ok (.aload_n 0, 1) := by decide +kernel
theorem dX11_handsOf_6 : decode cX11_handsOf 6 = .ok (.getfield 34, 3) := by decide +kernel
theorem dX11_handsOf_9 : decode cX11_handsOf 9 = .ok (.iconst 1, 1) := by decide +kernel
theorem dX11_handsOf_10 : decode cX11_handsOf 10 = .ok (.iaload, 1) := by decide +kernel
theorem dX11_handsOf_11 : decode cX11_handsOf 11 = .ok (.if_icmp .ge 29, 3) := by decide +kernel
theorem dX11_handsOf_40 : decode cX11_handsOf 40 = .ok (.iload_n 2, 1) := by decide +kernel
theorem dX11_handsOf_41 : decode cX11_handsOf 41 = .ok (.ireturn, 1) := by decide +kernel
theorem dX11_handsOf_14 : decode cX11_handsOf 14 = .ok (.iload_n 2, 1) := by decide +kernel
theorem dX11_handsOf_15 : decode cX11_handsOf 15 = .ok (.iload_n 1, 1) := by decide +kernel
theorem dX11_handsOf_16 : decode cX11_handsOf 16 = .ok (.iload_n 3, 1) := by decide +kernel
set_option maxRecDepth 20000 in
theorem ggX11_handsOf_X11_isBit : GoodIn wsX11_handsOf wsX11_isBit := goodIn_r _ [5] (by rfl) (by decide +kernel)
set_option maxRecDepth 20000 in
theorem gX11_handsOf_X11_isBit : GoodIn wsX11_handsOf (va_wsS RX11 239 yX11_isBit wsX11_isBit) := goodIn_app (goodIn_r _ [2, 3, 4] (by rfl) (by decide +kernel)) ggX11_handsOf_X11_isBit
theorem dX11_handsOf_17 : decode cX11_handsOf 17 = .ok (.invokestatic 239, 3) := by decide +kernel
theorem dX11_handsOf_32 : decode cX11_handsOf 32 = .ok (.ior, 1) := by decide +kernel
theorem dX11_handsOf_33 : decode cX11_handsOf 33 = .ok (.istore_n 2, 1) := by decide +kernel
theorem dX11_handsOf_34 : decode cX11_handsOf 34 = .ok (.iinc 3 1, 3) := by decide +kernel
theorem dX11_handsOf_37 : decode cX11_handsOf 37 = .ok (.goto (-33), 3) := by decide +kernel
theorem dX11_handsOf_20 : decode cX11_handsOf 20 = .ok (.ifCond .eq 11, 3) := by decide +kernel
theorem dX11_handsOf_31 : decode cX11_handsOf 31 = .ok (.iconst 0, 1) := by decide +kernel
theorem dX11_handsOf_23 : decode cX11_handsOf 23 = .ok (.aload_n 0, 1) := by decide +kernel
theorem dX11_handsOf_24 : decode cX11_handsOf 24 = .ok (.iload_n 3, 1) := by decide +kernel
set_option maxRecDepth 20000 in
theorem ggX11_handsOf_X11_handOf : GoodIn wsX11_handsOf wsX11_handOf := goodIn_r _ [9, 1, 10, 11, 12, 13, 14, 15, 16, 17, 18, 19, 20, 21, 22, 23, 24, 25, 26, 27, 28, 29, 30, 31, 32, 33, 34, 35, 36, 37, 38, 39, 40, 41] (by rfl) (by decide +kernel)
set_option maxRecDepth 20000 in
theorem gX11_handsOf_X11_handOf : GoodIn wsX11_handsOf (wsV RX11 254 RX11 yX11_handOf wsX11_handOf) := goodIn_app (goodIn_r _ [6, 7, 8, 4] (by rfl) (by decide +kernel)) ggX11_handsOf_X11_handOf
theorem dX11_handsOf_25 : decode cX11_handsOf 25 = .ok (.invokevirtual 254, 3) := by decide +kernel
theorem dX11_handsOf_28 : decode cX11_handsOf 28 = .ok (.goto 4, 3) := by decide +kernel
theorem dX11_worthOf_0 : decode cX11_worthOf 0 = .ok (.iconst 0, 1) := by decide +kernel
theorem dX11_worthOf_1 : decode cX11_worthOf 1 = .ok (.istore_n 2, 1) := by decide +kernel
theorem dX11_worthOf_2 : decode cX11_worthOf 2 = .ok (.iconst 0, 1) := by decide +kernel
theorem dX11_worthOf_3 : decode cX11_worthOf 3 = .ok (.istore_n 3, 1) := by decide +kernel
theorem dX11_worthOf_4 : decode cX11_worthOf 4 = .ok (.iload_n 3, 1) := by decide +kernel
theorem dX11_worthOf_5 : decode cX11_worthOf 5 = .ok (.aload_n 0, 1) := by decide +kernel
theorem dX11_worthOf_6 : decode cX11_worthOf 6 = .ok (.getfield 34, 3) := by decide +kernel
theorem dX11_worthOf_9 : decode cX11_worthOf 9 = .ok (.iconst 1, 1) := by decide +kernel
theorem dX11_worthOf_10 : decode cX11_worthOf 10 = .ok (.iaload, 1) := by decide +kernel
theorem dX11_worthOf_11 : decode cX11_worthOf 11 = .ok (.if_icmp .ge 30, 3) := by decide +kernel
theorem dX11_worthOf_41 : decode cX11_worthOf 41 = .ok (.iload_n 2, 1) := by decide +kernel
theorem dX11_worthOf_42 : decode cX11_worthOf 42 = .ok (.ireturn, 1) := by decide +kernel
theorem dX11_worthOf_14 : decode cX11_worthOf 14 = .ok (.iload_n 2, 1) := by decide +kernel
theorem dX11_worthOf_15 : decode cX11_worthOf 15 = .ok (.iload_n 1, 1) := by decide +kernel
theorem dX11_worthOf_16 : decode cX11_worthOf 16 = .ok (.iload_n 3, 1) := by decide +kernel
set_option maxRecDepth 20000 in
theorem ggX11_worthOf_X11_isBit : GoodIn wsX11_worthOf wsX11_isBit := goodIn_r _ [5] (by rfl) (by decide +kernel)
set_option maxRecDepth 20000 in
theorem gX11_worthOf_X11_isBit : GoodIn wsX11_worthOf (va_wsS RX11 239 yX11_isBit wsX11_isBit) := goodIn_app (goodIn_r _ [2, 3, 4] (by rfl) (by decide +kernel)) ggX11_worthOf_X11_isBit
theorem dX11_worthOf_17 : decode cX11_worthOf 17 = .ok (.invokestatic 239, 3) := by decide +kernel
theorem dX11_worthOf_33 : decode cX11_worthOf 33 = .ok (.iadd, 1) := by decide +kernel
theorem dX11_worthOf_34 : decode cX11_worthOf 34 = .ok (.istore_n 2, 1) := by decide +kernel
theorem dX11_worthOf_35 : decode cX11_worthOf 35 = .ok (.iinc 3 1, 3) := by decide +kernel
theorem dX11_worthOf_38 : decode cX11_worthOf 38 = .ok (.goto (-34), 3) := by decide +kernel
theorem dX11_worthOf_20 : decode cX11_worthOf 20 = .ok (.ifCond .eq 12, 3) := by decide +kernel
theorem dX11_worthOf_32 : decode cX11_worthOf 32 = .ok (.iconst 0, 1) := by decide +kernel
theorem dX11_worthOf_23 : decode cX11_worthOf 23 = .ok (.aload_n 0, 1) := by decide +kernel
theorem dX11_worthOf_24 : decode cX11_worthOf 24 = .ok (.iload_n 3, 1) := by decide +kernel
theorem dX11_worthOf_25 : decode cX11_worthOf 25 = .ok (.iconst 0, 1) := by decide +kernel
set_option maxRecDepth 20000 in
theorem ggX11_worthOf_X11_of : GoodIn wsX11_worthOf wsX11_of := goodIn_r _ [9, 10, 11, 12, 13, 14, 15, 16, 17, 18, 19, 20, 21, 22, 23, 24, 25, 26, 27, 28, 29, 30, 31, 32, 33, 34, 35, 36, 37, 38, 39, 40, 41] (by rfl) (by decide +kernel)
set_option maxRecDepth 20000 in
theorem gX11_worthOf_X11_of : GoodIn wsX11_worthOf (wsV RX11 214 RX11 yX11_of wsX11_of) := goodIn_app (goodIn_r _ [6, 7, 8, 4] (by rfl) (by decide +kernel)) ggX11_worthOf_X11_of
theorem dX11_worthOf_26 : decode cX11_worthOf 26 = .ok (.invokevirtual 214, 3) := by decide +kernel
theorem dX11_worthOf_29 : decode cX11_worthOf 29 = .ok (.goto 4, 3) := by decide +kernel
theorem dX11_coversOf_0 : decode cX11_coversOf 0 = .ok (.aload_n 0, 1) := by decide +kernel
set_option maxRecDepth 20000 in
theorem ggX11_coversOf_X11_laysNow : GoodIn wsX11_coversOf wsX11_laysNow := goodIn_r _ [6, 1, 7, 8, 9, 10, 5, 11, 12, 13, 14, 15, 16, 17, 18, 19, 20, 21, 22, 23, 24, 25, 26, 27, 28, 29, 30, 31, 32, 33, 34, 35, 36, 37, 38, 39, 40, 41, 42, 58, 59, 60, 61, 62, 63, 64, 65, 66, 67, 68, 69, 70, 71, 72, 73, 74, 75, 76, 77, 78, 79, 80, 81, 82, 83, 84, 85, 86, 87, 88] (by rfl) (by decide +kernel)
set_option maxRecDepth 20000 in
theorem gX11_coversOf_X11_laysNow : GoodIn wsX11_coversOf (wsV RX11 251 RX11 yX11_laysNow wsX11_laysNow) := goodIn_app (goodIn_r _ [2, 3, 4, 5] (by rfl) (by decide +kernel)) ggX11_coversOf_X11_laysNow
theorem dX11_coversOf_1 : decode cX11_coversOf 1 = .ok (.invokevirtual 251, 3) := by decide +kernel
theorem dX11_coversOf_4 : decode cX11_coversOf 4 = .ok (.iconst (-1), 1) := by decide +kernel
theorem dX11_coversOf_5 : decode cX11_coversOf 5 = .ok (.istore_n 2, 1) := by decide +kernel
theorem dX11_coversOf_6 : decode cX11_coversOf 6 = .ok (.iconst 0, 1) := by decide +kernel
theorem dX11_coversOf_7 : decode cX11_coversOf 7 = .ok (.istore_n 3, 1) := by decide +kernel
theorem dX11_coversOf_8 : decode cX11_coversOf 8 = .ok (.iload_n 3, 1) := by decide +kernel
theorem dX11_coversOf_9 : decode cX11_coversOf 9 = .ok (.iconst 1, 1) := by decide +kernel
theorem dX11_coversOf_10 : decode cX11_coversOf 10 = .ok (.aload_n 0, 1) := by decide +kernel
theorem dX11_coversOf_11 : decode cX11_coversOf 11 = .ok (.getfield 34, 3) := by decide +kernel
theorem dX11_coversOf_14 : decode cX11_coversOf 14 = .ok (.iconst 1, 1) := by decide +kernel
theorem dX11_coversOf_15 : decode cX11_coversOf 15 = .ok (.iaload, 1) := by decide +kernel
theorem dX11_coversOf_16 : decode cX11_coversOf 16 = .ok (.ishl, 1) := by decide +kernel
theorem dX11_coversOf_17 : decode cX11_coversOf 17 = .ok (.if_icmp .ge 43, 3) := by decide +kernel
theorem dX11_coversOf_60 : decode cX11_coversOf 60 = .ok (.iload_n 2, 1) := by decide +kernel
theorem dX11_coversOf_61 : decode cX11_coversOf 61 = .ok (.ireturn, 1) := by decide +kernel
theorem dX11_coversOf_20 : decode cX11_coversOf 20 = .ok (.iload_n 2, 1) := by decide +kernel
theorem dX11_coversOf_21 : decode cX11_coversOf 21 = .ok (.iconst (-1), 1) := by decide +kernel
theorem dX11_coversOf_54 : decode cX11_coversOf 54 = .ok (.iinc 3 1, 3) := by decide +kernel
theorem dX11_coversOf_57 : decode cX11_coversOf 57 = .ok (.goto (-49), 3) := by decide +kernel
theorem dX11_coversOf_36 : decode cX11_coversOf 36 = .ok (.iload_n 1, 1) := by decide +kernel
theorem dX11_coversOf_37 : decode cX11_coversOf 37 = .ok (.aload_n 0, 1) := by decide +kernel
theorem dX11_coversOf_38 : decode cX11_coversOf 38 = .ok (.aload_n 0, 1) := by decide +kernel
theorem dX11_coversOf_39 : decode cX11_coversOf 39 = .ok (.iload_n 3, 1) := by decide +kernel
set_option maxRecDepth 20000 in
theorem ggX11_coversOf_X11_handsOf : GoodIn wsX11_coversOf wsX11_handsOf := goodIn_r _ [49, 1, 40, 41, 5, 42, 50, 51, 52, 53, 12, 58, 59, 60, 61, 62, 63, 64, 65, 66, 67, 68, 69, 70, 71, 72, 73, 74, 75, 76, 77, 78, 79, 80, 81, 82, 83, 84, 85, 86, 87, 88] (by rfl) (by decide +kernel)
set_option maxRecDepth 20000 in
theorem gX11_coversOf_X11_handsOf : GoodIn wsX11_coversOf (wsV RX11 311 RX11 yX11_handsOf wsX11_handsOf) := goodIn_app (goodIn_r _ [46, 47, 48, 5] (by rfl) (by decide +kernel)) ggX11_coversOf_X11_handsOf
theorem dX11_coversOf_40 : decode cX11_coversOf 40 = .ok (.invokevirtual 311, 3) := by decide +kernel
set_option maxRecDepth 20000 in
theorem ggX11_coversOf_X11_doneBy : GoodIn wsX11_coversOf wsX11_doneBy := goodIn_r _ [57, 1, 40, 41, 5, 42, 19, 20, 21, 22, 23, 58, 59, 60, 61, 62, 63, 64, 65, 66, 67, 68, 69, 70, 71, 72, 73, 74, 75, 76, 77, 78, 79, 80, 81, 82, 83, 84, 85, 86, 87, 88] (by rfl) (by decide +kernel)
set_option maxRecDepth 20000 in
theorem gX11_coversOf_X11_doneBy : GoodIn wsX11_coversOf (wsV RX11 314 RX11 yX11_doneBy wsX11_doneBy) := goodIn_app (goodIn_r _ [54, 55, 56, 5] (by rfl) (by decide +kernel)) ggX11_coversOf_X11_doneBy
theorem dX11_coversOf_43 : decode cX11_coversOf 43 = .ok (.invokevirtual 314, 3) := by decide +kernel
theorem dX11_coversOf_46 : decode cX11_coversOf 46 = .ok (.iconst (-1), 1) := by decide +kernel
theorem dX11_coversOf_47 : decode cX11_coversOf 47 = .ok (.ixor, 1) := by decide +kernel
theorem dX11_coversOf_48 : decode cX11_coversOf 48 = .ok (.iand, 1) := by decide +kernel
theorem dX11_coversOf_49 : decode cX11_coversOf 49 = .ok (.ifCond .ne 5, 3) := by decide +kernel
theorem dX11_coversOf_52 : decode cX11_coversOf 52 = .ok (.iload_n 3, 1) := by decide +kernel
theorem dX11_coversOf_53 : decode cX11_coversOf 53 = .ok (.istore_n 2, 1) := by decide +kernel
theorem dX11_coversOf_22 : decode cX11_coversOf 22 = .ok (.if_icmp .eq 14, 3) := by decide +kernel
theorem dX11_coversOf_25 : decode cX11_coversOf 25 = .ok (.iload_n 3, 1) := by decide +kernel
set_option maxRecDepth 20000 in
theorem ggX11_coversOf_X11_sizeOf : GoodIn wsX11_coversOf wsX11_sizeOf := goodIn_r _ [45] (by rfl) (by decide +kernel)
set_option maxRecDepth 20000 in
theorem gX11_coversOf_X11_sizeOf : GoodIn wsX11_coversOf (va_wsS RX11 297 yX11_sizeOf wsX11_sizeOf) := goodIn_app (goodIn_r _ [43, 44, 5] (by rfl) (by decide +kernel)) ggX11_coversOf_X11_sizeOf
theorem dX11_coversOf_26 : decode cX11_coversOf 26 = .ok (.invokestatic 297, 3) := by decide +kernel
theorem dX11_coversOf_29 : decode cX11_coversOf 29 = .ok (.iload_n 2, 1) := by decide +kernel
theorem dX11_coversOf_30 : decode cX11_coversOf 30 = .ok (.invokestatic 297, 3) := by decide +kernel
theorem dX11_coversOf_33 : decode cX11_coversOf 33 = .ok (.if_icmp .ge 21, 3) := by decide +kernel
set_option maxHeartbeats 4000000 in
set_option maxRecDepth 100000 in
theorem a_X11_work (l : Launch) (G : va_G) (ct : Nat → ClassId) (a0 : Nat) (n0_0 : Int32) (a1 : Nat) (a2 : Nat) (a3 : Nat) (a4 : Nat) (a5 : Nat) (n0_6 : Int32) (n0_7 : Int32) (n0_8 : Int32) (n0_9 : Int32) (n0_10 : Int32) (l0_11 : Int64) (n0_12 : Int32) (n0_13 : Int32) (n0_14 : Int32) (n0_15 : Int32) (a6 : Nat) (a7 : Nat) (a8 : Nat) (a9 : Nat) (a10 : Nat) (a11 : Nat) (a12 : Nat) (a13 : Nat) (n0_24 : Int32) (n0_25 : Int32) (n0_26 : Int32) (n0_27 : Int32) (a14 : Nat) (n0_29 : Int32) (n0_30 : Int32) (f6 : Nat → Int32) (f7 : Nat → Int32) (f8 : Nat → Int32) (f9 : Nat → Int32) (f11 : Nat → Int32) (f12 : Nat → Int32) (f13 : Nat → Int32) (f14 : Nat → Int32) (hp_n0_6 : rg 0 900 n0_6) (hp_f7 : hsI f7) (hp_f8 : psI f8) (hp_f9 : ar 0 7 f9) (hp_f11 : ar (-1) 7 f11) (hp_f13 : ar (-1) 7 f13) : Met l yX11_work wsX11_work ({ frames := 5, cells := 0, slots := 0, locals := 111 }) (va_Pc [.ref a0] (wrP G ct [(a0, .inr (11, [.int n0_0, .ref a1, .ref a2, .ref a3, .ref a4, .ref a5, .int n0_6, .int n0_7, .int n0_8, .int n0_9, .int n0_10, .long l0_11, .int n0_12, .int n0_13, .int n0_14, .int n0_15, .ref a6, .ref a7, .ref a8, .ref a9, .ref a10, .ref a11, .ref a12, .ref a13, .int n0_24, .int n0_25, .int n0_26, .int n0_27, .ref a14, .int n0_29, .int n0_30])), (a6, .inl (ct 0, 5, .inl f6)), (a7, .inl (ct 0, 15, .inl f7)), (a8, .inl (ct 0, 200, .inl f8)), (a9, .inl (ct 0, 1000, .inl f9)), (a11, .inl (ct 0, 8, .inl f11)), (a12, .inl (ct 0, 8, .inl f12)), (a13, .inl (ct 0, 8, .inl f13)), (a14, .inl (ct 0, 576, .inl f14))])) (va_Qi (fun (r : Int32) (u : SU) => ar (-1) 7 (u.2.1 0) ∧ ar (-1) 7 (u.2.1 2) ∧ rg 0 0 (u.1 0) ∧ True) (fun u t => va_P G vwCl ((fun u : SU => [(a0, .inr (11, [.int (u.1 0), .ref a1, .ref a2, .ref a3, .ref a4, .ref a5, .int n0_6, .int n0_7, .int n0_8, .int n0_9, .int n0_10, .long l0_11, .int n0_12, .int n0_13, .int n0_14, .int n0_15, .ref a6, .ref a7, .ref a8, .ref a9, .ref a10, .ref a11, .ref a12, .ref a13, .int (u.1 1), .int (u.1 2), .int (u.1 3), .int (u.1 4), .ref a14, .int n0_29, .int n0_30])), (a6, .inl (ct 0, 5, .inl f6)), (a7, .inl (ct 0, 15, .inl f7)), (a8, .inl (ct 0, 200, .inl f8)), (a9, .inl (ct 0, 1000, .inl f9)), (a11, .inl (ct 0, 8, .inl (u.2.1 0))), (a12, .inl (ct 0, 8, .inl (u.2.1 1))), (a13, .inl (ct 0, 8, .inl (u.2.1 2))), (a14, .inl (ct 0, 576, .inl (u.2.1 3)))]) u) t.heap) (aset [(a0, .inr (11, [.int n0_0, .ref a1, .ref a2, .ref a3, .ref a4, .ref a5, .int n0_6, .int n0_7, .int n0_8, .int n0_9, .int n0_10, .long l0_11, .int n0_12, .int n0_13, .int n0_14, .int n0_15, .ref a6, .ref a7, .ref a8, .ref a9, .ref a10, .ref a11, .ref a12, .ref a13, .int n0_24, .int n0_25, .int n0_26, .int n0_27, .ref a14, .int n0_29, .int n0_30])), (a6, .inl (ct 0, 5, .inl f6)), (a7, .inl (ct 0, 15, .inl f7)), (a8, .inl (ct 0, 200, .inl f8)), (a9, .inl (ct 0, 1000, .inl f9)), (a11, .inl (ct 0, 8, .inl f11)), (a12, .inl (ct 0, 8, .inl f12)), (a13, .inl (ct 0, 8, .inl f13)), (a14, .inl (ct 0, 576, .inl f14))])) 0 0 (aset [(a0, .inr (11, [.int n0_0, .ref a1, .ref a2, .ref a3, .ref a4, .ref a5, .int n0_6, .int n0_7, .int n0_8, .int n0_9, .int n0_10, .long l0_11, .int n0_12, .int n0_13, .int n0_14, .int n0_15, .ref a6, .ref a7, .ref a8, .ref a9, .ref a10, .ref a11, .ref a12, .ref a13, .int n0_24, .int n0_25, .int n0_26, .int n0_27, .ref a14, .int n0_29, .int n0_30])), (a6, .inl (ct 0, 5, .inl f6)), (a7, .inl (ct 0, 15, .inl f7)), (a8, .inl (ct 0, 200, .inl f8)), (a9, .inl (ct 0, 1000, .inl f9)), (a11, .inl (ct 0, 8, .inl f11)), (a12, .inl (ct 0, 8, .inl f12)), (a13, .inl (ct 0, 8, .inl f13)), (a14, .inl (ct 0, 576, .inl f14))]) := by
  refine Met.ofW (cc := cX11_work) (maxL := 3) (ret := (some .int)) (by decide) rfl ?_
  intro p e s m args below meth c s₁ B hml hv
  obtain ⟨rfl, hP, hK, hD0⟩ := hv
  have hx := B.exec
  have hb := B.bytes
  have hr := B.returns
  have hts := atoms_spec (ws := wsX11_work) B.pre
  have hown : s.vm.findClass RX11 = some m.cls := findClass_of_methodNamed B.named
  have hlocks := B.notSynchronized
  have hD := hD0.aself
  generalize hAe : aset [(a0, .inr (11, [.int n0_0, .ref a1, .ref a2, .ref a3, .ref a4, .ref a5, .int n0_6, .int n0_7, .int n0_8, .int n0_9, .int n0_10, .long l0_11, .int n0_12, .int n0_13, .int n0_14, .int n0_15, .ref a6, .ref a7, .ref a8, .ref a9, .ref a10, .ref a11, .ref a12, .ref a13, .int n0_24, .int n0_25, .int n0_26, .int n0_27, .ref a14, .int n0_29, .int n0_30])), (a6, .inl (ct 0, 5, .inl f6)), (a7, .inl (ct 0, 15, .inl f7)), (a8, .inl (ct 0, 200, .inl f8)), (a9, .inl (ct 0, 1000, .inl f9)), (a11, .inl (ct 0, 8, .inl f11)), (a12, .inl (ct 0, 8, .inl f12)), (a13, .inl (ct 0, 8, .inl f13)), (a14, .inl (ct 0, 576, .inl f14))] = A at hD ⊢
  have hS : va_S A s.heap s.heap [] := va_S.rf
  have hl := lv_entry ([.ref a0]) (n := 3) (Nat.le_of_ble_eq_true rfl)
  rw [lg_entry_eq]
  generalize (lg_sl ([.ref a0]) ++ List.replicate (3 - (lg_sl ([.ref a0])).length) Slot.unset).toArray = ls at hl ⊢
  have hl : lv_has ls 3 [(0, .ref a0)] := hl
  refine lv_aload_n hx hb dX11_work_0 rfl (lv_at hl 0 rfl) ?_
  refine lv_iconst (v := 0) hx hb dX11_work_1 (by decide) ?_
  refine va_put (D := G) (ci := 11) (v := .int 0) (ty := .int) (C := RX11) (T := TX11) (N := 31) hx hb hts (by decide +kernel) tyX11 tyX11_ok nmX11 hown hK.1 hP hD hS 0 rfl rfl 0 (by decide) (hts (.fieldLink RX11 59 "CardHolderModel" "thrown" "I") (by decide +kernel)) (fun _ h9 => h9) rfl (by decide +kernel) rfl rfl (Nat.le_of_ble_eq_true rfl) dX11_work_2 (fun H locs hP hD hS => ?_)
  refine lv_aload_n hx hb dX11_work_5 rfl (lv_at hl 0 rfl) ?_
  refine ro_calli (va_runV (As := []) (rest := []) ⟨hx, hb, hml, hown, hts⟩ (a_X11_isCity l G ct a0 (0 : Int32) a1 a2 a3 a4 a5 n0_6 n0_7 n0_8 n0_9 n0_10 l0_11 n0_12 n0_13 n0_14 n0_15 a6 a7 a8 a9 a10 a11 a12 a13 n0_24 n0_25 n0_26 n0_27 a14 n0_29 n0_30 f6 hp_n0_6) (cwV 0 hts gX11_work_X11_isCity rfl rfl rfl (by decide +kernel) ⟨Nat.le_of_ble_eq_true rfl, Nat.le_of_ble_eq_true rfl⟩) (ro_preV 11 0 hK (hP.sub [0, 1] rfl) rfl rfl) rfl rfl hl.1 rfl (lv_room (Nat.le_of_ble_eq_true rfl)) dX11_work_6 ⟨Nat.zero_le _, Nat.zero_le _⟩) hS hP (fun r6 H locs wr6 hP hS => ?_)
  obtain ⟨p_1, -⟩ := wr6
  refine lv_if_ne (tgt := 15) hx hb dX11_work_9 (by decide) (fun c9 => ?_) (fun c9 => ?_)
  · have h_2 : rg 1 1 r6 := r_ne_lo_i c9 p_1 (by decide) (by decide)
    refine lv_aload_n hx hb dX11_work_15 rfl (lv_at hl 0 rfl) ?_
    refine wj_callv (wr := [(a6, .inl (ct 0, 5, .inl f6)), (a14, .inl (ct 0, 576, .inl f14))]) (w1 := (fun u : SU => [(a0, .inr (11, [.int 0, .ref a1, .ref a2, .ref a3, .ref a4, .ref a5, .int n0_6, .int n0_7, .int n0_8, .int n0_9, .int n0_10, .long l0_11, .int n0_12, .int n0_13, .int n0_14, .int n0_15, .ref a6, .ref a7, .ref a8, .ref a9, .ref a10, .ref a11, .ref a12, .ref a13, .int (u.1 0), .int (u.1 1), .int (u.1 2), .int (u.1 3), .ref a14, .int n0_29, .int n0_30])), (a7, .inl (ct 0, 15, .inl f7)), (a8, .inl (ct 0, 200, .inl f8)), (a9, .inl (ct 0, 1000, .inl f9)), (a11, .inl (ct 0, 8, .inl (u.2.1 0))), (a12, .inl (ct 0, 8, .inl (u.2.1 1))), (a13, .inl (ct 0, 8, .inl (u.2.1 2)))])) (va_runV (As := []) (rest := []) ⟨hx, hb, hml, hown, hts⟩ (a_X11_laysNow l G ct a0 (0 : Int32) a1 a2 a3 a4 a5 n0_6 n0_7 n0_8 n0_9 n0_10 l0_11 n0_12 n0_13 n0_14 n0_15 a6 a7 a8 a9 a10 a11 a12 a13 n0_24 n0_25 n0_26 n0_27 a14 n0_29 n0_30 f7 f8 f9 f11 f12 f13 hp_n0_6 hp_f7 hp_f8 hp_f9 hp_f11 hp_f13) (cwV 0 hts gX11_work_X11_laysNow rfl rfl rfl (by decide +kernel) ⟨Nat.le_of_ble_eq_true rfl, Nat.le_of_ble_eq_true rfl⟩) (wr_preV 11 0 hK (hP.sub [0, 2, 3, 4, 5, 6, 7] rfl) (hD.sub [0, 2, 3, 4, 5, 6, 7] (by decide) rfl) rfl rfl) rfl rfl hl.1 rfl (lv_room (Nat.le_of_ble_eq_true rfl)) dX11_work_16 ⟨Nat.zero_le _, Nat.zero_le _⟩) hS hP hD [0, 2, 3, 4, 5, 6, 7] [1, 8] rfl rfl (by decide) (fun _ => rfl) (fun ur16 H locs wr16 hP hD hS => ?_)
    have hP : va_P G vwCl [(a0, .inr (11, [.int 0, .ref a1, .ref a2, .ref a3, .ref a4, .ref a5, .int n0_6, .int n0_7, .int n0_8, .int n0_9, .int n0_10, .long l0_11, .int n0_12, .int n0_13, .int n0_14, .int n0_15, .ref a6, .ref a7, .ref a8, .ref a9, .ref a10, .ref a11, .ref a12, .ref a13, .int (ur16.1 0), .int (ur16.1 1), .int (ur16.1 2), .int (ur16.1 3), .ref a14, .int n0_29, .int n0_30])), (a6, .inl (ct 0, 5, .inl f6)), (a7, .inl (ct 0, 15, .inl f7)), (a8, .inl (ct 0, 200, .inl f8)), (a9, .inl (ct 0, 1000, .inl f9)), (a11, .inl (ct 0, 8, .inl (ur16.2.1 0))), (a12, .inl (ct 0, 8, .inl (ur16.2.1 1))), (a13, .inl (ct 0, 8, .inl (ur16.2.1 2))), (a14, .inl (ct 0, 576, .inl f14))] H := hP.sub [2, 0, 3, 4, 5, 6, 7, 8, 1] rfl
    have hD : va_D A [(a0, .inr (11, [.int 0, .ref a1, .ref a2, .ref a3, .ref a4, .ref a5, .int n0_6, .int n0_7, .int n0_8, .int n0_9, .int n0_10, .long l0_11, .int n0_12, .int n0_13, .int n0_14, .int n0_15, .ref a6, .ref a7, .ref a8, .ref a9, .ref a10, .ref a11, .ref a12, .ref a13, .int (ur16.1 0), .int (ur16.1 1), .int (ur16.1 2), .int (ur16.1 3), .ref a14, .int n0_29, .int n0_30])), (a6, .inl (ct 0, 5, .inl f6)), (a7, .inl (ct 0, 15, .inl f7)), (a8, .inl (ct 0, 200, .inl f8)), (a9, .inl (ct 0, 1000, .inl f9)), (a11, .inl (ct 0, 8, .inl (ur16.2.1 0))), (a12, .inl (ct 0, 8, .inl (ur16.2.1 1))), (a13, .inl (ct 0, 8, .inl (ur16.2.1 2))), (a14, .inl (ct 0, 576, .inl f14))] := hD.sub [2, 0, 3, 4, 5, 6, 7, 8, 1] (by decide) rfl
    obtain ⟨p_3, p_4, -⟩ := wr16
    refine lv_iconst (v := 0) hx hb dX11_work_19 (by decide) ?_
    refine lv_istore_n (lv' := [(1, .int 0), (0, .ref a0)]) hx hb dX11_work_20 rfl hl (by decide) rfl (fun ls hl => ?_)
    refine lv_iconst (v := 0) hx hb dX11_work_21 (by decide) ?_
    refine lv_istore_n (lv' := [(2, .int 0), (1, .int 0), (0, .ref a0)]) hx hb dX11_work_22 rfl hl (by decide) rfl (fun ls hl => ?_)
    have j23 : ∀ (n : Nat) (x23_1 : Int32) (x23_2 : Int32) (f23_8 : Nat → Int32) (H : Heap) (locs : List Loc) (ls : Array Slot), 2147483648 ≤ x23_2.toInt + (n : Int) → rg 0 8 x23_2 → va_P G vwCl [(a0, .inr (11, [.int 0, .ref a1, .ref a2, .ref a3, .ref a4, .ref a5, .int n0_6, .int n0_7, .int n0_8, .int n0_9, .int n0_10, .long l0_11, .int n0_12, .int n0_13, .int n0_14, .int n0_15, .ref a6, .ref a7, .ref a8, .ref a9, .ref a10, .ref a11, .ref a12, .ref a13, .int (ur16.1 0), .int (ur16.1 1), .int (ur16.1 2), .int (ur16.1 3), .ref a14, .int n0_29, .int n0_30])), (a6, .inl (ct 0, 5, .inl f6)), (a7, .inl (ct 0, 15, .inl f7)), (a8, .inl (ct 0, 200, .inl f8)), (a9, .inl (ct 0, 1000, .inl f9)), (a11, .inl (ct 0, 8, .inl (ur16.2.1 0))), (a12, .inl (ct 0, 8, .inl (ur16.2.1 1))), (a13, .inl (ct 0, 8, .inl (ur16.2.1 2))), (a14, .inl (ct 0, 576, .inl f23_8))] H → va_D A [(a0, .inr (11, [.int 0, .ref a1, .ref a2, .ref a3, .ref a4, .ref a5, .int n0_6, .int n0_7, .int n0_8, .int n0_9, .int n0_10, .long l0_11, .int n0_12, .int n0_13, .int n0_14, .int n0_15, .ref a6, .ref a7, .ref a8, .ref a9, .ref a10, .ref a11, .ref a12, .ref a13, .int (ur16.1 0), .int (ur16.1 1), .int (ur16.1 2), .int (ur16.1 3), .ref a14, .int n0_29, .int n0_30])), (a6, .inl (ct 0, 5, .inl f6)), (a7, .inl (ct 0, 15, .inl f7)), (a8, .inl (ct 0, 200, .inl f8)), (a9, .inl (ct 0, 1000, .inl f9)), (a11, .inl (ct 0, 8, .inl (ur16.2.1 0))), (a12, .inl (ct 0, 8, .inl (ur16.2.1 1))), (a13, .inl (ct 0, 8, .inl (ur16.2.1 2))), (a14, .inl (ct 0, 576, .inl f23_8))] → va_S A s.heap H locs → lv_has ls 3 [(0, .ref a0), (1, .int x23_1), (2, .int x23_2)] → W p l e (headSpec wsX11_work ({ frames := 5, cells := 0, slots := 0, locals := 111 })).room s m ([.ref a0] : List Value).toArray below meth c H locs 0 0 (MQ below (va_Qi (fun (r : Int32) (u : SU) => ar (-1) 7 (u.2.1 0) ∧ ar (-1) 7 (u.2.1 2) ∧ rg 0 0 (u.1 0) ∧ True) (fun u t => va_P G vwCl ((fun u : SU => [(a0, .inr (11, [.int (u.1 0), .ref a1, .ref a2, .ref a3, .ref a4, .ref a5, .int n0_6, .int n0_7, .int n0_8, .int n0_9, .int n0_10, .long l0_11, .int n0_12, .int n0_13, .int n0_14, .int n0_15, .ref a6, .ref a7, .ref a8, .ref a9, .ref a10, .ref a11, .ref a12, .ref a13, .int (u.1 1), .int (u.1 2), .int (u.1 3), .int (u.1 4), .ref a14, .int n0_29, .int n0_30])), (a6, .inl (ct 0, 5, .inl f6)), (a7, .inl (ct 0, 15, .inl f7)), (a8, .inl (ct 0, 200, .inl f8)), (a9, .inl (ct 0, 1000, .inl f9)), (a11, .inl (ct 0, 8, .inl (u.2.1 0))), (a12, .inl (ct 0, 8, .inl (u.2.1 1))), (a13, .inl (ct 0, 8, .inl (u.2.1 2))), (a14, .inl (ct 0, 576, .inl (u.2.1 3)))]) u) t.heap) A) ([.ref a0] : List Value).toArray s 0 0 A) (F0 m 23 ls []) := by
      intro n
      induction n with
      | zero => intro x23_1 x23_2 f23_8 H locs ls hn23 hx23_2 hP hD hS hl; exact absurd hn23 (by have := Int32.toInt_lt x23_2; have := Int32.le_toInt x23_2; omega)
      | succ n ih23 =>
        intro x23_1 x23_2 f23_8 H locs ls hn23 hx23_2 hP hD hS hl
        refine lv_iload_n hx hb dX11_work_23 rfl (lv_at hl 2 rfl) ?_
        refine lv_aload_n hx hb dX11_work_24 rfl (lv_at hl 0 rfl) ?_
        refine va_get (D := G) (ci := 11) (v := .ref a7) (C := RX11) (T := TX11) (N := 31) hx hb hts (by decide +kernel) hown hK.1 hP 0 rfl rfl 17 (by decide) (hts (.fieldLink RX11 34 "CardHolderModel" "has" "[I") (by decide +kernel)) (fun _ h9 => h9) rfl dX11_work_25 ?_
        refine lv_iconst (v := 1) hx hb dX11_work_28 (by decide) ?_
        refine va_iald hx hb hK.1 hP 2 0 rfl rfl (in_lit (by decide)) dX11_work_29 ?_
        refine lv_topi (fun z29 gz29 => ?_)
        have hz29 : rg 0 8 z29 := by rw [gz29]; exact (hp_f7.1 0)
        refine lv_icmp_ge (tgt := 58) hx hb dX11_work_30 (by decide) (fun c30 => ?_) (fun c30 => ?_)
        · refine lv_iload_n hx hb dX11_work_58 rfl (lv_at hl 1 rfl) ?_
          exact W.iret (v := x23_1) hx hb hr (fun t ht hW => ⟨⟨x23_1, (fun k => ([0, ur16.1 0, ur16.1 1, ur16.1 2, ur16.1 3] : List Int32).getD k 0, fun k => ([ur16.2.1 0, ur16.2.1 1, ur16.2.1 2, f23_8] : List (Nat → Int32)).getD k (fun _ => 0), fun k => ([] : List (Nat → Int64)).getD k (fun _ => 0)), rfl, ⟨p_3, p_4, (rgn 0 (x := 0) (by decide)), trivial⟩, hp_at ht hP⟩, hS.F ht⟩) hS.2.2 dX11_work_59
        · have h_5 : rg 0 7 x23_2 := r_lt_l_i (nle_i c30) hx23_2 hz29 (by decide)
          have h_6 : rg 1 8 z29 := r_lt_r_i (nle_i c30) hx23_2 hz29 (by decide)
          refine lv_aload_n hx hb dX11_work_33 rfl (lv_at hl 0 rfl) ?_
          refine lv_iload_n hx hb dX11_work_34 rfl (lv_at hl 2 rfl) ?_
          refine wj_callv (wr := [(a6, .inl (ct 0, 5, .inl f6)), (a9, .inl (ct 0, 1000, .inl f9)), (a12, .inl (ct 0, 8, .inl (ur16.2.1 1))), (a13, .inl (ct 0, 8, .inl (ur16.2.1 2)))]) (w1 := (fun u : SU => [(a0, .inr (11, [.int 0, .ref a1, .ref a2, .ref a3, .ref a4, .ref a5, .int n0_6, .int n0_7, .int n0_8, .int n0_9, .int n0_10, .long l0_11, .int n0_12, .int n0_13, .int n0_14, .int n0_15, .ref a6, .ref a7, .ref a8, .ref a9, .ref a10, .ref a11, .ref a12, .ref a13, .int (ur16.1 0), .int (ur16.1 1), .int (ur16.1 2), .int (ur16.1 3), .ref a14, .int n0_29, .int n0_30])), (a7, .inl (ct 0, 15, .inl f7)), (a8, .inl (ct 0, 200, .inl f8)), (a11, .inl (ct 0, 8, .inl (ur16.2.1 0))), (a14, .inl (ct 0, 576, .inl (u.2.1 0)))])) (va_runV (As := [.int x23_2]) (rest := []) ⟨hx, hb, hml, hown, hts⟩ (a_X11_laysWork l G ct a0 (0 : Int32) a1 a2 a3 a4 a5 n0_6 n0_7 n0_8 n0_9 n0_10 l0_11 n0_12 n0_13 n0_14 n0_15 a6 a7 a8 a9 a10 a11 a12 a13 (ur16.1 0) (ur16.1 1) (ur16.1 2) (ur16.1 3) a14 n0_29 n0_30 f7 f8 (ur16.2.1 0) f23_8 x23_2 hp_n0_6 hp_f7 hp_f8 p_3) (cwV 1 hts gX11_work_X11_laysWork rfl rfl rfl (by decide +kernel) ⟨Nat.le_of_ble_eq_true rfl, Nat.le_of_ble_eq_true rfl⟩) (wr_preV 11 0 hK (hP.sub [0, 2, 3, 5, 8] rfl) (hD.sub [0, 2, 3, 5, 8] (by decide) rfl) rfl rfl) rfl rfl hl.1 rfl (lv_room (Nat.le_of_ble_eq_true rfl)) dX11_work_35 ⟨Nat.zero_le _, Nat.zero_le _⟩) hS hP hD [0, 2, 3, 5, 8] [1, 4, 6, 7] rfl rfl (by decide) (fun _ => rfl) (fun ur35 H locs wr35 hP hD hS => ?_)
          have hP : va_P G vwCl [(a0, .inr (11, [.int 0, .ref a1, .ref a2, .ref a3, .ref a4, .ref a5, .int n0_6, .int n0_7, .int n0_8, .int n0_9, .int n0_10, .long l0_11, .int n0_12, .int n0_13, .int n0_14, .int n0_15, .ref a6, .ref a7, .ref a8, .ref a9, .ref a10, .ref a11, .ref a12, .ref a13, .int (ur16.1 0), .int (ur16.1 1), .int (ur16.1 2), .int (ur16.1 3), .ref a14, .int n0_29, .int n0_30])), (a6, .inl (ct 0, 5, .inl f6)), (a7, .inl (ct 0, 15, .inl f7)), (a8, .inl (ct 0, 200, .inl f8)), (a9, .inl (ct 0, 1000, .inl f9)), (a11, .inl (ct 0, 8, .inl (ur16.2.1 0))), (a12, .inl (ct 0, 8, .inl (ur16.2.1 1))), (a13, .inl (ct 0, 8, .inl (ur16.2.1 2))), (a14, .inl (ct 0, 576, .inl (ur35.2.1 0)))] H := hP.sub [4, 0, 5, 6, 1, 7, 2, 3, 8] rfl
          have hD : va_D A [(a0, .inr (11, [.int 0, .ref a1, .ref a2, .ref a3, .ref a4, .ref a5, .int n0_6, .int n0_7, .int n0_8, .int n0_9, .int n0_10, .long l0_11, .int n0_12, .int n0_13, .int n0_14, .int n0_15, .ref a6, .ref a7, .ref a8, .ref a9, .ref a10, .ref a11, .ref a12, .ref a13, .int (ur16.1 0), .int (ur16.1 1), .int (ur16.1 2), .int (ur16.1 3), .ref a14, .int n0_29, .int n0_30])), (a6, .inl (ct 0, 5, .inl f6)), (a7, .inl (ct 0, 15, .inl f7)), (a8, .inl (ct 0, 200, .inl f8)), (a9, .inl (ct 0, 1000, .inl f9)), (a11, .inl (ct 0, 8, .inl (ur16.2.1 0))), (a12, .inl (ct 0, 8, .inl (ur16.2.1 1))), (a13, .inl (ct 0, 8, .inl (ur16.2.1 2))), (a14, .inl (ct 0, 576, .inl (ur35.2.1 0)))] := hD.sub [4, 0, 5, 6, 1, 7, 2, 3, 8] (by decide) rfl
          refine lv_iload_n hx hb dX11_work_38 rfl (lv_at hl 1 rfl) ?_
          refine lv_aload_n hx hb dX11_work_39 rfl (lv_at hl 0 rfl) ?_
          refine va_get (D := G) (ci := 11) (v := .ref a14) (C := RX11) (T := TX11) (N := 31) hx hb hts (by decide +kernel) hown hK.1 hP 0 rfl rfl 28 (by decide) (hts (.fieldLink RX11 56 "CardHolderModel" "most" "[I") (by decide +kernel)) (fun _ h9 => h9) rfl dX11_work_40 ?_
          refine lv_aload_n hx hb dX11_work_43 rfl (lv_at hl 0 rfl) ?_
          refine lv_iload_n hx hb dX11_work_44 rfl (lv_at hl 2 rfl) ?_
          refine lv_iconst (v := 2) hx hb dX11_work_45 (by decide) ?_
          refine ro_calli (va_runV (As := [.int x23_2, .int 2]) (rest := [.ref a14, .int x23_1]) ⟨hx, hb, hml, hown, hts⟩ (a_X11_of2 l G ct a0 (0 : Int32) a1 a2 a3 a4 a5 n0_6 n0_7 n0_8 n0_9 n0_10 l0_11 n0_12 n0_13 n0_14 n0_15 a6 a7 a8 a9 a10 a11 a12 a13 (ur16.1 0) (ur16.1 1) (ur16.1 2) (ur16.1 3) a14 n0_29 n0_30 f8 x23_2 hp_n0_6 hp_f8 h_5) (cwV 2 hts gX11_work_X11_of rfl rfl rfl (by decide +kernel) ⟨Nat.le_of_ble_eq_true rfl, Nat.le_of_ble_eq_true rfl⟩) (ro_preV 11 0 hK (hP.sub [0, 3] rfl) rfl rfl) rfl rfl hl.1 rfl (lv_room (Nat.le_of_ble_eq_true rfl)) dX11_work_46 ⟨Nat.zero_le _, Nat.zero_le _⟩) hS hP (fun r46 H locs wr46 hP hS => ?_)
          obtain ⟨p_7, -⟩ := wr46
          refine va_iald hx hb hK.1 hP 8 0 rfl rfl (in_rg p_7 (by decide)) dX11_work_49 ?_
          refine lv_topi (fun z49 gz49 => ?_)
          refine lv_iadd hx hb dX11_work_50 ?_
          refine nm_0 (fun z50 => ?_)
          refine lv_istore_n (lv' := [(1, .int z50), (0, .ref a0), (2, .int x23_2)]) hx hb dX11_work_51 rfl hl (by decide) rfl (fun ls hl => ?_)
          obtain ⟨z52, qz52⟩ : ∃ y : Int32, y = x23_2 + Int32.ofInt 1 := ⟨_, rfl⟩
          obtain ⟨hz52, ez52⟩ := inc_z (e := 1) (f := 8) h_5 qz52 (by decide)
          refine lv_iinc (v := z52) (lv' := [(2, .int z52), (1, .int z50), (0, .ref a0)]) hx hb dX11_work_52 hl (k := 2) rfl (qz52.symm) (by decide) rfl (fun ls hl => ?_)
          refine lv_goto (tgt := 23) hx hb dX11_work_55 (by decide) ?_
          exact ih23 z50 z52 (ur35.2.1 0) _ _ ls (by have q := hn23; have := ez52; omega) (rg_w (c := 0) (d := 8) hz52 (by decide)) hP hD hS (lv_sub hl [2, 1, 0] rfl)
    exact j23 4294967296 (0 : Int32) (0 : Int32) f14 _ _ ls (ms_e (0 : Int32)) (rg_w (c := 0) (d := 8) (rgn 0 (x := 0) (by decide)) (by decide)) hP hD hS (lv_sub hl [2, 1, 0] rfl)
  · have h_8 : rg 0 0 r6 := r_eq_l_i (e := 0) (f := 0) c9 p_1 (rgn 0 (x := 0) (by decide)) (by decide)
    refine lv_bipush (v := (-2)) hx hb dX11_work_12 (by decide) ?_
    exact W.iret (v := (-2)) hx hb hr (fun t ht hW => ⟨⟨(-2), (fun k => ([0, n0_24, n0_25, n0_26, n0_27] : List Int32).getD k 0, fun k => ([f11, f12, f13, f14] : List (Nat → Int32)).getD k (fun _ => 0), fun k => ([] : List (Nat → Int64)).getD k (fun _ => 0)), rfl, ⟨hp_f11, hp_f13, (rgn 0 (x := 0) (by decide)), trivial⟩, hp_at ht hP⟩, hS.F ht⟩) hS.2.2 dX11_work_14

set_option maxHeartbeats 4000000 in
set_option maxRecDepth 100000 in
theorem a_X11_works (l : Launch) (G : va_G) (ct : Nat → ClassId) (a0 : Nat) (n0_0 : Int32) (a1 : Nat) (a2 : Nat) (a3 : Nat) (a4 : Nat) (a5 : Nat) (n0_6 : Int32) (n0_7 : Int32) (n0_8 : Int32) (n0_9 : Int32) (n0_10 : Int32) (l0_11 : Int64) (n0_12 : Int32) (n0_13 : Int32) (n0_14 : Int32) (n0_15 : Int32) (a6 : Nat) (a7 : Nat) (a8 : Nat) (a9 : Nat) (a10 : Nat) (a11 : Nat) (a12 : Nat) (a13 : Nat) (n0_24 : Int32) (n0_25 : Int32) (n0_26 : Int32) (n0_27 : Int32) (a14 : Nat) (n0_29 : Int32) (n0_30 : Int32) (f7 : Nat → Int32) (f8 : Nat → Int32) (f9 : Nat → Int32) (f11 : Nat → Int32) (f12 : Nat → Int32) (f13 : Nat → Int32) (f14 : Nat → Int32) (p0 : Int32) (hp_n0_6 : rg 0 900 n0_6) (hp_f7 : hsI f7) (hp_f8 : psI f8) (hp_f9 : ar 0 7 f9) (hp_f11 : ar (-1) 7 f11) (hp_f13 : ar (-1) 7 f13) : Met l yX11_works wsX11_works ({ frames := 5, cells := 0, slots := 0, locals := 111 }) (va_Pc [.ref a0, .int p0] (wrP G ct [(a0, .inr (11, [.int n0_0, .ref a1, .ref a2, .ref a3, .ref a4, .ref a5, .int n0_6, .int n0_7, .int n0_8, .int n0_9, .int n0_10, .long l0_11, .int n0_12, .int n0_13, .int n0_14, .int n0_15, .ref a6, .ref a7, .ref a8, .ref a9, .ref a10, .ref a11, .ref a12, .ref a13, .int n0_24, .int n0_25, .int n0_26, .int n0_27, .ref a14, .int n0_29, .int n0_30])), (a7, .inl (ct 0, 15, .inl f7)), (a8, .inl (ct 0, 200, .inl f8)), (a9, .inl (ct 0, 1000, .inl f9)), (a11, .inl (ct 0, 8, .inl f11)), (a12, .inl (ct 0, 8, .inl f12)), (a13, .inl (ct 0, 8, .inl f13)), (a14, .inl (ct 0, 576, .inl f14))])) (va_Qi (fun (r : Int32) (u : SU) => rg (-2) 5 r ∧ (r = 0 → rg 0 7 p0) ∧ (r = (-1) → rg 0 7 p0) ∧ (¬ r = (-2) → rg 0 7 p0) ∧ ar (-1) 7 (u.2.1 0) ∧ ar (-1) 7 (u.2.1 2) ∧ rg 0 0 (u.1 0) ∧ True) (fun u t => va_P G vwCl ((fun u : SU => [(a0, .inr (11, [.int (u.1 0), .ref a1, .ref a2, .ref a3, .ref a4, .ref a5, .int n0_6, .int n0_7, .int n0_8, .int n0_9, .int n0_10, .long l0_11, .int n0_12, .int n0_13, .int n0_14, .int n0_15, .ref a6, .ref a7, .ref a8, .ref a9, .ref a10, .ref a11, .ref a12, .ref a13, .int (u.1 1), .int (u.1 2), .int (u.1 3), .int (u.1 4), .ref a14, .int n0_29, .int n0_30])), (a7, .inl (ct 0, 15, .inl f7)), (a8, .inl (ct 0, 200, .inl f8)), (a9, .inl (ct 0, 1000, .inl f9)), (a11, .inl (ct 0, 8, .inl (u.2.1 0))), (a12, .inl (ct 0, 8, .inl (u.2.1 1))), (a13, .inl (ct 0, 8, .inl (u.2.1 2))), (a14, .inl (ct 0, 576, .inl (u.2.1 3)))]) u) t.heap) (aset [(a0, .inr (11, [.int n0_0, .ref a1, .ref a2, .ref a3, .ref a4, .ref a5, .int n0_6, .int n0_7, .int n0_8, .int n0_9, .int n0_10, .long l0_11, .int n0_12, .int n0_13, .int n0_14, .int n0_15, .ref a6, .ref a7, .ref a8, .ref a9, .ref a10, .ref a11, .ref a12, .ref a13, .int n0_24, .int n0_25, .int n0_26, .int n0_27, .ref a14, .int n0_29, .int n0_30])), (a7, .inl (ct 0, 15, .inl f7)), (a8, .inl (ct 0, 200, .inl f8)), (a9, .inl (ct 0, 1000, .inl f9)), (a11, .inl (ct 0, 8, .inl f11)), (a12, .inl (ct 0, 8, .inl f12)), (a13, .inl (ct 0, 8, .inl f13)), (a14, .inl (ct 0, 576, .inl f14))])) 0 0 (aset [(a0, .inr (11, [.int n0_0, .ref a1, .ref a2, .ref a3, .ref a4, .ref a5, .int n0_6, .int n0_7, .int n0_8, .int n0_9, .int n0_10, .long l0_11, .int n0_12, .int n0_13, .int n0_14, .int n0_15, .ref a6, .ref a7, .ref a8, .ref a9, .ref a10, .ref a11, .ref a12, .ref a13, .int n0_24, .int n0_25, .int n0_26, .int n0_27, .ref a14, .int n0_29, .int n0_30])), (a7, .inl (ct 0, 15, .inl f7)), (a8, .inl (ct 0, 200, .inl f8)), (a9, .inl (ct 0, 1000, .inl f9)), (a11, .inl (ct 0, 8, .inl f11)), (a12, .inl (ct 0, 8, .inl f12)), (a13, .inl (ct 0, 8, .inl f13)), (a14, .inl (ct 0, 576, .inl f14))]) := by
  refine Met.ofW (cc := cX11_works) (maxL := 7) (ret := (some .int)) (by decide) rfl ?_
  intro p e s m args below meth c s₁ B hml hv
  obtain ⟨rfl, hP, hK, hD0⟩ := hv
  have hx := B.exec
  have hb := B.bytes
  have hr := B.returns
  have hts := atoms_spec (ws := wsX11_works) B.pre
  have hown : s.vm.findClass RX11 = some m.cls := findClass_of_methodNamed B.named
  have hlocks := B.notSynchronized
  have hD := hD0.aself
  generalize hAe : aset [(a0, .inr (11, [.int n0_0, .ref a1, .ref a2, .ref a3, .ref a4, .ref a5, .int n0_6, .int n0_7, .int n0_8, .int n0_9, .int n0_10, .long l0_11, .int n0_12, .int n0_13, .int n0_14, .int n0_15, .ref a6, .ref a7, .ref a8, .ref a9, .ref a10, .ref a11, .ref a12, .ref a13, .int n0_24, .int n0_25, .int n0_26, .int n0_27, .ref a14, .int n0_29, .int n0_30])), (a7, .inl (ct 0, 15, .inl f7)), (a8, .inl (ct 0, 200, .inl f8)), (a9, .inl (ct 0, 1000, .inl f9)), (a11, .inl (ct 0, 8, .inl f11)), (a12, .inl (ct 0, 8, .inl f12)), (a13, .inl (ct 0, 8, .inl f13)), (a14, .inl (ct 0, 576, .inl f14))] = A at hD ⊢
  have hS : va_S A s.heap s.heap [] := va_S.rf
  have hl := lv_entry ([.ref a0, .int p0]) (n := 7) (Nat.le_of_ble_eq_true rfl)
  rw [lg_entry_eq]
  generalize (lg_sl ([.ref a0, .int p0]) ++ List.replicate (7 - (lg_sl ([.ref a0, .int p0])).length) Slot.unset).toArray = ls at hl ⊢
  have hl : lv_has ls 7 [(0, .ref a0), (1, .int p0)] := hl
  refine lv_aload_n hx hb dX11_works_0 rfl (lv_at hl 0 rfl) ?_
  refine lv_iconst (v := 0) hx hb dX11_works_1 (by decide) ?_
  refine va_put (D := G) (ci := 11) (v := .int 0) (ty := .int) (C := RX11) (T := TX11) (N := 31) hx hb hts (by decide +kernel) tyX11 tyX11_ok nmX11 hown hK.1 hP hD hS 0 rfl rfl 0 (by decide) (hts (.fieldLink RX11 59 "CardHolderModel" "thrown" "I") (by decide +kernel)) (fun _ h9 => h9) rfl (by decide +kernel) rfl rfl (Nat.le_of_ble_eq_true rfl) dX11_works_2 (fun H locs hP hD hS => ?_)
  refine lv_aload_n hx hb dX11_works_5 rfl (lv_at hl 0 rfl) ?_
  refine lv_iload_n hx hb dX11_works_6 rfl (lv_at hl 1 rfl) ?_
  refine lv_i2l hx hb dX11_works_7 rfl ?_
  refine nl_i2l (rg_t p0) (fun z7 hz7 ez7 => ?_)
  refine ro_calli (va_runV (As := [.long z7]) (rest := []) ⟨hx, hb, hml, hown, hts⟩ (a_X11_isPerson l G ct a0 (0 : Int32) a1 a2 a3 a4 a5 n0_6 n0_7 n0_8 n0_9 n0_10 l0_11 n0_12 n0_13 n0_14 n0_15 a6 a7 a8 a9 a10 a11 a12 a13 n0_24 n0_25 n0_26 n0_27 a14 n0_29 n0_30 f7 z7 hp_n0_6 hp_f7) (cwV 1 hts gX11_works_X11_isPerson rfl rfl rfl (by decide +kernel) ⟨Nat.le_of_ble_eq_true rfl, Nat.le_of_ble_eq_true rfl⟩) (ro_preV 11 0 hK (hP.sub [0, 1] rfl) rfl rfl) rfl rfl hl.1 rfl (lv_room (Nat.le_of_ble_eq_true rfl)) dX11_works_8 ⟨Nat.zero_le _, Nat.zero_le _⟩) hS hP (fun r8 H locs wr8 hP hS => ?_)
  obtain ⟨p_1, p_2, -⟩ := wr8
  refine lv_if_ne (tgt := 17) hx hb dX11_works_11 (by decide) (fun c11 => ?_) (fun c11 => ?_)
  · have h_3 : rg 1 1 r8 := r_ne_lo_i c11 p_1 (by decide) (by decide)
    have h_4 : rl 0 7 z7 := (p_2 (rne h_3 (y := 0) (c := 0) (by decide) (by decide)))
    have h_5 : rg 0 7 p0 := bk_li (a := 0) (b := 7) ez7 h_4 (rg_t p0) (by decide)
    refine lv_aload_n hx hb dX11_works_17 rfl (lv_at hl 0 rfl) ?_
    refine wj_callv (wr := [(a14, .inl (ct 0, 576, .inl f14))]) (w1 := (fun u : SU => [(a0, .inr (11, [.int 0, .ref a1, .ref a2, .ref a3, .ref a4, .ref a5, .int n0_6, .int n0_7, .int n0_8, .int n0_9, .int n0_10, .long l0_11, .int n0_12, .int n0_13, .int n0_14, .int n0_15, .ref a6, .ref a7, .ref a8, .ref a9, .ref a10, .ref a11, .ref a12, .ref a13, .int (u.1 0), .int (u.1 1), .int (u.1 2), .int (u.1 3), .ref a14, .int n0_29, .int n0_30])), (a7, .inl (ct 0, 15, .inl f7)), (a8, .inl (ct 0, 200, .inl f8)), (a9, .inl (ct 0, 1000, .inl f9)), (a11, .inl (ct 0, 8, .inl (u.2.1 0))), (a12, .inl (ct 0, 8, .inl (u.2.1 1))), (a13, .inl (ct 0, 8, .inl (u.2.1 2)))])) (va_runV (As := []) (rest := []) ⟨hx, hb, hml, hown, hts⟩ (a_X11_laysNow l G ct a0 (0 : Int32) a1 a2 a3 a4 a5 n0_6 n0_7 n0_8 n0_9 n0_10 l0_11 n0_12 n0_13 n0_14 n0_15 a6 a7 a8 a9 a10 a11 a12 a13 n0_24 n0_25 n0_26 n0_27 a14 n0_29 n0_30 f7 f8 f9 f11 f12 f13 hp_n0_6 hp_f7 hp_f8 hp_f9 hp_f11 hp_f13) (cwV 0 hts gX11_works_X11_laysNow rfl rfl rfl (by decide +kernel) ⟨Nat.le_of_ble_eq_true rfl, Nat.le_of_ble_eq_true rfl⟩) (wr_preV 11 0 hK (hP.sub [0, 1, 2, 3, 4, 5, 6] rfl) (hD.sub [0, 1, 2, 3, 4, 5, 6] (by decide) rfl) rfl rfl) rfl rfl hl.1 rfl (lv_room (Nat.le_of_ble_eq_true rfl)) dX11_works_18 ⟨Nat.zero_le _, Nat.zero_le _⟩) hS hP hD [0, 1, 2, 3, 4, 5, 6] [7] rfl rfl (by decide) (fun _ => rfl) (fun ur18 H locs wr18 hP hD hS => ?_)
    have hP : va_P G vwCl [(a0, .inr (11, [.int 0, .ref a1, .ref a2, .ref a3, .ref a4, .ref a5, .int n0_6, .int n0_7, .int n0_8, .int n0_9, .int n0_10, .long l0_11, .int n0_12, .int n0_13, .int n0_14, .int n0_15, .ref a6, .ref a7, .ref a8, .ref a9, .ref a10, .ref a11, .ref a12, .ref a13, .int (ur18.1 0), .int (ur18.1 1), .int (ur18.1 2), .int (ur18.1 3), .ref a14, .int n0_29, .int n0_30])), (a7, .inl (ct 0, 15, .inl f7)), (a8, .inl (ct 0, 200, .inl f8)), (a9, .inl (ct 0, 1000, .inl f9)), (a11, .inl (ct 0, 8, .inl (ur18.2.1 0))), (a12, .inl (ct 0, 8, .inl (ur18.2.1 1))), (a13, .inl (ct 0, 8, .inl (ur18.2.1 2))), (a14, .inl (ct 0, 576, .inl f14))] H := hP.sub [1, 2, 3, 4, 5, 6, 7, 0] rfl
    have hD : va_D A [(a0, .inr (11, [.int 0, .ref a1, .ref a2, .ref a3, .ref a4, .ref a5, .int n0_6, .int n0_7, .int n0_8, .int n0_9, .int n0_10, .long l0_11, .int n0_12, .int n0_13, .int n0_14, .int n0_15, .ref a6, .ref a7, .ref a8, .ref a9, .ref a10, .ref a11, .ref a12, .ref a13, .int (ur18.1 0), .int (ur18.1 1), .int (ur18.1 2), .int (ur18.1 3), .ref a14, .int n0_29, .int n0_30])), (a7, .inl (ct 0, 15, .inl f7)), (a8, .inl (ct 0, 200, .inl f8)), (a9, .inl (ct 0, 1000, .inl f9)), (a11, .inl (ct 0, 8, .inl (ur18.2.1 0))), (a12, .inl (ct 0, 8, .inl (ur18.2.1 1))), (a13, .inl (ct 0, 8, .inl (ur18.2.1 2))), (a14, .inl (ct 0, 576, .inl f14))] := hD.sub [1, 2, 3, 4, 5, 6, 7, 0] (by decide) rfl
    obtain ⟨p_6, p_7, -⟩ := wr18
    refine lv_aload_n hx hb dX11_works_21 rfl (lv_at hl 0 rfl) ?_
    refine va_get (D := G) (ci := 11) (v := .ref a11) (C := RX11) (T := TX11) (N := 31) hx hb hts (by decide +kernel) hown hK.1 hP 0 rfl rfl 21 (by decide) (hts (.fieldLink RX11 47 "CardHolderModel" "holder" "[I") (by decide +kernel)) (fun _ h9 => h9) rfl dX11_works_22 ?_
    refine lv_iload_n hx hb dX11_works_25 rfl (lv_at hl 1 rfl) ?_
    refine va_iald hx hb hK.1 hP 4 0 rfl rfl (in_rg h_5 (by decide)) dX11_works_26 ?_
    refine lv_topi (fun z26 gz26 => ?_)
    have hz26 : rg (-1) 7 z26 := by rw [gz26]; exact p_6 _
    refine lv_istore_n (lv' := [(2, .int z26), (0, .ref a0), (1, .int p0)]) hx hb dX11_works_27 rfl hl (by decide) rfl (fun ls hl => ?_)
    refine lv_iload_n hx hb dX11_works_28 rfl (lv_at hl 0 rfl) ?_
    refine lv_iconst (v := (-1)) hx hb dX11_works_29 (by decide) ?_
    refine lv_icmp_ne (tgt := 35) hx hb dX11_works_30 (by decide) (fun c30 => ?_) (fun c30 => ?_)
    · have h_8 : rg 0 7 z26 := r_ne_lo_i c30 hz26 (by decide) (by decide)
      refine lv_aload_n hx hb dX11_works_35 rfl (lv_at hl 1 rfl) ?_
      refine lv_iload_n hx hb dX11_works_36 rfl (lv_at hl 0 rfl) ?_
      refine wj_callv (wr := [(a9, .inl (ct 0, 1000, .inl f9)), (a12, .inl (ct 0, 8, .inl (ur18.2.1 1))), (a13, .inl (ct 0, 8, .inl (ur18.2.1 2)))]) (w1 := (fun u : SU => [(a0, .inr (11, [.int 0, .ref a1, .ref a2, .ref a3, .ref a4, .ref a5, .int n0_6, .int n0_7, .int n0_8, .int n0_9, .int n0_10, .long l0_11, .int n0_12, .int n0_13, .int n0_14, .int n0_15, .ref a6, .ref a7, .ref a8, .ref a9, .ref a10, .ref a11, .ref a12, .ref a13, .int (ur18.1 0), .int (ur18.1 1), .int (ur18.1 2), .int (ur18.1 3), .ref a14, .int n0_29, .int n0_30])), (a7, .inl (ct 0, 15, .inl f7)), (a8, .inl (ct 0, 200, .inl f8)), (a11, .inl (ct 0, 8, .inl (ur18.2.1 0))), (a14, .inl (ct 0, 576, .inl (u.2.1 0)))])) (va_runV (As := [.int z26]) (rest := []) ⟨hx, hb, hml, hown, hts⟩ (a_X11_laysWork l G ct a0 (0 : Int32) a1 a2 a3 a4 a5 n0_6 n0_7 n0_8 n0_9 n0_10 l0_11 n0_12 n0_13 n0_14 n0_15 a6 a7 a8 a9 a10 a11 a12 a13 (ur18.1 0) (ur18.1 1) (ur18.1 2) (ur18.1 3) a14 n0_29 n0_30 f7 f8 (ur18.2.1 0) f14 z26 hp_n0_6 hp_f7 hp_f8 p_6) (cwV 1 hts gX11_works_X11_laysWork rfl rfl rfl (by decide +kernel) ⟨Nat.le_of_ble_eq_true rfl, Nat.le_of_ble_eq_true rfl⟩) (wr_preV 11 0 hK (hP.sub [0, 1, 2, 4, 7] rfl) (hD.sub [0, 1, 2, 4, 7] (by decide) rfl) rfl rfl) rfl rfl hl.1 rfl (lv_room (Nat.le_of_ble_eq_true rfl)) dX11_works_37 ⟨Nat.zero_le _, Nat.zero_le _⟩) hS hP hD [0, 1, 2, 4, 7] [3, 5, 6] rfl rfl (by decide) (fun _ => rfl) (fun ur37 H locs wr37 hP hD hS => ?_)
      have hP : va_P G vwCl [(a0, .inr (11, [.int 0, .ref a1, .ref a2, .ref a3, .ref a4, .ref a5, .int n0_6, .int n0_7, .int n0_8, .int n0_9, .int n0_10, .long l0_11, .int n0_12, .int n0_13, .int n0_14, .int n0_15, .ref a6, .ref a7, .ref a8, .ref a9, .ref a10, .ref a11, .ref a12, .ref a13, .int (ur18.1 0), .int (ur18.1 1), .int (ur18.1 2), .int (ur18.1 3), .ref a14, .int n0_29, .int n0_30])), (a7, .inl (ct 0, 15, .inl f7)), (a8, .inl (ct 0, 200, .inl f8)), (a9, .inl (ct 0, 1000, .inl f9)), (a11, .inl (ct 0, 8, .inl (ur18.2.1 0))), (a12, .inl (ct 0, 8, .inl (ur18.2.1 1))), (a13, .inl (ct 0, 8, .inl (ur18.2.1 2))), (a14, .inl (ct 0, 576, .inl (ur37.2.1 0)))] H := hP.sub [3, 4, 5, 0, 6, 1, 2, 7] rfl
      have hD : va_D A [(a0, .inr (11, [.int 0, .ref a1, .ref a2, .ref a3, .ref a4, .ref a5, .int n0_6, .int n0_7, .int n0_8, .int n0_9, .int n0_10, .long l0_11, .int n0_12, .int n0_13, .int n0_14, .int n0_15, .ref a6, .ref a7, .ref a8, .ref a9, .ref a10, .ref a11, .ref a12, .ref a13, .int (ur18.1 0), .int (ur18.1 1), .int (ur18.1 2), .int (ur18.1 3), .ref a14, .int n0_29, .int n0_30])), (a7, .inl (ct 0, 15, .inl f7)), (a8, .inl (ct 0, 200, .inl f8)), (a9, .inl (ct 0, 1000, .inl f9)), (a11, .inl (ct 0, 8, .inl (ur18.2.1 0))), (a12, .inl (ct 0, 8, .inl (ur18.2.1 1))), (a13, .inl (ct 0, 8, .inl (ur18.2.1 2))), (a14, .inl (ct 0, 576, .inl (ur37.2.1 0)))] := hD.sub [3, 4, 5, 0, 6, 1, 2, 7] (by decide) rfl
      refine lv_aload_n hx hb dX11_works_40 rfl (lv_at hl 1 rfl) ?_
      refine lv_iload_n hx hb dX11_works_41 rfl (lv_at hl 0 rfl) ?_
      refine lv_iconst (v := 2) hx hb dX11_works_42 (by decide) ?_
      refine ro_calli (va_runV (As := [.int z26, .int 2]) (rest := []) ⟨hx, hb, hml, hown, hts⟩ (a_X11_of2 l G ct a0 (0 : Int32) a1 a2 a3 a4 a5 n0_6 n0_7 n0_8 n0_9 n0_10 l0_11 n0_12 n0_13 n0_14 n0_15 a6 a7 a8 a9 a10 a11 a12 a13 (ur18.1 0) (ur18.1 1) (ur18.1 2) (ur18.1 3) a14 n0_29 n0_30 f8 z26 hp_n0_6 hp_f8 h_8) (cwV 2 hts gX11_works_X11_of rfl rfl rfl (by decide +kernel) ⟨Nat.le_of_ble_eq_true rfl, Nat.le_of_ble_eq_true rfl⟩) (ro_preV 11 0 hK (hP.sub [0, 2] rfl) rfl rfl) rfl rfl hl.1 rfl (lv_room (Nat.le_of_ble_eq_true rfl)) dX11_works_43 ⟨Nat.zero_le _, Nat.zero_le _⟩) hS hP (fun r43 H locs wr43 hP hS => ?_)
      obtain ⟨p_9, -⟩ := wr43
      refine lv_istore_n (lv' := [(3, .int r43), (2, .int z26), (0, .ref a0), (1, .int p0)]) hx hb dX11_works_46 rfl hl (by decide) rfl (fun ls hl => ?_)
      refine lv_iconst (v := 0) hx hb dX11_works_47 (by decide) ?_
      refine lv_istore (lv' := [(4, .int 0), (3, .int r43), (2, .int z26), (0, .ref a0), (1, .int p0)]) hx hb dX11_works_48 hl (by decide) rfl (fun ls hl => ?_)
      have j50 : ∀ (n : Nat) (x50_3 : Int32) (x50_4 : Int32) (H : Heap) (locs : List Loc) (ls : Array Slot), 2147483648 ≤ x50_4.toInt + (n : Int) → rg 0 63 x50_3 → rg 0 8 x50_4 → va_P G vwCl [(a0, .inr (11, [.int 0, .ref a1, .ref a2, .ref a3, .ref a4, .ref a5, .int n0_6, .int n0_7, .int n0_8, .int n0_9, .int n0_10, .long l0_11, .int n0_12, .int n0_13, .int n0_14, .int n0_15, .ref a6, .ref a7, .ref a8, .ref a9, .ref a10, .ref a11, .ref a12, .ref a13, .int (ur18.1 0), .int (ur18.1 1), .int (ur18.1 2), .int (ur18.1 3), .ref a14, .int n0_29, .int n0_30])), (a7, .inl (ct 0, 15, .inl f7)), (a8, .inl (ct 0, 200, .inl f8)), (a9, .inl (ct 0, 1000, .inl f9)), (a11, .inl (ct 0, 8, .inl (ur18.2.1 0))), (a12, .inl (ct 0, 8, .inl (ur18.2.1 1))), (a13, .inl (ct 0, 8, .inl (ur18.2.1 2))), (a14, .inl (ct 0, 576, .inl (ur37.2.1 0)))] H → va_D A [(a0, .inr (11, [.int 0, .ref a1, .ref a2, .ref a3, .ref a4, .ref a5, .int n0_6, .int n0_7, .int n0_8, .int n0_9, .int n0_10, .long l0_11, .int n0_12, .int n0_13, .int n0_14, .int n0_15, .ref a6, .ref a7, .ref a8, .ref a9, .ref a10, .ref a11, .ref a12, .ref a13, .int (ur18.1 0), .int (ur18.1 1), .int (ur18.1 2), .int (ur18.1 3), .ref a14, .int n0_29, .int n0_30])), (a7, .inl (ct 0, 15, .inl f7)), (a8, .inl (ct 0, 200, .inl f8)), (a9, .inl (ct 0, 1000, .inl f9)), (a11, .inl (ct 0, 8, .inl (ur18.2.1 0))), (a12, .inl (ct 0, 8, .inl (ur18.2.1 1))), (a13, .inl (ct 0, 8, .inl (ur18.2.1 2))), (a14, .inl (ct 0, 576, .inl (ur37.2.1 0)))] → va_S A s.heap H locs → lv_has ls 7 [(0, .ref a0), (1, .int p0), (2, .int z26), (3, .int x50_3), (4, .int x50_4)] → W p l e (headSpec wsX11_works ({ frames := 5, cells := 0, slots := 0, locals := 111 })).room s m ([.ref a0, .int p0] : List Value).toArray below meth c H locs 0 0 (MQ below (va_Qi (fun (r : Int32) (u : SU) => rg (-2) 5 r ∧ (r = 0 → rg 0 7 p0) ∧ (r = (-1) → rg 0 7 p0) ∧ (¬ r = (-2) → rg 0 7 p0) ∧ ar (-1) 7 (u.2.1 0) ∧ ar (-1) 7 (u.2.1 2) ∧ rg 0 0 (u.1 0) ∧ True) (fun u t => va_P G vwCl ((fun u : SU => [(a0, .inr (11, [.int (u.1 0), .ref a1, .ref a2, .ref a3, .ref a4, .ref a5, .int n0_6, .int n0_7, .int n0_8, .int n0_9, .int n0_10, .long l0_11, .int n0_12, .int n0_13, .int n0_14, .int n0_15, .ref a6, .ref a7, .ref a8, .ref a9, .ref a10, .ref a11, .ref a12, .ref a13, .int (u.1 1), .int (u.1 2), .int (u.1 3), .int (u.1 4), .ref a14, .int n0_29, .int n0_30])), (a7, .inl (ct 0, 15, .inl f7)), (a8, .inl (ct 0, 200, .inl f8)), (a9, .inl (ct 0, 1000, .inl f9)), (a11, .inl (ct 0, 8, .inl (u.2.1 0))), (a12, .inl (ct 0, 8, .inl (u.2.1 1))), (a13, .inl (ct 0, 8, .inl (u.2.1 2))), (a14, .inl (ct 0, 576, .inl (u.2.1 3)))]) u) t.heap) A) ([.ref a0, .int p0] : List Value).toArray s 0 0 A) (F0 m 50 ls []) := by
        intro n
        induction n with
        | zero => intro x50_3 x50_4 H locs ls hn50 hx50_3 hx50_4 hP hD hS hl; exact absurd hn50 (by have := Int32.toInt_lt x50_4; have := Int32.le_toInt x50_4; omega)
        | succ n ih50 =>
          intro x50_3 x50_4 H locs ls hn50 hx50_3 hx50_4 hP hD hS hl
          refine lv_iload hx hb dX11_works_50 (lv_at hl 4 rfl) ?_
          refine lv_iload_n hx hb dX11_works_52 rfl (lv_at hl 1 rfl) ?_
          refine lv_icmp_gt (tgt := 172) hx hb dX11_works_53 (by decide) (fun c53 => ?_) (fun c53 => ?_)
          · have h_10 : rg 1 8 x50_4 := r_lt_r_i c53 h_5 hx50_4 (by decide)
            refine lv_iconst (v := (-1)) hx hb dX11_works_172 (by decide) ?_
            exact W.iret (v := (-1)) hx hb hr (fun t ht hW => ⟨⟨(-1), (fun k => ([0, ur18.1 0, ur18.1 1, ur18.1 2, ur18.1 3] : List Int32).getD k 0, fun k => ([ur18.2.1 0, ur18.2.1 1, ur18.2.1 2, ur37.2.1 0] : List (Nat → Int32)).getD k (fun _ => 0), fun k => ([] : List (Nat → Int64)).getD k (fun _ => 0)), rfl, ⟨(rg_w (c := (-2)) (d := 5) (rgn (-1) (x := (-1)) (by decide)) (by decide)), (fun _ => h_5), (fun _ => h_5), (fun _ => h_5), p_6, p_7, (rgn 0 (x := 0) (by decide)), trivial⟩, hp_at ht hP⟩, hS.F ht⟩) hS.2.2 dX11_works_173
          · have h_11 : rg 0 7 x50_4 := r_le_l_i (nlt_i c53) hx50_4 h_5
            refine lv_aload_n hx hb dX11_works_56 rfl (lv_at hl 0 rfl) ?_
            refine lv_iload hx hb dX11_works_57 (lv_at hl 4 rfl) ?_
            refine lv_iload_n hx hb dX11_works_59 rfl (lv_at hl 2 rfl) ?_
            refine lv_iload_n hx hb dX11_works_60 rfl (lv_at hl 3 rfl) ?_
            refine ro_calli (va_runV (As := [.int x50_4, .int z26, .int x50_3]) (rest := []) ⟨hx, hb, hml, hown, hts⟩ (a_X11_mayDo l G ct a0 (0 : Int32) a1 a2 a3 a4 a5 n0_6 n0_7 n0_8 n0_9 n0_10 l0_11 n0_12 n0_13 n0_14 n0_15 a6 a7 a8 a9 a10 a11 a12 a13 (ur18.1 0) (ur18.1 1) (ur18.1 2) (ur18.1 3) a14 n0_29 n0_30 f8 (ur18.2.1 0) x50_4 z26 x50_3 hp_n0_6 hp_f8 p_6 h_11) (cwV 3 hts gX11_works_X11_mayDo rfl rfl rfl (by decide +kernel) ⟨Nat.le_of_ble_eq_true rfl, Nat.le_of_ble_eq_true rfl⟩) (ro_preV 11 0 hK (hP.sub [0, 2, 4] rfl) rfl rfl) rfl rfl hl.1 rfl (lv_room (Nat.le_of_ble_eq_true rfl)) dX11_works_61 ⟨Nat.zero_le _, Nat.zero_le _⟩) hS hP (fun r61 H locs wr61 hP hS => ?_)
            obtain ⟨p_12, p_13, -⟩ := wr61
            refine lv_istore (lv' := [(5, .int r61), (0, .ref a0), (1, .int p0), (2, .int z26), (3, .int x50_3), (4, .int x50_4)]) hx hb dX11_works_64 hl (by decide) rfl (fun ls hl => ?_)
            refine lv_iconst (v := 0) hx hb dX11_works_66 (by decide) ?_
            refine lv_istore (lv' := [(6, .int 0), (5, .int r61), (0, .ref a0), (1, .int p0), (2, .int z26), (3, .int x50_3), (4, .int x50_4)]) hx hb dX11_works_67 hl (by decide) rfl (fun ls hl => ?_)
            have j69 : ∀ (n : Nat) (x69_6 : Int32) (H : Heap) (locs : List Loc) (ls : Array Slot), 2147483648 ≤ x69_6.toInt + (n : Int) → rg 0 6 x69_6 → va_P G vwCl [(a0, .inr (11, [.int 0, .ref a1, .ref a2, .ref a3, .ref a4, .ref a5, .int n0_6, .int n0_7, .int n0_8, .int n0_9, .int n0_10, .long l0_11, .int n0_12, .int n0_13, .int n0_14, .int n0_15, .ref a6, .ref a7, .ref a8, .ref a9, .ref a10, .ref a11, .ref a12, .ref a13, .int (ur18.1 0), .int (ur18.1 1), .int (ur18.1 2), .int (ur18.1 3), .ref a14, .int n0_29, .int n0_30])), (a7, .inl (ct 0, 15, .inl f7)), (a8, .inl (ct 0, 200, .inl f8)), (a9, .inl (ct 0, 1000, .inl f9)), (a11, .inl (ct 0, 8, .inl (ur18.2.1 0))), (a12, .inl (ct 0, 8, .inl (ur18.2.1 1))), (a13, .inl (ct 0, 8, .inl (ur18.2.1 2))), (a14, .inl (ct 0, 576, .inl (ur37.2.1 0)))] H → va_D A [(a0, .inr (11, [.int 0, .ref a1, .ref a2, .ref a3, .ref a4, .ref a5, .int n0_6, .int n0_7, .int n0_8, .int n0_9, .int n0_10, .long l0_11, .int n0_12, .int n0_13, .int n0_14, .int n0_15, .ref a6, .ref a7, .ref a8, .ref a9, .ref a10, .ref a11, .ref a12, .ref a13, .int (ur18.1 0), .int (ur18.1 1), .int (ur18.1 2), .int (ur18.1 3), .ref a14, .int n0_29, .int n0_30])), (a7, .inl (ct 0, 15, .inl f7)), (a8, .inl (ct 0, 200, .inl f8)), (a9, .inl (ct 0, 1000, .inl f9)), (a11, .inl (ct 0, 8, .inl (ur18.2.1 0))), (a12, .inl (ct 0, 8, .inl (ur18.2.1 1))), (a13, .inl (ct 0, 8, .inl (ur18.2.1 2))), (a14, .inl (ct 0, 576, .inl (ur37.2.1 0)))] → va_S A s.heap H locs → lv_has ls 7 [(0, .ref a0), (1, .int p0), (2, .int z26), (3, .int x50_3), (4, .int x50_4), (5, .int r61), (6, .int x69_6)] → W p l e (headSpec wsX11_works ({ frames := 5, cells := 0, slots := 0, locals := 111 })).room s m ([.ref a0, .int p0] : List Value).toArray below meth c H locs 0 0 (MQ below (va_Qi (fun (r : Int32) (u : SU) => rg (-2) 5 r ∧ (r = 0 → rg 0 7 p0) ∧ (r = (-1) → rg 0 7 p0) ∧ (¬ r = (-2) → rg 0 7 p0) ∧ ar (-1) 7 (u.2.1 0) ∧ ar (-1) 7 (u.2.1 2) ∧ rg 0 0 (u.1 0) ∧ True) (fun u t => va_P G vwCl ((fun u : SU => [(a0, .inr (11, [.int (u.1 0), .ref a1, .ref a2, .ref a3, .ref a4, .ref a5, .int n0_6, .int n0_7, .int n0_8, .int n0_9, .int n0_10, .long l0_11, .int n0_12, .int n0_13, .int n0_14, .int n0_15, .ref a6, .ref a7, .ref a8, .ref a9, .ref a10, .ref a11, .ref a12, .ref a13, .int (u.1 1), .int (u.1 2), .int (u.1 3), .int (u.1 4), .ref a14, .int n0_29, .int n0_30])), (a7, .inl (ct 0, 15, .inl f7)), (a8, .inl (ct 0, 200, .inl f8)), (a9, .inl (ct 0, 1000, .inl f9)), (a11, .inl (ct 0, 8, .inl (u.2.1 0))), (a12, .inl (ct 0, 8, .inl (u.2.1 1))), (a13, .inl (ct 0, 8, .inl (u.2.1 2))), (a14, .inl (ct 0, 576, .inl (u.2.1 3)))]) u) t.heap) A) ([.ref a0, .int p0] : List Value).toArray s 0 0 A) (F0 m 69 ls []) := by
              intro n
              induction n with
              | zero => intro x69_6 H locs ls hn69 hx69_6 hP hD hS hl; exact absurd hn69 (by have := Int32.toInt_lt x69_6; have := Int32.le_toInt x69_6; omega)
              | succ n ih69 =>
                intro x69_6 H locs ls hn69 hx69_6 hP hD hS hl
                refine lv_iload hx hb dX11_works_69 (lv_at hl 6 rfl) ?_
                refine lv_bipush (v := 6) hx hb dX11_works_71 (by decide) ?_
                have j130 : ∀ (H : Heap) (locs : List Loc) (ls : Array Slot), va_P G vwCl [(a0, .inr (11, [.int 0, .ref a1, .ref a2, .ref a3, .ref a4, .ref a5, .int n0_6, .int n0_7, .int n0_8, .int n0_9, .int n0_10, .long l0_11, .int n0_12, .int n0_13, .int n0_14, .int n0_15, .ref a6, .ref a7, .ref a8, .ref a9, .ref a10, .ref a11, .ref a12, .ref a13, .int (ur18.1 0), .int (ur18.1 1), .int (ur18.1 2), .int (ur18.1 3), .ref a14, .int n0_29, .int n0_30])), (a7, .inl (ct 0, 15, .inl f7)), (a8, .inl (ct 0, 200, .inl f8)), (a9, .inl (ct 0, 1000, .inl f9)), (a11, .inl (ct 0, 8, .inl (ur18.2.1 0))), (a12, .inl (ct 0, 8, .inl (ur18.2.1 1))), (a13, .inl (ct 0, 8, .inl (ur18.2.1 2))), (a14, .inl (ct 0, 576, .inl (ur37.2.1 0)))] H → va_D A [(a0, .inr (11, [.int 0, .ref a1, .ref a2, .ref a3, .ref a4, .ref a5, .int n0_6, .int n0_7, .int n0_8, .int n0_9, .int n0_10, .long l0_11, .int n0_12, .int n0_13, .int n0_14, .int n0_15, .ref a6, .ref a7, .ref a8, .ref a9, .ref a10, .ref a11, .ref a12, .ref a13, .int (ur18.1 0), .int (ur18.1 1), .int (ur18.1 2), .int (ur18.1 3), .ref a14, .int n0_29, .int n0_30])), (a7, .inl (ct 0, 15, .inl f7)), (a8, .inl (ct 0, 200, .inl f8)), (a9, .inl (ct 0, 1000, .inl f9)), (a11, .inl (ct 0, 8, .inl (ur18.2.1 0))), (a12, .inl (ct 0, 8, .inl (ur18.2.1 1))), (a13, .inl (ct 0, 8, .inl (ur18.2.1 2))), (a14, .inl (ct 0, 576, .inl (ur37.2.1 0)))] → va_S A s.heap H locs → lv_has ls 7 [(0, .ref a0), (1, .int p0), (2, .int z26), (3, .int x50_3), (4, .int x50_4), (5, .int r61), (6, .int x69_6)] → W p l e (headSpec wsX11_works ({ frames := 5, cells := 0, slots := 0, locals := 111 })).room s m ([.ref a0, .int p0] : List Value).toArray below meth c H locs 0 0 (MQ below (va_Qi (fun (r : Int32) (u : SU) => rg (-2) 5 r ∧ (r = 0 → rg 0 7 p0) ∧ (r = (-1) → rg 0 7 p0) ∧ (¬ r = (-2) → rg 0 7 p0) ∧ ar (-1) 7 (u.2.1 0) ∧ ar (-1) 7 (u.2.1 2) ∧ rg 0 0 (u.1 0) ∧ True) (fun u t => va_P G vwCl ((fun u : SU => [(a0, .inr (11, [.int (u.1 0), .ref a1, .ref a2, .ref a3, .ref a4, .ref a5, .int n0_6, .int n0_7, .int n0_8, .int n0_9, .int n0_10, .long l0_11, .int n0_12, .int n0_13, .int n0_14, .int n0_15, .ref a6, .ref a7, .ref a8, .ref a9, .ref a10, .ref a11, .ref a12, .ref a13, .int (u.1 1), .int (u.1 2), .int (u.1 3), .int (u.1 4), .ref a14, .int n0_29, .int n0_30])), (a7, .inl (ct 0, 15, .inl f7)), (a8, .inl (ct 0, 200, .inl f8)), (a9, .inl (ct 0, 1000, .inl f9)), (a11, .inl (ct 0, 8, .inl (u.2.1 0))), (a12, .inl (ct 0, 8, .inl (u.2.1 1))), (a13, .inl (ct 0, 8, .inl (u.2.1 2))), (a14, .inl (ct 0, 576, .inl (u.2.1 3)))]) u) t.heap) A) ([.ref a0, .int p0] : List Value).toArray s 0 0 A) (F0 m 130 ls []) := by
                  intro  H locs ls  hP hD hS hl
                  refine lv_iload hx hb dX11_works_130 (lv_at hl 4 rfl) ?_
                  refine lv_iload_n hx hb dX11_works_132 rfl (lv_at hl 1 rfl) ?_
                  refine lv_icmp_ne (tgt := 150) hx hb dX11_works_133 (by decide) (fun c133 => ?_) (fun c133 => ?_)
                  · refine lv_iload hx hb dX11_works_150 (lv_at hl 6 rfl) ?_
                    refine lv_bipush (v := 6) hx hb dX11_works_152 (by decide) ?_
                    have j166 : ∀ (x166_3 : Int32) (H : Heap) (locs : List Loc) (ls : Array Slot), rg 0 63 x166_3 → va_P G vwCl [(a0, .inr (11, [.int 0, .ref a1, .ref a2, .ref a3, .ref a4, .ref a5, .int n0_6, .int n0_7, .int n0_8, .int n0_9, .int n0_10, .long l0_11, .int n0_12, .int n0_13, .int n0_14, .int n0_15, .ref a6, .ref a7, .ref a8, .ref a9, .ref a10, .ref a11, .ref a12, .ref a13, .int (ur18.1 0), .int (ur18.1 1), .int (ur18.1 2), .int (ur18.1 3), .ref a14, .int n0_29, .int n0_30])), (a7, .inl (ct 0, 15, .inl f7)), (a8, .inl (ct 0, 200, .inl f8)), (a9, .inl (ct 0, 1000, .inl f9)), (a11, .inl (ct 0, 8, .inl (ur18.2.1 0))), (a12, .inl (ct 0, 8, .inl (ur18.2.1 1))), (a13, .inl (ct 0, 8, .inl (ur18.2.1 2))), (a14, .inl (ct 0, 576, .inl (ur37.2.1 0)))] H → va_D A [(a0, .inr (11, [.int 0, .ref a1, .ref a2, .ref a3, .ref a4, .ref a5, .int n0_6, .int n0_7, .int n0_8, .int n0_9, .int n0_10, .long l0_11, .int n0_12, .int n0_13, .int n0_14, .int n0_15, .ref a6, .ref a7, .ref a8, .ref a9, .ref a10, .ref a11, .ref a12, .ref a13, .int (ur18.1 0), .int (ur18.1 1), .int (ur18.1 2), .int (ur18.1 3), .ref a14, .int n0_29, .int n0_30])), (a7, .inl (ct 0, 15, .inl f7)), (a8, .inl (ct 0, 200, .inl f8)), (a9, .inl (ct 0, 1000, .inl f9)), (a11, .inl (ct 0, 8, .inl (ur18.2.1 0))), (a12, .inl (ct 0, 8, .inl (ur18.2.1 1))), (a13, .inl (ct 0, 8, .inl (ur18.2.1 2))), (a14, .inl (ct 0, 576, .inl (ur37.2.1 0)))] → va_S A s.heap H locs → lv_has ls 7 [(0, .ref a0), (1, .int p0), (2, .int z26), (3, .int x166_3), (4, .int x50_4), (5, .int r61), (6, .int x69_6)] → W p l e (headSpec wsX11_works ({ frames := 5, cells := 0, slots := 0, locals := 111 })).room s m ([.ref a0, .int p0] : List Value).toArray below meth c H locs 0 0 (MQ below (va_Qi (fun (r : Int32) (u : SU) => rg (-2) 5 r ∧ (r = 0 → rg 0 7 p0) ∧ (r = (-1) → rg 0 7 p0) ∧ (¬ r = (-2) → rg 0 7 p0) ∧ ar (-1) 7 (u.2.1 0) ∧ ar (-1) 7 (u.2.1 2) ∧ rg 0 0 (u.1 0) ∧ True) (fun u t => va_P G vwCl ((fun u : SU => [(a0, .inr (11, [.int (u.1 0), .ref a1, .ref a2, .ref a3, .ref a4, .ref a5, .int n0_6, .int n0_7, .int n0_8, .int n0_9, .int n0_10, .long l0_11, .int n0_12, .int n0_13, .int n0_14, .int n0_15, .ref a6, .ref a7, .ref a8, .ref a9, .ref a10, .ref a11, .ref a12, .ref a13, .int (u.1 1), .int (u.1 2), .int (u.1 3), .int (u.1 4), .ref a14, .int n0_29, .int n0_30])), (a7, .inl (ct 0, 15, .inl f7)), (a8, .inl (ct 0, 200, .inl f8)), (a9, .inl (ct 0, 1000, .inl f9)), (a11, .inl (ct 0, 8, .inl (u.2.1 0))), (a12, .inl (ct 0, 8, .inl (u.2.1 1))), (a13, .inl (ct 0, 8, .inl (u.2.1 2))), (a14, .inl (ct 0, 576, .inl (u.2.1 3)))]) u) t.heap) A) ([.ref a0, .int p0] : List Value).toArray s 0 0 A) (F0 m 166 ls []) := by
                      intro x166_3 H locs ls hx166_3 hP hD hS hl
                      obtain ⟨z166, qz166⟩ : ∃ y : Int32, y = x50_4 + Int32.ofInt 1 := ⟨_, rfl⟩
                      obtain ⟨hz166, ez166⟩ := inc_z (e := 1) (f := 8) h_11 qz166 (by decide)
                      refine lv_iinc (v := z166) (lv' := [(4, .int z166), (0, .ref a0), (1, .int p0), (2, .int z26), (3, .int x166_3), (5, .int r61), (6, .int x69_6)]) hx hb dX11_works_166 hl (k := 4) rfl (qz166.symm) (by decide) rfl (fun ls hl => ?_)
                      refine lv_goto (tgt := 50) hx hb dX11_works_169 (by decide) ?_
                      exact ih50 x166_3 z166 _ _ ls (by have q := hn50; have := ez166; omega) hx166_3 (rg_w (c := 0) (d := 8) hz166 (by decide)) hP hD hS (lv_sub hl [1, 2, 3, 4, 0] rfl)
                    refine lv_icmp_ge (tgt := 166) hx hb dX11_works_154 (by decide) (fun c154 => ?_) (fun c154 => ?_)
                    · have h_14 : rg 6 6 x69_6 := r_le_r_i c154 (rgn 6 (x := 6) (by decide)) hx69_6
                      exact j166 x50_3 _ _ ls hx50_3 hP hD hS (lv_sub hl [0, 1, 2, 3, 4, 5, 6] rfl)
                    · have h_15 : rg 0 5 x69_6 := r_lt_l_i (nle_i c154) hx69_6 (rgn 6 (x := 6) (by decide)) (by decide)
                      refine lv_iload_n hx hb dX11_works_157 rfl (lv_at hl 3 rfl) ?_
                      refine lv_iconst (v := 1) hx hb dX11_works_158 (by decide) ?_
                      refine lv_iload hx hb dX11_works_159 (lv_at hl 6 rfl) ?_
                      refine lv_ishl hx hb dX11_works_161 ?_
                      refine nm_shl (e1 := 1) (f := 32) h_15 (by decide) (fun z161 hz161 => ?_)
                      refine lv_iconst (v := (-1)) hx hb dX11_works_162 (by decide) ?_
                      refine lv_ixor hx hb dX11_works_163 ?_
                      refine nm_0 (fun z163 => ?_)
                      refine lv_iand hx hb dX11_works_164 ?_
                      refine nm_andl hx50_3 (by decide) (fun z164 hz164 => ?_)
                      refine lv_istore_n (lv' := [(3, .int z164), (0, .ref a0), (1, .int p0), (2, .int z26), (4, .int x50_4), (5, .int r61), (6, .int x69_6)]) hx hb dX11_works_165 rfl hl (by decide) rfl (fun ls hl => ?_)
                      exact j166 z164 _ _ ls hz164 hP hD hS (lv_sub hl [1, 2, 3, 0, 4, 5, 6] rfl)
                  · refine lv_iload hx hb dX11_works_136 (lv_at hl 6 rfl) ?_
                    refine lv_bipush (v := 6) hx hb dX11_works_138 (by decide) ?_
                    refine lv_icmp_ne (tgt := 147) hx hb dX11_works_140 (by decide) (fun c140 => ?_) (fun c140 => ?_)
                    · have h_16 : rg 0 5 x69_6 := r_ne_hi_i c140 hx69_6 (by decide) (by decide)
                      refine lv_iload hx hb dX11_works_147 (lv_at hl 6 rfl) ?_
                      exact W.iret (v := x69_6) hx hb hr (fun t ht hW => ⟨⟨x69_6, (fun k => ([0, ur18.1 0, ur18.1 1, ur18.1 2, ur18.1 3] : List Int32).getD k 0, fun k => ([ur18.2.1 0, ur18.2.1 1, ur18.2.1 2, ur37.2.1 0] : List (Nat → Int32)).getD k (fun _ => 0), fun k => ([] : List (Nat → Int64)).getD k (fun _ => 0)), rfl, ⟨(rg_w (c := (-2)) (d := 5) h_16 (by decide)), (fun _ => h_5), (fun _ => h_5), (fun _ => h_5), p_6, p_7, (rgn 0 (x := 0) (by decide)), trivial⟩, hp_at ht hP⟩, hS.F ht⟩) hS.2.2 dX11_works_149
                    · have h_17 : rg 6 6 x69_6 := r_eq_l_i (e := 6) (f := 6) c140 hx69_6 (rgn 6 (x := 6) (by decide)) (by decide)
                      refine lv_iconst (v := (-1)) hx hb dX11_works_143 (by decide) ?_
                      refine lv_goto (tgt := 149) hx hb dX11_works_144 (by decide) ?_
                      exact W.iret (v := (-1)) hx hb hr (fun t ht hW => ⟨⟨(-1), (fun k => ([0, ur18.1 0, ur18.1 1, ur18.1 2, ur18.1 3] : List Int32).getD k 0, fun k => ([ur18.2.1 0, ur18.2.1 1, ur18.2.1 2, ur37.2.1 0] : List (Nat → Int32)).getD k (fun _ => 0), fun k => ([] : List (Nat → Int64)).getD k (fun _ => 0)), rfl, ⟨(rg_w (c := (-2)) (d := 5) (rgn (-1) (x := (-1)) (by decide)) (by decide)), (fun _ => h_5), (fun _ => h_5), (fun _ => h_5), p_6, p_7, (rgn 0 (x := 0) (by decide)), trivial⟩, hp_at ht hP⟩, hS.F ht⟩) hS.2.2 dX11_works_149
                refine lv_icmp_ge (tgt := 130) hx hb dX11_works_73 (by decide) (fun c73 => ?_) (fun c73 => ?_)
                · have h_18 : rg 6 6 x69_6 := r_le_r_i c73 (rgn 6 (x := 6) (by decide)) hx69_6
                  exact j130 _ _ ls hP hD hS (lv_sub hl [0, 1, 2, 3, 4, 5, 6] rfl)
                · have h_19 : rg 0 5 x69_6 := r_lt_l_i (nle_i c73) hx69_6 (rgn 6 (x := 6) (by decide)) (by decide)
                  refine lv_iload hx hb dX11_works_76 (lv_at hl 5 rfl) ?_
                  refine lv_iload hx hb dX11_works_78 (lv_at hl 6 rfl) ?_
                  refine ro_calli (va_runS (As := [.int r61, .int x69_6]) (rest := []) ⟨hx, hb, hml, hown, hts⟩ (a_X11_isBit l G ct r61 x69_6) (va_cwS 2 hts gX11_works_X11_isBit rfl rfl rfl (by decide +kernel) ⟨Nat.le_of_ble_eq_true rfl, Nat.le_of_ble_eq_true rfl⟩) (ro_pre hK (hP.sub [] rfl)) rfl rfl hl.1 rfl (lv_room (Nat.le_of_ble_eq_true rfl)) dX11_works_80 ⟨Nat.zero_le _, Nat.zero_le _⟩) hS hP (fun r80 H locs wr80 hP hS => ?_)
                  obtain ⟨p_20, -⟩ := wr80
                  have j124 : ∀ (H : Heap) (locs : List Loc) (ls : Array Slot), va_P G vwCl [(a0, .inr (11, [.int 0, .ref a1, .ref a2, .ref a3, .ref a4, .ref a5, .int n0_6, .int n0_7, .int n0_8, .int n0_9, .int n0_10, .long l0_11, .int n0_12, .int n0_13, .int n0_14, .int n0_15, .ref a6, .ref a7, .ref a8, .ref a9, .ref a10, .ref a11, .ref a12, .ref a13, .int (ur18.1 0), .int (ur18.1 1), .int (ur18.1 2), .int (ur18.1 3), .ref a14, .int n0_29, .int n0_30])), (a7, .inl (ct 0, 15, .inl f7)), (a8, .inl (ct 0, 200, .inl f8)), (a9, .inl (ct 0, 1000, .inl f9)), (a11, .inl (ct 0, 8, .inl (ur18.2.1 0))), (a12, .inl (ct 0, 8, .inl (ur18.2.1 1))), (a13, .inl (ct 0, 8, .inl (ur18.2.1 2))), (a14, .inl (ct 0, 576, .inl (ur37.2.1 0)))] H → va_D A [(a0, .inr (11, [.int 0, .ref a1, .ref a2, .ref a3, .ref a4, .ref a5, .int n0_6, .int n0_7, .int n0_8, .int n0_9, .int n0_10, .long l0_11, .int n0_12, .int n0_13, .int n0_14, .int n0_15, .ref a6, .ref a7, .ref a8, .ref a9, .ref a10, .ref a11, .ref a12, .ref a13, .int (ur18.1 0), .int (ur18.1 1), .int (ur18.1 2), .int (ur18.1 3), .ref a14, .int n0_29, .int n0_30])), (a7, .inl (ct 0, 15, .inl f7)), (a8, .inl (ct 0, 200, .inl f8)), (a9, .inl (ct 0, 1000, .inl f9)), (a11, .inl (ct 0, 8, .inl (ur18.2.1 0))), (a12, .inl (ct 0, 8, .inl (ur18.2.1 1))), (a13, .inl (ct 0, 8, .inl (ur18.2.1 2))), (a14, .inl (ct 0, 576, .inl (ur37.2.1 0)))] → va_S A s.heap H locs → lv_has ls 7 [(0, .ref a0), (1, .int p0), (2, .int z26), (3, .int x50_3), (4, .int x50_4), (5, .int r61), (6, .int x69_6)] → W p l e (headSpec wsX11_works ({ frames := 5, cells := 0, slots := 0, locals := 111 })).room s m ([.ref a0, .int p0] : List Value).toArray below meth c H locs 0 0 (MQ below (va_Qi (fun (r : Int32) (u : SU) => rg (-2) 5 r ∧ (r = 0 → rg 0 7 p0) ∧ (r = (-1) → rg 0 7 p0) ∧ (¬ r = (-2) → rg 0 7 p0) ∧ ar (-1) 7 (u.2.1 0) ∧ ar (-1) 7 (u.2.1 2) ∧ rg 0 0 (u.1 0) ∧ True) (fun u t => va_P G vwCl ((fun u : SU => [(a0, .inr (11, [.int (u.1 0), .ref a1, .ref a2, .ref a3, .ref a4, .ref a5, .int n0_6, .int n0_7, .int n0_8, .int n0_9, .int n0_10, .long l0_11, .int n0_12, .int n0_13, .int n0_14, .int n0_15, .ref a6, .ref a7, .ref a8, .ref a9, .ref a10, .ref a11, .ref a12, .ref a13, .int (u.1 1), .int (u.1 2), .int (u.1 3), .int (u.1 4), .ref a14, .int n0_29, .int n0_30])), (a7, .inl (ct 0, 15, .inl f7)), (a8, .inl (ct 0, 200, .inl f8)), (a9, .inl (ct 0, 1000, .inl f9)), (a11, .inl (ct 0, 8, .inl (u.2.1 0))), (a12, .inl (ct 0, 8, .inl (u.2.1 1))), (a13, .inl (ct 0, 8, .inl (u.2.1 2))), (a14, .inl (ct 0, 576, .inl (u.2.1 3)))]) u) t.heap) A) ([.ref a0, .int p0] : List Value).toArray s 0 0 A) (F0 m 124 ls []) := by
                    intro  H locs ls  hP hD hS hl
                    obtain ⟨z124, qz124⟩ : ∃ y : Int32, y = x69_6 + Int32.ofInt 1 := ⟨_, rfl⟩
                    obtain ⟨hz124, ez124⟩ := inc_z (e := 1) (f := 6) h_19 qz124 (by decide)
                    refine lv_iinc (v := z124) (lv' := [(6, .int z124), (0, .ref a0), (1, .int p0), (2, .int z26), (3, .int x50_3), (4, .int x50_4), (5, .int r61)]) hx hb dX11_works_124 hl (k := 6) rfl (qz124.symm) (by decide) rfl (fun ls hl => ?_)
                    refine lv_goto (tgt := 69) hx hb dX11_works_127 (by decide) ?_
                    exact ih69 z124 _ _ ls (by have q := hn69; have := ez124; omega) (rg_w (c := 0) (d := 6) hz124 (by decide)) hP hD hS (lv_sub hl [1, 2, 3, 4, 5, 6, 0] rfl)
                  refine lv_if_eq (tgt := 124) hx hb dX11_works_83 (by decide) (fun c83 => ?_) (fun c83 => ?_)
                  · have h_21 : rg 0 0 r80 := r_eq_l_i (e := 0) (f := 0) c83 p_20 (rgn 0 (x := 0) (by decide)) (by decide)
                    exact j124 _ _ ls hP hD hS (lv_sub hl [0, 1, 2, 3, 4, 5, 6] rfl)
                  · have h_22 : rg 1 1 r80 := r_ne_lo_i c83 p_20 (by decide) (by decide)
                    refine lv_iconst (v := 1) hx hb dX11_works_86 (by decide) ?_
                    refine lv_aload_n hx hb dX11_works_87 rfl (lv_at hl 0 rfl) ?_
                    refine va_get (D := G) (ci := 11) (v := .ref a14) (C := RX11) (T := TX11) (N := 31) hx hb hts (by decide +kernel) hown hK.1 hP 0 rfl rfl 28 (by decide) (hts (.fieldLink RX11 56 "CardHolderModel" "most" "[I") (by decide +kernel)) (fun _ h9 => h9) rfl dX11_works_88 ?_
                    refine lv_bipush (v := 64) hx hb dX11_works_91 (by decide) ?_
                    refine lv_iload hx hb dX11_works_93 (lv_at hl 4 rfl) ?_
                    refine lv_iconst (v := 1) hx hb dX11_works_95 (by decide) ?_
                    refine lv_iadd hx hb dX11_works_96 ?_
                    refine nm_add (e1 := 1) (f := 8) h_11 (rgn 1 (x := 1) (by decide)) (by decide) (fun z96 hz96 ez96 => ?_)
                    replace ez96 := eqc_r ez96 (c := 1) (by decide)
                    refine lv_imul hx hb dX11_works_97 ?_
                    refine nm_mul (e1 := 64) (f := 512) (rgn 64 (x := 64) (by decide)) hz96 (by decide) (fun z97 hz97 ez97 => ?_)
                    refine lv_iload_n hx hb dX11_works_98 rfl (lv_at hl 3 rfl) ?_
                    refine lv_iconst (v := 1) hx hb dX11_works_99 (by decide) ?_
                    refine lv_iload hx hb dX11_works_100 (lv_at hl 6 rfl) ?_
                    refine lv_ishl hx hb dX11_works_102 ?_
                    refine nm_shl (e1 := 1) (f := 32) h_19 (by decide) (fun z102 hz102 => ?_)
                    refine lv_iconst (v := (-1)) hx hb dX11_works_103 (by decide) ?_
                    refine lv_ixor hx hb dX11_works_104 ?_
                    refine nm_0 (fun z104 => ?_)
                    refine lv_iand hx hb dX11_works_105 ?_
                    refine nm_andl hx50_3 (by decide) (fun z105 hz105 => ?_)
                    refine lv_iadd hx hb dX11_works_106 ?_
                    refine nm_add (e1 := 64) (f := 575) hz97 hz105 (by decide) (fun z106 hz106 ez106 => ?_)
                    refine va_iald hx hb hK.1 hP 7 0 rfl rfl (in_rg hz106 (by decide)) dX11_works_107 ?_
                    refine lv_topi (fun z107 gz107 => ?_)
                    refine lv_iadd hx hb dX11_works_108 ?_
                    refine nm_0 (fun z108 => ?_)
                    refine lv_aload_n hx hb dX11_works_109 rfl (lv_at hl 0 rfl) ?_
                    refine va_get (D := G) (ci := 11) (v := .ref a14) (C := RX11) (T := TX11) (N := 31) hx hb hts (by decide +kernel) hown hK.1 hP 0 rfl rfl 28 (by decide) (hts (.fieldLink RX11 56 "CardHolderModel" "most" "[I") (by decide +kernel)) (fun _ h9 => h9) rfl dX11_works_110 ?_
                    refine lv_bipush (v := 64) hx hb dX11_works_113 (by decide) ?_
                    refine lv_iload hx hb dX11_works_115 (lv_at hl 4 rfl) ?_
                    refine lv_imul hx hb dX11_works_117 ?_
                    refine nm_mul (e1 := 0) (f := 448) (rgn 64 (x := 64) (by decide)) h_11 (by decide) (fun z117 hz117 ez117 => ?_)
                    refine lv_iload_n hx hb dX11_works_118 rfl (lv_at hl 3 rfl) ?_
                    refine lv_iadd hx hb dX11_works_119 ?_
                    refine nm_add (e1 := 0) (f := 511) hz117 hx50_3 (by decide) (fun z119 hz119 ez119 => ?_)
                    refine va_iald hx hb hK.1 hP 7 0 rfl rfl (in_rg hz119 (by decide)) dX11_works_120 ?_
                    refine lv_topi (fun z120 gz120 => ?_)
                    refine lv_icmp_eq (tgt := 130) hx hb dX11_works_121 (by decide) (fun c121 => ?_) (fun c121 => ?_)
                    · exact j130 _ _ ls hP hD hS (lv_sub hl [0, 1, 2, 3, 4, 5, 6] rfl)
                    · exact j124 _ _ ls hP hD hS (lv_sub hl [0, 1, 2, 3, 4, 5, 6] rfl)
            exact j69 4294967296 (0 : Int32) _ _ ls (ms_e (0 : Int32)) (rg_w (c := 0) (d := 6) (rgn 0 (x := 0) (by decide)) (by decide)) hP hD hS (lv_sub hl [2, 3, 4, 5, 6, 1, 0] rfl)
      exact j50 4294967296 r43 (0 : Int32) _ _ ls (ms_e (0 : Int32)) p_9 (rg_w (c := 0) (d := 8) (rgn 0 (x := 0) (by decide)) (by decide)) hP hD hS (lv_sub hl [3, 4, 2, 1, 0] rfl)
    · have h_23 : rg (-1) (-1) z26 := r_eq_l_i (e := (-1)) (f := (-1)) c30 hz26 (rgn (-1) (x := (-1)) (by decide)) (by decide)
      refine lv_iconst (v := (-1)) hx hb dX11_works_33 (by decide) ?_
      exact W.iret (v := (-1)) hx hb hr (fun t ht hW => ⟨⟨(-1), (fun k => ([0, ur18.1 0, ur18.1 1, ur18.1 2, ur18.1 3] : List Int32).getD k 0, fun k => ([ur18.2.1 0, ur18.2.1 1, ur18.2.1 2, f14] : List (Nat → Int32)).getD k (fun _ => 0), fun k => ([] : List (Nat → Int64)).getD k (fun _ => 0)), rfl, ⟨(rg_w (c := (-2)) (d := 5) (rgn (-1) (x := (-1)) (by decide)) (by decide)), (fun _ => h_5), (fun _ => h_5), (fun _ => h_5), p_6, p_7, (rgn 0 (x := 0) (by decide)), trivial⟩, hp_at ht hP⟩, hS.F ht⟩) hS.2.2 dX11_works_34
  · have h_24 : rg 0 0 r8 := r_eq_l_i (e := 0) (f := 0) c11 p_1 (rgn 0 (x := 0) (by decide)) (by decide)
    refine lv_bipush (v := (-2)) hx hb dX11_works_14 (by decide) ?_
    exact W.iret (v := (-2)) hx hb hr (fun t ht hW => ⟨⟨(-2), (fun k => ([0, n0_24, n0_25, n0_26, n0_27] : List Int32).getD k 0, fun k => ([f11, f12, f13, f14] : List (Nat → Int32)).getD k (fun _ => 0), fun k => ([] : List (Nat → Int64)).getD k (fun _ => 0)), rfl, ⟨(rg_w (c := (-2)) (d := 5) (rgn (-2) (x := (-2)) (by decide)) (by decide)), (fun hq => absurd hq (rne (rgn (-2) (x := (-2)) (by decide)) (y := 0) (c := 0) (by decide) (by decide))), (fun hq => absurd hq (rne (rgn (-2) (x := (-2)) (by decide)) (y := (-1)) (c := (-1)) (by decide) (by decide))), (fun hq => absurd (req (rgn (-2) (x := (-2)) (by decide)) (y := (-2)) (by decide)) hq), hp_f11, hp_f13, (rgn 0 (x := 0) (by decide)), trivial⟩, hp_at ht hP⟩, hS.F ht⟩) hS.2.2 dX11_works_16

set_option maxHeartbeats 4000000 in
set_option maxRecDepth 100000 in
theorem a_X11_doneBy (l : Launch) (G : va_G) (ct : Nat → ClassId) (a0 : Nat) (n0_0 : Int32) (a1 : Nat) (a2 : Nat) (a3 : Nat) (a4 : Nat) (a5 : Nat) (n0_6 : Int32) (n0_7 : Int32) (n0_8 : Int32) (n0_9 : Int32) (n0_10 : Int32) (l0_11 : Int64) (n0_12 : Int32) (n0_13 : Int32) (n0_14 : Int32) (n0_15 : Int32) (a6 : Nat) (a7 : Nat) (a8 : Nat) (a9 : Nat) (a10 : Nat) (a11 : Nat) (a12 : Nat) (a13 : Nat) (n0_24 : Int32) (n0_25 : Int32) (n0_26 : Int32) (n0_27 : Int32) (a14 : Nat) (n0_29 : Int32) (n0_30 : Int32) (f7 : Nat → Int32) (f8 : Nat → Int32) (p0 : Int32) (hp_n0_6 : rg 0 900 n0_6) (hp_f7 : hsI f7) (hp_f8 : psI f8) : Met l yX11_doneBy wsX11_doneBy ({ frames := 1, cells := 0, slots := 0, locals := 22 }) (va_Pc [.ref a0, .int p0] (roP G ct [(a0, .inr (11, [.int n0_0, .ref a1, .ref a2, .ref a3, .ref a4, .ref a5, .int n0_6, .int n0_7, .int n0_8, .int n0_9, .int n0_10, .long l0_11, .int n0_12, .int n0_13, .int n0_14, .int n0_15, .ref a6, .ref a7, .ref a8, .ref a9, .ref a10, .ref a11, .ref a12, .ref a13, .int n0_24, .int n0_25, .int n0_26, .int n0_27, .ref a14, .int n0_29, .int n0_30])), (a7, .inl (ct 0, 15, .inl f7)), (a8, .inl (ct 0, 200, .inl f8))])) (roQ (fun r => True)) 0 0 no := by
  refine Met.ofW (cc := cX11_doneBy) (maxL := 4) (ret := (some .int)) (by decide) rfl ?_
  intro p e s m args below meth c s₁ B hml hv
  obtain ⟨rfl, hP, hK⟩ := hv
  have hx := B.exec
  have hb := B.bytes
  have hr := B.returns
  have hts := atoms_spec (ws := wsX11_doneBy) B.pre
  have hown : s.vm.findClass RX11 = some m.cls := findClass_of_methodNamed B.named
  have hlocks := B.notSynchronized
  have hS : va_S no s.heap s.heap [] := va_S.rf
  have hl := lv_entry ([.ref a0, .int p0]) (n := 4) (Nat.le_of_ble_eq_true rfl)
  rw [lg_entry_eq]
  generalize (lg_sl ([.ref a0, .int p0]) ++ List.replicate (4 - (lg_sl ([.ref a0, .int p0])).length) Slot.unset).toArray = ls at hl ⊢
  have hl : lv_has ls 4 [(0, .ref a0), (1, .int p0)] := hl
  refine lv_iconst (v := 0) hx hb dX11_doneBy_0 (by decide) ?_
  refine lv_istore_n (lv' := [(2, .int 0), (0, .ref a0), (1, .int p0)]) hx hb dX11_doneBy_1 rfl hl (by decide) rfl (fun ls hl => ?_)
  refine lv_iconst (v := 0) hx hb dX11_doneBy_2 (by decide) ?_
  refine lv_istore_n (lv' := [(3, .int 0), (2, .int 0), (0, .ref a0), (1, .int p0)]) hx hb dX11_doneBy_3 rfl hl (by decide) rfl (fun ls hl => ?_)
  have j4 : ∀ (n : Nat) (x4_2 : Int32) (x4_3 : Int32) (H : Heap) (locs : List Loc) (ls : Array Slot), 2147483648 ≤ x4_3.toInt + (n : Int) → rg 0 8 x4_3 → va_P G vwCl [(a0, .inr (11, [.int n0_0, .ref a1, .ref a2, .ref a3, .ref a4, .ref a5, .int n0_6, .int n0_7, .int n0_8, .int n0_9, .int n0_10, .long l0_11, .int n0_12, .int n0_13, .int n0_14, .int n0_15, .ref a6, .ref a7, .ref a8, .ref a9, .ref a10, .ref a11, .ref a12, .ref a13, .int n0_24, .int n0_25, .int n0_26, .int n0_27, .ref a14, .int n0_29, .int n0_30])), (a7, .inl (ct 0, 15, .inl f7)), (a8, .inl (ct 0, 200, .inl f8))] H → va_S no s.heap H locs → lv_has ls 4 [(0, .ref a0), (1, .int p0), (2, .int x4_2), (3, .int x4_3)] → W p l e (headSpec wsX11_doneBy ({ frames := 1, cells := 0, slots := 0, locals := 22 })).room s m ([.ref a0, .int p0] : List Value).toArray below meth c H locs 0 0 (MQ below (roQ (fun r => True)) ([.ref a0, .int p0] : List Value).toArray s 0 0 no) (F0 m 4 ls []) := by
    intro n
    induction n with
    | zero => intro x4_2 x4_3 H locs ls hn4 hx4_3 hP hS hl; exact absurd hn4 (by have := Int32.toInt_lt x4_3; have := Int32.le_toInt x4_3; omega)
    | succ n ih4 =>
      intro x4_2 x4_3 H locs ls hn4 hx4_3 hP hS hl
      refine lv_iload_n hx hb dX11_doneBy_4 rfl (lv_at hl 3 rfl) ?_
      refine lv_aload_n hx hb dX11_doneBy_5 rfl (lv_at hl 0 rfl) ?_
      refine va_get (D := G) (ci := 11) (v := .ref a7) (C := RX11) (T := TX11) (N := 31) hx hb hts (by decide +kernel) hown hK.1 hP 0 rfl rfl 17 (by decide) (hts (.fieldLink RX11 34 "CardHolderModel" "has" "[I") (by decide +kernel)) (fun _ h9 => h9) rfl dX11_doneBy_6 ?_
      refine lv_iconst (v := 1) hx hb dX11_doneBy_9 (by decide) ?_
      refine va_iald hx hb hK.1 hP 1 0 rfl rfl (in_lit (by decide)) dX11_doneBy_10 ?_
      refine lv_topi (fun z10 gz10 => ?_)
      have hz10 : rg 0 8 z10 := by rw [gz10]; exact (hp_f7.1 0)
      refine lv_icmp_ge (tgt := 41) hx hb dX11_doneBy_11 (by decide) (fun c11 => ?_) (fun c11 => ?_)
      · refine lv_iload_n hx hb dX11_doneBy_41 rfl (lv_at hl 2 rfl) ?_
        exact W.iret (v := x4_2) hx hb hr (fun t ht hW => ⟨⟨x4_2, (), rfl, trivial, trivial⟩, hS.F ht⟩) hS.2.2 dX11_doneBy_42
      · have h_1 : rg 0 7 x4_3 := r_lt_l_i (nle_i c11) hx4_3 hz10 (by decide)
        have h_2 : rg 1 8 z10 := r_lt_r_i (nle_i c11) hx4_3 hz10 (by decide)
        refine lv_iload_n hx hb dX11_doneBy_14 rfl (lv_at hl 2 rfl) ?_
        refine lv_iload_n hx hb dX11_doneBy_15 rfl (lv_at hl 1 rfl) ?_
        refine lv_iload_n hx hb dX11_doneBy_16 rfl (lv_at hl 3 rfl) ?_
        refine ro_calli (va_runS (As := [.int p0, .int x4_3]) (rest := [.int x4_2]) ⟨hx, hb, hml, hown, hts⟩ (a_X11_isBit l G ct p0 x4_3) (va_cwS 2 hts gX11_doneBy_X11_isBit rfl rfl rfl (by decide +kernel) ⟨Nat.le_of_ble_eq_true rfl, Nat.le_of_ble_eq_true rfl⟩) (ro_pre hK (hP.sub [] rfl)) rfl rfl hl.1 rfl (lv_room (Nat.le_of_ble_eq_true rfl)) dX11_doneBy_17 ⟨Nat.zero_le _, Nat.zero_le _⟩) hS hP (fun r17 H locs wr17 hP hS => ?_)
        obtain ⟨p_3, -⟩ := wr17
        have j33 : ∀ (y33_0 : Int32) (H : Heap) (locs : List Loc) (ls : Array Slot), va_P G vwCl [(a0, .inr (11, [.int n0_0, .ref a1, .ref a2, .ref a3, .ref a4, .ref a5, .int n0_6, .int n0_7, .int n0_8, .int n0_9, .int n0_10, .long l0_11, .int n0_12, .int n0_13, .int n0_14, .int n0_15, .ref a6, .ref a7, .ref a8, .ref a9, .ref a10, .ref a11, .ref a12, .ref a13, .int n0_24, .int n0_25, .int n0_26, .int n0_27, .ref a14, .int n0_29, .int n0_30])), (a7, .inl (ct 0, 15, .inl f7)), (a8, .inl (ct 0, 200, .inl f8))] H → va_S no s.heap H locs → lv_has ls 4 [(0, .ref a0), (1, .int p0), (2, .int x4_2), (3, .int x4_3)] → W p l e (headSpec wsX11_doneBy ({ frames := 1, cells := 0, slots := 0, locals := 22 })).room s m ([.ref a0, .int p0] : List Value).toArray below meth c H locs 0 0 (MQ below (roQ (fun r => True)) ([.ref a0, .int p0] : List Value).toArray s 0 0 no) (F0 m 33 ls [.int y33_0, .int x4_2]) := by
          intro y33_0 H locs ls  hP hS hl
          refine lv_ior hx hb dX11_doneBy_33 ?_
          refine nm_0 (fun z33 => ?_)
          refine lv_istore_n (lv' := [(2, .int z33), (0, .ref a0), (1, .int p0), (3, .int x4_3)]) hx hb dX11_doneBy_34 rfl hl (by decide) rfl (fun ls hl => ?_)
          obtain ⟨z35, qz35⟩ : ∃ y : Int32, y = x4_3 + Int32.ofInt 1 := ⟨_, rfl⟩
          obtain ⟨hz35, ez35⟩ := inc_z (e := 1) (f := 8) h_1 qz35 (by decide)
          refine lv_iinc (v := z35) (lv' := [(3, .int z35), (2, .int z33), (0, .ref a0), (1, .int p0)]) hx hb dX11_doneBy_35 hl (k := 3) rfl (qz35.symm) (by decide) rfl (fun ls hl => ?_)
          refine lv_goto (tgt := 4) hx hb dX11_doneBy_38 (by decide) ?_
          exact ih4 z33 z35 _ _ ls (by have q := hn4; have := ez35; omega) (rg_w (c := 0) (d := 8) hz35 (by decide)) hP hS (lv_sub hl [2, 3, 1, 0] rfl)
        refine lv_if_eq (tgt := 32) hx hb dX11_doneBy_20 (by decide) (fun c20 => ?_) (fun c20 => ?_)
        · have h_4 : rg 0 0 r17 := r_eq_l_i (e := 0) (f := 0) c20 p_3 (rgn 0 (x := 0) (by decide)) (by decide)
          refine lv_iconst (v := 0) hx hb dX11_doneBy_32 (by decide) ?_
          exact j33 (0 : Int32) _ _ ls hP hS (lv_sub hl [0, 1, 2, 3] rfl)
        · have h_5 : rg 1 1 r17 := r_ne_lo_i c20 p_3 (by decide) (by decide)
          refine lv_aload_n hx hb dX11_doneBy_23 rfl (lv_at hl 0 rfl) ?_
          refine lv_iload_n hx hb dX11_doneBy_24 rfl (lv_at hl 3 rfl) ?_
          refine lv_iconst (v := 1) hx hb dX11_doneBy_25 (by decide) ?_
          refine ro_calli (va_runV (As := [.int x4_3, .int 1]) (rest := [.int x4_2]) ⟨hx, hb, hml, hown, hts⟩ (a_X11_of1 l G ct a0 n0_0 a1 a2 a3 a4 a5 n0_6 n0_7 n0_8 n0_9 n0_10 l0_11 n0_12 n0_13 n0_14 n0_15 a6 a7 a8 a9 a10 a11 a12 a13 n0_24 n0_25 n0_26 n0_27 a14 n0_29 n0_30 f8 x4_3 hp_n0_6 hp_f8 h_1) (cwV 2 hts gX11_doneBy_X11_of rfl rfl rfl (by decide +kernel) ⟨Nat.le_of_ble_eq_true rfl, Nat.le_of_ble_eq_true rfl⟩) (ro_preV 11 0 hK (hP.sub [0, 2] rfl) rfl rfl) rfl rfl hl.1 rfl (lv_room (Nat.le_of_ble_eq_true rfl)) dX11_doneBy_26 ⟨Nat.zero_le _, Nat.zero_le _⟩) hS hP (fun r26 H locs wr26 hP hS => ?_)
          refine lv_goto (tgt := 33) hx hb dX11_doneBy_29 (by decide) ?_
          exact j33 r26 _ _ ls hP hS (lv_sub hl [0, 1, 2, 3] rfl)
  exact j4 4294967296 (0 : Int32) (0 : Int32) _ _ ls (ms_e (0 : Int32)) (rg_w (c := 0) (d := 8) (rgn 0 (x := 0) (by decide)) (by decide)) hP hS (lv_sub hl [2, 3, 1, 0] rfl)

set_option maxHeartbeats 4000000 in
set_option maxRecDepth 100000 in
theorem a_X11_handsOf (l : Launch) (G : va_G) (ct : Nat → ClassId) (a0 : Nat) (n0_0 : Int32) (a1 : Nat) (a2 : Nat) (a3 : Nat) (a4 : Nat) (a5 : Nat) (n0_6 : Int32) (n0_7 : Int32) (n0_8 : Int32) (n0_9 : Int32) (n0_10 : Int32) (l0_11 : Int64) (n0_12 : Int32) (n0_13 : Int32) (n0_14 : Int32) (n0_15 : Int32) (a6 : Nat) (a7 : Nat) (a8 : Nat) (a9 : Nat) (a10 : Nat) (a11 : Nat) (a12 : Nat) (a13 : Nat) (n0_24 : Int32) (n0_25 : Int32) (n0_26 : Int32) (n0_27 : Int32) (a14 : Nat) (n0_29 : Int32) (n0_30 : Int32) (f7 : Nat → Int32) (f11 : Nat → Int32) (p0 : Int32) (hp_n0_6 : rg 0 900 n0_6) (hp_f7 : hsI f7) (hp_f11 : ar (-1) 7 f11) : Met l yX11_handsOf wsX11_handsOf ({ frames := 1, cells := 0, slots := 0, locals := 23 }) (va_Pc [.ref a0, .int p0] (roP G ct [(a0, .inr (11, [.int n0_0, .ref a1, .ref a2, .ref a3, .ref a4, .ref a5, .int n0_6, .int n0_7, .int n0_8, .int n0_9, .int n0_10, .long l0_11, .int n0_12, .int n0_13, .int n0_14, .int n0_15, .ref a6, .ref a7, .ref a8, .ref a9, .ref a10, .ref a11, .ref a12, .ref a13, .int n0_24, .int n0_25, .int n0_26, .int n0_27, .ref a14, .int n0_29, .int n0_30])), (a7, .inl (ct 0, 15, .inl f7)), (a11, .inl (ct 0, 8, .inl f11))])) (roQ (fun r => rg 0 255 r ∧ True)) 0 0 no := by
  refine Met.ofW (cc := cX11_handsOf) (maxL := 4) (ret := (some .int)) (by decide) rfl ?_
  intro p e s m args below meth c s₁ B hml hv
  obtain ⟨rfl, hP, hK⟩ := hv
  have hx := B.exec
  have hb := B.bytes
  have hr := B.returns
  have hts := atoms_spec (ws := wsX11_handsOf) B.pre
  have hown : s.vm.findClass RX11 = some m.cls := findClass_of_methodNamed B.named
  have hlocks := B.notSynchronized
  have hS : va_S no s.heap s.heap [] := va_S.rf
  have hl := lv_entry ([.ref a0, .int p0]) (n := 4) (Nat.le_of_ble_eq_true rfl)
  rw [lg_entry_eq]
  generalize (lg_sl ([.ref a0, .int p0]) ++ List.replicate (4 - (lg_sl ([.ref a0, .int p0])).length) Slot.unset).toArray = ls at hl ⊢
  have hl : lv_has ls 4 [(0, .ref a0), (1, .int p0)] := hl
  refine lv_iconst (v := 0) hx hb dX11_handsOf_0 (by decide) ?_
  refine lv_istore_n (lv' := [(2, .int 0), (0, .ref a0), (1, .int p0)]) hx hb dX11_handsOf_1 rfl hl (by decide) rfl (fun ls hl => ?_)
  refine lv_iconst (v := 0) hx hb dX11_handsOf_2 (by decide) ?_
  refine lv_istore_n (lv' := [(3, .int 0), (2, .int 0), (0, .ref a0), (1, .int p0)]) hx hb dX11_handsOf_3 rfl hl (by decide) rfl (fun ls hl => ?_)
  have j4 : ∀ (n : Nat) (x4_2 : Int32) (x4_3 : Int32) (H : Heap) (locs : List Loc) (ls : Array Slot), 2147483648 ≤ x4_3.toInt + (n : Int) → rg 0 255 x4_2 → rg 0 8 x4_3 → va_P G vwCl [(a0, .inr (11, [.int n0_0, .ref a1, .ref a2, .ref a3, .ref a4, .ref a5, .int n0_6, .int n0_7, .int n0_8, .int n0_9, .int n0_10, .long l0_11, .int n0_12, .int n0_13, .int n0_14, .int n0_15, .ref a6, .ref a7, .ref a8, .ref a9, .ref a10, .ref a11, .ref a12, .ref a13, .int n0_24, .int n0_25, .int n0_26, .int n0_27, .ref a14, .int n0_29, .int n0_30])), (a7, .inl (ct 0, 15, .inl f7)), (a11, .inl (ct 0, 8, .inl f11))] H → va_S no s.heap H locs → lv_has ls 4 [(0, .ref a0), (1, .int p0), (2, .int x4_2), (3, .int x4_3)] → W p l e (headSpec wsX11_handsOf ({ frames := 1, cells := 0, slots := 0, locals := 23 })).room s m ([.ref a0, .int p0] : List Value).toArray below meth c H locs 0 0 (MQ below (roQ (fun r => rg 0 255 r ∧ True)) ([.ref a0, .int p0] : List Value).toArray s 0 0 no) (F0 m 4 ls []) := by
    intro n
    induction n with
    | zero => intro x4_2 x4_3 H locs ls hn4 hx4_2 hx4_3 hP hS hl; exact absurd hn4 (by have := Int32.toInt_lt x4_3; have := Int32.le_toInt x4_3; omega)
    | succ n ih4 =>
      intro x4_2 x4_3 H locs ls hn4 hx4_2 hx4_3 hP hS hl
      refine lv_iload_n hx hb dX11_handsOf_4 rfl (lv_at hl 3 rfl) ?_
      refine lv_aload_n hx hb dX11_handsOf_5 rfl (lv_at hl 0 rfl) ?_
      refine va_get (D := G) (ci := 11) (v := .ref a7) (C := RX11) (T := TX11) (N := 31) hx hb hts (by decide +kernel) hown hK.1 hP 0 rfl rfl 17 (by decide) (hts (.fieldLink RX11 34 "CardHolderModel" "has" "[I") (by decide +kernel)) (fun _ h9 => h9) rfl dX11_handsOf_6 ?_
      refine lv_iconst (v := 1) hx hb dX11_handsOf_9 (by decide) ?_
      refine va_iald hx hb hK.1 hP 1 0 rfl rfl (in_lit (by decide)) dX11_handsOf_10 ?_
      refine lv_topi (fun z10 gz10 => ?_)
      have hz10 : rg 0 8 z10 := by rw [gz10]; exact (hp_f7.1 0)
      refine lv_icmp_ge (tgt := 40) hx hb dX11_handsOf_11 (by decide) (fun c11 => ?_) (fun c11 => ?_)
      · refine lv_iload_n hx hb dX11_handsOf_40 rfl (lv_at hl 2 rfl) ?_
        exact W.iret (v := x4_2) hx hb hr (fun t ht hW => ⟨⟨x4_2, (), rfl, ⟨hx4_2, trivial⟩, trivial⟩, hS.F ht⟩) hS.2.2 dX11_handsOf_41
      · have h_1 : rg 0 7 x4_3 := r_lt_l_i (nle_i c11) hx4_3 hz10 (by decide)
        have h_2 : rg 1 8 z10 := r_lt_r_i (nle_i c11) hx4_3 hz10 (by decide)
        refine lv_iload_n hx hb dX11_handsOf_14 rfl (lv_at hl 2 rfl) ?_
        refine lv_iload_n hx hb dX11_handsOf_15 rfl (lv_at hl 1 rfl) ?_
        refine lv_iload_n hx hb dX11_handsOf_16 rfl (lv_at hl 3 rfl) ?_
        refine ro_calli (va_runS (As := [.int p0, .int x4_3]) (rest := [.int x4_2]) ⟨hx, hb, hml, hown, hts⟩ (a_X11_isBit l G ct p0 x4_3) (va_cwS 2 hts gX11_handsOf_X11_isBit rfl rfl rfl (by decide +kernel) ⟨Nat.le_of_ble_eq_true rfl, Nat.le_of_ble_eq_true rfl⟩) (ro_pre hK (hP.sub [] rfl)) rfl rfl hl.1 rfl (lv_room (Nat.le_of_ble_eq_true rfl)) dX11_handsOf_17 ⟨Nat.zero_le _, Nat.zero_le _⟩) hS hP (fun r17 H locs wr17 hP hS => ?_)
        obtain ⟨p_3, -⟩ := wr17
        have j32 : ∀ (y32_0 : Int32) (H : Heap) (locs : List Loc) (ls : Array Slot), rg 0 255 y32_0 → va_P G vwCl [(a0, .inr (11, [.int n0_0, .ref a1, .ref a2, .ref a3, .ref a4, .ref a5, .int n0_6, .int n0_7, .int n0_8, .int n0_9, .int n0_10, .long l0_11, .int n0_12, .int n0_13, .int n0_14, .int n0_15, .ref a6, .ref a7, .ref a8, .ref a9, .ref a10, .ref a11, .ref a12, .ref a13, .int n0_24, .int n0_25, .int n0_26, .int n0_27, .ref a14, .int n0_29, .int n0_30])), (a7, .inl (ct 0, 15, .inl f7)), (a11, .inl (ct 0, 8, .inl f11))] H → va_S no s.heap H locs → lv_has ls 4 [(0, .ref a0), (1, .int p0), (2, .int x4_2), (3, .int x4_3)] → W p l e (headSpec wsX11_handsOf ({ frames := 1, cells := 0, slots := 0, locals := 23 })).room s m ([.ref a0, .int p0] : List Value).toArray below meth c H locs 0 0 (MQ below (roQ (fun r => rg 0 255 r ∧ True)) ([.ref a0, .int p0] : List Value).toArray s 0 0 no) (F0 m 32 ls [.int y32_0, .int x4_2]) := by
          intro y32_0 H locs ls hy32_0 hP hS hl
          refine lv_ior hx hb dX11_handsOf_32 ?_
          refine nm_or (k := 8) (e1 := 0) (f := 255) hx4_2 hy32_0 (by decide) (fun z32 hz32 => ?_)
          refine lv_istore_n (lv' := [(2, .int z32), (0, .ref a0), (1, .int p0), (3, .int x4_3)]) hx hb dX11_handsOf_33 rfl hl (by decide) rfl (fun ls hl => ?_)
          obtain ⟨z34, qz34⟩ : ∃ y : Int32, y = x4_3 + Int32.ofInt 1 := ⟨_, rfl⟩
          obtain ⟨hz34, ez34⟩ := inc_z (e := 1) (f := 8) h_1 qz34 (by decide)
          refine lv_iinc (v := z34) (lv' := [(3, .int z34), (2, .int z32), (0, .ref a0), (1, .int p0)]) hx hb dX11_handsOf_34 hl (k := 3) rfl (qz34.symm) (by decide) rfl (fun ls hl => ?_)
          refine lv_goto (tgt := 4) hx hb dX11_handsOf_37 (by decide) ?_
          exact ih4 z32 z34 _ _ ls (by have q := hn4; have := ez34; omega) hz32 (rg_w (c := 0) (d := 8) hz34 (by decide)) hP hS (lv_sub hl [2, 3, 1, 0] rfl)
        refine lv_if_eq (tgt := 31) hx hb dX11_handsOf_20 (by decide) (fun c20 => ?_) (fun c20 => ?_)
        · have h_4 : rg 0 0 r17 := r_eq_l_i (e := 0) (f := 0) c20 p_3 (rgn 0 (x := 0) (by decide)) (by decide)
          refine lv_iconst (v := 0) hx hb dX11_handsOf_31 (by decide) ?_
          exact j32 (0 : Int32) _ _ ls (rg_w (c := 0) (d := 255) (rgn 0 (x := 0) (by decide)) (by decide)) hP hS (lv_sub hl [0, 1, 2, 3] rfl)
        · have h_5 : rg 1 1 r17 := r_ne_lo_i c20 p_3 (by decide) (by decide)
          refine lv_aload_n hx hb dX11_handsOf_23 rfl (lv_at hl 0 rfl) ?_
          refine lv_iload_n hx hb dX11_handsOf_24 rfl (lv_at hl 3 rfl) ?_
          refine ro_calli (va_runV (As := [.int x4_3]) (rest := [.int x4_2]) ⟨hx, hb, hml, hown, hts⟩ (a_X11_handOf l G ct a0 n0_0 a1 a2 a3 a4 a5 n0_6 n0_7 n0_8 n0_9 n0_10 l0_11 n0_12 n0_13 n0_14 n0_15 a6 a7 a8 a9 a10 a11 a12 a13 n0_24 n0_25 n0_26 n0_27 a14 n0_29 n0_30 f7 f11 x4_3 hp_n0_6 hp_f7 hp_f11) (cwV 1 hts gX11_handsOf_X11_handOf rfl rfl rfl (by decide +kernel) ⟨Nat.le_of_ble_eq_true rfl, Nat.le_of_ble_eq_true rfl⟩) (ro_preV 11 0 hK (hP.sub [0, 1, 2] rfl) rfl rfl) rfl rfl hl.1 rfl (lv_room (Nat.le_of_ble_eq_true rfl)) dX11_handsOf_25 ⟨Nat.zero_le _, Nat.zero_le _⟩) hS hP (fun r25 H locs wr25 hP hS => ?_)
          obtain ⟨p_6, p_7, p_8, -⟩ := wr25
          refine lv_goto (tgt := 32) hx hb dX11_handsOf_28 (by decide) ?_
          exact j32 r25 _ _ ls p_6 hP hS (lv_sub hl [0, 1, 2, 3] rfl)
  exact j4 4294967296 (0 : Int32) (0 : Int32) _ _ ls (ms_e (0 : Int32)) (rg_w (c := 0) (d := 255) (rgn 0 (x := 0) (by decide)) (by decide)) (rg_w (c := 0) (d := 8) (rgn 0 (x := 0) (by decide)) (by decide)) hP hS (lv_sub hl [2, 3, 1, 0] rfl)

set_option maxHeartbeats 4000000 in
set_option maxRecDepth 100000 in
theorem a_X11_worthOf (l : Launch) (G : va_G) (ct : Nat → ClassId) (a0 : Nat) (n0_0 : Int32) (a1 : Nat) (a2 : Nat) (a3 : Nat) (a4 : Nat) (a5 : Nat) (n0_6 : Int32) (n0_7 : Int32) (n0_8 : Int32) (n0_9 : Int32) (n0_10 : Int32) (l0_11 : Int64) (n0_12 : Int32) (n0_13 : Int32) (n0_14 : Int32) (n0_15 : Int32) (a6 : Nat) (a7 : Nat) (a8 : Nat) (a9 : Nat) (a10 : Nat) (a11 : Nat) (a12 : Nat) (a13 : Nat) (n0_24 : Int32) (n0_25 : Int32) (n0_26 : Int32) (n0_27 : Int32) (a14 : Nat) (n0_29 : Int32) (n0_30 : Int32) (f7 : Nat → Int32) (f8 : Nat → Int32) (p0 : Int32) (hp_n0_6 : rg 0 900 n0_6) (hp_f7 : hsI f7) (hp_f8 : psI f8) : Met l yX11_worthOf wsX11_worthOf ({ frames := 1, cells := 0, slots := 0, locals := 22 }) (va_Pc [.ref a0, .int p0] (roP G ct [(a0, .inr (11, [.int n0_0, .ref a1, .ref a2, .ref a3, .ref a4, .ref a5, .int n0_6, .int n0_7, .int n0_8, .int n0_9, .int n0_10, .long l0_11, .int n0_12, .int n0_13, .int n0_14, .int n0_15, .ref a6, .ref a7, .ref a8, .ref a9, .ref a10, .ref a11, .ref a12, .ref a13, .int n0_24, .int n0_25, .int n0_26, .int n0_27, .ref a14, .int n0_29, .int n0_30])), (a7, .inl (ct 0, 15, .inl f7)), (a8, .inl (ct 0, 200, .inl f8))])) (roQ (fun r => True)) 0 0 no := by
  refine Met.ofW (cc := cX11_worthOf) (maxL := 4) (ret := (some .int)) (by decide) rfl ?_
  intro p e s m args below meth c s₁ B hml hv
  obtain ⟨rfl, hP, hK⟩ := hv
  have hx := B.exec
  have hb := B.bytes
  have hr := B.returns
  have hts := atoms_spec (ws := wsX11_worthOf) B.pre
  have hown : s.vm.findClass RX11 = some m.cls := findClass_of_methodNamed B.named
  have hlocks := B.notSynchronized
  have hS : va_S no s.heap s.heap [] := va_S.rf
  have hl := lv_entry ([.ref a0, .int p0]) (n := 4) (Nat.le_of_ble_eq_true rfl)
  rw [lg_entry_eq]
  generalize (lg_sl ([.ref a0, .int p0]) ++ List.replicate (4 - (lg_sl ([.ref a0, .int p0])).length) Slot.unset).toArray = ls at hl ⊢
  have hl : lv_has ls 4 [(0, .ref a0), (1, .int p0)] := hl
  refine lv_iconst (v := 0) hx hb dX11_worthOf_0 (by decide) ?_
  refine lv_istore_n (lv' := [(2, .int 0), (0, .ref a0), (1, .int p0)]) hx hb dX11_worthOf_1 rfl hl (by decide) rfl (fun ls hl => ?_)
  refine lv_iconst (v := 0) hx hb dX11_worthOf_2 (by decide) ?_
  refine lv_istore_n (lv' := [(3, .int 0), (2, .int 0), (0, .ref a0), (1, .int p0)]) hx hb dX11_worthOf_3 rfl hl (by decide) rfl (fun ls hl => ?_)
  have j4 : ∀ (n : Nat) (x4_2 : Int32) (x4_3 : Int32) (H : Heap) (locs : List Loc) (ls : Array Slot), 2147483648 ≤ x4_3.toInt + (n : Int) → rg 0 8 x4_3 → va_P G vwCl [(a0, .inr (11, [.int n0_0, .ref a1, .ref a2, .ref a3, .ref a4, .ref a5, .int n0_6, .int n0_7, .int n0_8, .int n0_9, .int n0_10, .long l0_11, .int n0_12, .int n0_13, .int n0_14, .int n0_15, .ref a6, .ref a7, .ref a8, .ref a9, .ref a10, .ref a11, .ref a12, .ref a13, .int n0_24, .int n0_25, .int n0_26, .int n0_27, .ref a14, .int n0_29, .int n0_30])), (a7, .inl (ct 0, 15, .inl f7)), (a8, .inl (ct 0, 200, .inl f8))] H → va_S no s.heap H locs → lv_has ls 4 [(0, .ref a0), (1, .int p0), (2, .int x4_2), (3, .int x4_3)] → W p l e (headSpec wsX11_worthOf ({ frames := 1, cells := 0, slots := 0, locals := 22 })).room s m ([.ref a0, .int p0] : List Value).toArray below meth c H locs 0 0 (MQ below (roQ (fun r => True)) ([.ref a0, .int p0] : List Value).toArray s 0 0 no) (F0 m 4 ls []) := by
    intro n
    induction n with
    | zero => intro x4_2 x4_3 H locs ls hn4 hx4_3 hP hS hl; exact absurd hn4 (by have := Int32.toInt_lt x4_3; have := Int32.le_toInt x4_3; omega)
    | succ n ih4 =>
      intro x4_2 x4_3 H locs ls hn4 hx4_3 hP hS hl
      refine lv_iload_n hx hb dX11_worthOf_4 rfl (lv_at hl 3 rfl) ?_
      refine lv_aload_n hx hb dX11_worthOf_5 rfl (lv_at hl 0 rfl) ?_
      refine va_get (D := G) (ci := 11) (v := .ref a7) (C := RX11) (T := TX11) (N := 31) hx hb hts (by decide +kernel) hown hK.1 hP 0 rfl rfl 17 (by decide) (hts (.fieldLink RX11 34 "CardHolderModel" "has" "[I") (by decide +kernel)) (fun _ h9 => h9) rfl dX11_worthOf_6 ?_
      refine lv_iconst (v := 1) hx hb dX11_worthOf_9 (by decide) ?_
      refine va_iald hx hb hK.1 hP 1 0 rfl rfl (in_lit (by decide)) dX11_worthOf_10 ?_
      refine lv_topi (fun z10 gz10 => ?_)
      have hz10 : rg 0 8 z10 := by rw [gz10]; exact (hp_f7.1 0)
      refine lv_icmp_ge (tgt := 41) hx hb dX11_worthOf_11 (by decide) (fun c11 => ?_) (fun c11 => ?_)
      · refine lv_iload_n hx hb dX11_worthOf_41 rfl (lv_at hl 2 rfl) ?_
        exact W.iret (v := x4_2) hx hb hr (fun t ht hW => ⟨⟨x4_2, (), rfl, trivial, trivial⟩, hS.F ht⟩) hS.2.2 dX11_worthOf_42
      · have h_1 : rg 0 7 x4_3 := r_lt_l_i (nle_i c11) hx4_3 hz10 (by decide)
        have h_2 : rg 1 8 z10 := r_lt_r_i (nle_i c11) hx4_3 hz10 (by decide)
        refine lv_iload_n hx hb dX11_worthOf_14 rfl (lv_at hl 2 rfl) ?_
        refine lv_iload_n hx hb dX11_worthOf_15 rfl (lv_at hl 1 rfl) ?_
        refine lv_iload_n hx hb dX11_worthOf_16 rfl (lv_at hl 3 rfl) ?_
        refine ro_calli (va_runS (As := [.int p0, .int x4_3]) (rest := [.int x4_2]) ⟨hx, hb, hml, hown, hts⟩ (a_X11_isBit l G ct p0 x4_3) (va_cwS 2 hts gX11_worthOf_X11_isBit rfl rfl rfl (by decide +kernel) ⟨Nat.le_of_ble_eq_true rfl, Nat.le_of_ble_eq_true rfl⟩) (ro_pre hK (hP.sub [] rfl)) rfl rfl hl.1 rfl (lv_room (Nat.le_of_ble_eq_true rfl)) dX11_worthOf_17 ⟨Nat.zero_le _, Nat.zero_le _⟩) hS hP (fun r17 H locs wr17 hP hS => ?_)
        obtain ⟨p_3, -⟩ := wr17
        have j33 : ∀ (y33_0 : Int32) (H : Heap) (locs : List Loc) (ls : Array Slot), va_P G vwCl [(a0, .inr (11, [.int n0_0, .ref a1, .ref a2, .ref a3, .ref a4, .ref a5, .int n0_6, .int n0_7, .int n0_8, .int n0_9, .int n0_10, .long l0_11, .int n0_12, .int n0_13, .int n0_14, .int n0_15, .ref a6, .ref a7, .ref a8, .ref a9, .ref a10, .ref a11, .ref a12, .ref a13, .int n0_24, .int n0_25, .int n0_26, .int n0_27, .ref a14, .int n0_29, .int n0_30])), (a7, .inl (ct 0, 15, .inl f7)), (a8, .inl (ct 0, 200, .inl f8))] H → va_S no s.heap H locs → lv_has ls 4 [(0, .ref a0), (1, .int p0), (2, .int x4_2), (3, .int x4_3)] → W p l e (headSpec wsX11_worthOf ({ frames := 1, cells := 0, slots := 0, locals := 22 })).room s m ([.ref a0, .int p0] : List Value).toArray below meth c H locs 0 0 (MQ below (roQ (fun r => True)) ([.ref a0, .int p0] : List Value).toArray s 0 0 no) (F0 m 33 ls [.int y33_0, .int x4_2]) := by
          intro y33_0 H locs ls  hP hS hl
          refine lv_iadd hx hb dX11_worthOf_33 ?_
          refine nm_0 (fun z33 => ?_)
          refine lv_istore_n (lv' := [(2, .int z33), (0, .ref a0), (1, .int p0), (3, .int x4_3)]) hx hb dX11_worthOf_34 rfl hl (by decide) rfl (fun ls hl => ?_)
          obtain ⟨z35, qz35⟩ : ∃ y : Int32, y = x4_3 + Int32.ofInt 1 := ⟨_, rfl⟩
          obtain ⟨hz35, ez35⟩ := inc_z (e := 1) (f := 8) h_1 qz35 (by decide)
          refine lv_iinc (v := z35) (lv' := [(3, .int z35), (2, .int z33), (0, .ref a0), (1, .int p0)]) hx hb dX11_worthOf_35 hl (k := 3) rfl (qz35.symm) (by decide) rfl (fun ls hl => ?_)
          refine lv_goto (tgt := 4) hx hb dX11_worthOf_38 (by decide) ?_
          exact ih4 z33 z35 _ _ ls (by have q := hn4; have := ez35; omega) (rg_w (c := 0) (d := 8) hz35 (by decide)) hP hS (lv_sub hl [2, 3, 1, 0] rfl)
        refine lv_if_eq (tgt := 32) hx hb dX11_worthOf_20 (by decide) (fun c20 => ?_) (fun c20 => ?_)
        · have h_4 : rg 0 0 r17 := r_eq_l_i (e := 0) (f := 0) c20 p_3 (rgn 0 (x := 0) (by decide)) (by decide)
          refine lv_iconst (v := 0) hx hb dX11_worthOf_32 (by decide) ?_
          exact j33 (0 : Int32) _ _ ls hP hS (lv_sub hl [0, 1, 2, 3] rfl)
        · have h_5 : rg 1 1 r17 := r_ne_lo_i c20 p_3 (by decide) (by decide)
          refine lv_aload_n hx hb dX11_worthOf_23 rfl (lv_at hl 0 rfl) ?_
          refine lv_iload_n hx hb dX11_worthOf_24 rfl (lv_at hl 3 rfl) ?_
          refine lv_iconst (v := 0) hx hb dX11_worthOf_25 (by decide) ?_
          refine ro_calli (va_runV (As := [.int x4_3, .int 0]) (rest := [.int x4_2]) ⟨hx, hb, hml, hown, hts⟩ (a_X11_of0 l G ct a0 n0_0 a1 a2 a3 a4 a5 n0_6 n0_7 n0_8 n0_9 n0_10 l0_11 n0_12 n0_13 n0_14 n0_15 a6 a7 a8 a9 a10 a11 a12 a13 n0_24 n0_25 n0_26 n0_27 a14 n0_29 n0_30 f8 x4_3 hp_n0_6 hp_f8 h_1) (cwV 2 hts gX11_worthOf_X11_of rfl rfl rfl (by decide +kernel) ⟨Nat.le_of_ble_eq_true rfl, Nat.le_of_ble_eq_true rfl⟩) (ro_preV 11 0 hK (hP.sub [0, 2] rfl) rfl rfl) rfl rfl hl.1 rfl (lv_room (Nat.le_of_ble_eq_true rfl)) dX11_worthOf_26 ⟨Nat.zero_le _, Nat.zero_le _⟩) hS hP (fun r26 H locs wr26 hP hS => ?_)
          refine lv_goto (tgt := 33) hx hb dX11_worthOf_29 (by decide) ?_
          exact j33 r26 _ _ ls hP hS (lv_sub hl [0, 1, 2, 3] rfl)
  exact j4 4294967296 (0 : Int32) (0 : Int32) _ _ ls (ms_e (0 : Int32)) (rg_w (c := 0) (d := 8) (rgn 0 (x := 0) (by decide)) (by decide)) hP hS (lv_sub hl [2, 3, 1, 0] rfl)

set_option maxHeartbeats 4000000 in
set_option maxRecDepth 100000 in
theorem a_X11_coversOf (l : Launch) (G : va_G) (ct : Nat → ClassId) (a0 : Nat) (n0_0 : Int32) (a1 : Nat) (a2 : Nat) (a3 : Nat) (a4 : Nat) (a5 : Nat) (n0_6 : Int32) (n0_7 : Int32) (n0_8 : Int32) (n0_9 : Int32) (n0_10 : Int32) (l0_11 : Int64) (n0_12 : Int32) (n0_13 : Int32) (n0_14 : Int32) (n0_15 : Int32) (a6 : Nat) (a7 : Nat) (a8 : Nat) (a9 : Nat) (a10 : Nat) (a11 : Nat) (a12 : Nat) (a13 : Nat) (n0_24 : Int32) (n0_25 : Int32) (n0_26 : Int32) (n0_27 : Int32) (a14 : Nat) (n0_29 : Int32) (n0_30 : Int32) (f7 : Nat → Int32) (f8 : Nat → Int32) (f9 : Nat → Int32) (f11 : Nat → Int32) (f12 : Nat → Int32) (f13 : Nat → Int32) (p0 : Int32) (hp_n0_6 : rg 0 900 n0_6) (hp_f7 : hsI f7) (hp_f8 : psI f8) (hp_f9 : ar 0 7 f9) (hp_f11 : ar (-1) 7 f11) (hp_f13 : ar (-1) 7 f13) : Met l yX11_coversOf wsX11_coversOf ({ frames := 5, cells := 0, slots := 0, locals := 111 }) (va_Pc [.ref a0, .int p0] (wrP G ct [(a0, .inr (11, [.int n0_0, .ref a1, .ref a2, .ref a3, .ref a4, .ref a5, .int n0_6, .int n0_7, .int n0_8, .int n0_9, .int n0_10, .long l0_11, .int n0_12, .int n0_13, .int n0_14, .int n0_15, .ref a6, .ref a7, .ref a8, .ref a9, .ref a10, .ref a11, .ref a12, .ref a13, .int n0_24, .int n0_25, .int n0_26, .int n0_27, .ref a14, .int n0_29, .int n0_30])), (a7, .inl (ct 0, 15, .inl f7)), (a8, .inl (ct 0, 200, .inl f8)), (a9, .inl (ct 0, 1000, .inl f9)), (a11, .inl (ct 0, 8, .inl f11)), (a12, .inl (ct 0, 8, .inl f12)), (a13, .inl (ct 0, 8, .inl f13))])) (va_Qi (fun (r : Int32) (u : SU) => rg (-1) 255 r ∧ ar (-1) 7 (u.2.1 0) ∧ ar (-1) 7 (u.2.1 2) ∧ True) (fun u t => va_P G vwCl ((fun u : SU => [(a0, .inr (11, [.int n0_0, .ref a1, .ref a2, .ref a3, .ref a4, .ref a5, .int n0_6, .int n0_7, .int n0_8, .int n0_9, .int n0_10, .long l0_11, .int n0_12, .int n0_13, .int n0_14, .int n0_15, .ref a6, .ref a7, .ref a8, .ref a9, .ref a10, .ref a11, .ref a12, .ref a13, .int (u.1 0), .int (u.1 1), .int (u.1 2), .int (u.1 3), .ref a14, .int n0_29, .int n0_30])), (a7, .inl (ct 0, 15, .inl f7)), (a8, .inl (ct 0, 200, .inl f8)), (a9, .inl (ct 0, 1000, .inl f9)), (a11, .inl (ct 0, 8, .inl (u.2.1 0))), (a12, .inl (ct 0, 8, .inl (u.2.1 1))), (a13, .inl (ct 0, 8, .inl (u.2.1 2)))]) u) t.heap) (aset [(a0, .inr (11, [.int n0_0, .ref a1, .ref a2, .ref a3, .ref a4, .ref a5, .int n0_6, .int n0_7, .int n0_8, .int n0_9, .int n0_10, .long l0_11, .int n0_12, .int n0_13, .int n0_14, .int n0_15, .ref a6, .ref a7, .ref a8, .ref a9, .ref a10, .ref a11, .ref a12, .ref a13, .int n0_24, .int n0_25, .int n0_26, .int n0_27, .ref a14, .int n0_29, .int n0_30])), (a7, .inl (ct 0, 15, .inl f7)), (a8, .inl (ct 0, 200, .inl f8)), (a9, .inl (ct 0, 1000, .inl f9)), (a11, .inl (ct 0, 8, .inl f11)), (a12, .inl (ct 0, 8, .inl f12)), (a13, .inl (ct 0, 8, .inl f13))])) 0 0 (aset [(a0, .inr (11, [.int n0_0, .ref a1, .ref a2, .ref a3, .ref a4, .ref a5, .int n0_6, .int n0_7, .int n0_8, .int n0_9, .int n0_10, .long l0_11, .int n0_12, .int n0_13, .int n0_14, .int n0_15, .ref a6, .ref a7, .ref a8, .ref a9, .ref a10, .ref a11, .ref a12, .ref a13, .int n0_24, .int n0_25, .int n0_26, .int n0_27, .ref a14, .int n0_29, .int n0_30])), (a7, .inl (ct 0, 15, .inl f7)), (a8, .inl (ct 0, 200, .inl f8)), (a9, .inl (ct 0, 1000, .inl f9)), (a11, .inl (ct 0, 8, .inl f11)), (a12, .inl (ct 0, 8, .inl f12)), (a13, .inl (ct 0, 8, .inl f13))]) := by
  refine Met.ofW (cc := cX11_coversOf) (maxL := 4) (ret := (some .int)) (by decide) rfl ?_
  intro p e s m args below meth c s₁ B hml hv
  obtain ⟨rfl, hP, hK, hD0⟩ := hv
  have hx := B.exec
  have hb := B.bytes
  have hr := B.returns
  have hts := atoms_spec (ws := wsX11_coversOf) B.pre
  have hown : s.vm.findClass RX11 = some m.cls := findClass_of_methodNamed B.named
  have hlocks := B.notSynchronized
  have hD := hD0.aself
  generalize hAe : aset [(a0, .inr (11, [.int n0_0, .ref a1, .ref a2, .ref a3, .ref a4, .ref a5, .int n0_6, .int n0_7, .int n0_8, .int n0_9, .int n0_10, .long l0_11, .int n0_12, .int n0_13, .int n0_14, .int n0_15, .ref a6, .ref a7, .ref a8, .ref a9, .ref a10, .ref a11, .ref a12, .ref a13, .int n0_24, .int n0_25, .int n0_26, .int n0_27, .ref a14, .int n0_29, .int n0_30])), (a7, .inl (ct 0, 15, .inl f7)), (a8, .inl (ct 0, 200, .inl f8)), (a9, .inl (ct 0, 1000, .inl f9)), (a11, .inl (ct 0, 8, .inl f11)), (a12, .inl (ct 0, 8, .inl f12)), (a13, .inl (ct 0, 8, .inl f13))] = A at hD ⊢
  have hS : va_S A s.heap s.heap [] := va_S.rf
  have hl := lv_entry ([.ref a0, .int p0]) (n := 4) (Nat.le_of_ble_eq_true rfl)
  rw [lg_entry_eq]
  generalize (lg_sl ([.ref a0, .int p0]) ++ List.replicate (4 - (lg_sl ([.ref a0, .int p0])).length) Slot.unset).toArray = ls at hl ⊢
  have hl : lv_has ls 4 [(0, .ref a0), (1, .int p0)] := hl
  refine lv_aload_n hx hb dX11_coversOf_0 rfl (lv_at hl 0 rfl) ?_
  refine wj_callv (wr := []) (w1 := (fun u : SU => [(a0, .inr (11, [.int n0_0, .ref a1, .ref a2, .ref a3, .ref a4, .ref a5, .int n0_6, .int n0_7, .int n0_8, .int n0_9, .int n0_10, .long l0_11, .int n0_12, .int n0_13, .int n0_14, .int n0_15, .ref a6, .ref a7, .ref a8, .ref a9, .ref a10, .ref a11, .ref a12, .ref a13, .int (u.1 0), .int (u.1 1), .int (u.1 2), .int (u.1 3), .ref a14, .int n0_29, .int n0_30])), (a7, .inl (ct 0, 15, .inl f7)), (a8, .inl (ct 0, 200, .inl f8)), (a9, .inl (ct 0, 1000, .inl f9)), (a11, .inl (ct 0, 8, .inl (u.2.1 0))), (a12, .inl (ct 0, 8, .inl (u.2.1 1))), (a13, .inl (ct 0, 8, .inl (u.2.1 2)))])) (va_runV (As := []) (rest := []) ⟨hx, hb, hml, hown, hts⟩ (a_X11_laysNow l G ct a0 n0_0 a1 a2 a3 a4 a5 n0_6 n0_7 n0_8 n0_9 n0_10 l0_11 n0_12 n0_13 n0_14 n0_15 a6 a7 a8 a9 a10 a11 a12 a13 n0_24 n0_25 n0_26 n0_27 a14 n0_29 n0_30 f7 f8 f9 f11 f12 f13 hp_n0_6 hp_f7 hp_f8 hp_f9 hp_f11 hp_f13) (cwV 0 hts gX11_coversOf_X11_laysNow rfl rfl rfl (by decide +kernel) ⟨Nat.le_of_ble_eq_true rfl, Nat.le_of_ble_eq_true rfl⟩) (wr_preV 11 0 hK (hP.sub [0, 1, 2, 3, 4, 5, 6] rfl) (hD.sub [0, 1, 2, 3, 4, 5, 6] (by decide) rfl) rfl rfl) rfl rfl hl.1 rfl (lv_room (Nat.le_of_ble_eq_true rfl)) dX11_coversOf_1 ⟨Nat.zero_le _, Nat.zero_le _⟩) hS hP hD [0, 1, 2, 3, 4, 5, 6] [] rfl rfl (by decide) (fun _ => rfl) (fun ur1 H locs wr1 hP hD hS => ?_)
  have hP : va_P G vwCl [(a0, .inr (11, [.int n0_0, .ref a1, .ref a2, .ref a3, .ref a4, .ref a5, .int n0_6, .int n0_7, .int n0_8, .int n0_9, .int n0_10, .long l0_11, .int n0_12, .int n0_13, .int n0_14, .int n0_15, .ref a6, .ref a7, .ref a8, .ref a9, .ref a10, .ref a11, .ref a12, .ref a13, .int (ur1.1 0), .int (ur1.1 1), .int (ur1.1 2), .int (ur1.1 3), .ref a14, .int n0_29, .int n0_30])), (a7, .inl (ct 0, 15, .inl f7)), (a8, .inl (ct 0, 200, .inl f8)), (a9, .inl (ct 0, 1000, .inl f9)), (a11, .inl (ct 0, 8, .inl (ur1.2.1 0))), (a12, .inl (ct 0, 8, .inl (ur1.2.1 1))), (a13, .inl (ct 0, 8, .inl (ur1.2.1 2)))] H := hP.sub [0, 1, 2, 3, 4, 5, 6] rfl
  have hD : va_D A [(a0, .inr (11, [.int n0_0, .ref a1, .ref a2, .ref a3, .ref a4, .ref a5, .int n0_6, .int n0_7, .int n0_8, .int n0_9, .int n0_10, .long l0_11, .int n0_12, .int n0_13, .int n0_14, .int n0_15, .ref a6, .ref a7, .ref a8, .ref a9, .ref a10, .ref a11, .ref a12, .ref a13, .int (ur1.1 0), .int (ur1.1 1), .int (ur1.1 2), .int (ur1.1 3), .ref a14, .int n0_29, .int n0_30])), (a7, .inl (ct 0, 15, .inl f7)), (a8, .inl (ct 0, 200, .inl f8)), (a9, .inl (ct 0, 1000, .inl f9)), (a11, .inl (ct 0, 8, .inl (ur1.2.1 0))), (a12, .inl (ct 0, 8, .inl (ur1.2.1 1))), (a13, .inl (ct 0, 8, .inl (ur1.2.1 2)))] := hD.sub [0, 1, 2, 3, 4, 5, 6] (by decide) rfl
  obtain ⟨p_1, p_2, -⟩ := wr1
  refine lv_iconst (v := (-1)) hx hb dX11_coversOf_4 (by decide) ?_
  refine lv_istore_n (lv' := [(2, .int (-1)), (0, .ref a0), (1, .int p0)]) hx hb dX11_coversOf_5 rfl hl (by decide) rfl (fun ls hl => ?_)
  refine lv_iconst (v := 0) hx hb dX11_coversOf_6 (by decide) ?_
  refine lv_istore_n (lv' := [(3, .int 0), (2, .int (-1)), (0, .ref a0), (1, .int p0)]) hx hb dX11_coversOf_7 rfl hl (by decide) rfl (fun ls hl => ?_)
  have j8 : ∀ (n : Nat) (x8_2 : Int32) (x8_3 : Int32) (H : Heap) (locs : List Loc) (ls : Array Slot), 2147483648 ≤ x8_3.toInt + (n : Int) → rg (-1) 255 x8_2 → rg 0 256 x8_3 → va_P G vwCl [(a0, .inr (11, [.int n0_0, .ref a1, .ref a2, .ref a3, .ref a4, .ref a5, .int n0_6, .int n0_7, .int n0_8, .int n0_9, .int n0_10, .long l0_11, .int n0_12, .int n0_13, .int n0_14, .int n0_15, .ref a6, .ref a7, .ref a8, .ref a9, .ref a10, .ref a11, .ref a12, .ref a13, .int (ur1.1 0), .int (ur1.1 1), .int (ur1.1 2), .int (ur1.1 3), .ref a14, .int n0_29, .int n0_30])), (a7, .inl (ct 0, 15, .inl f7)), (a8, .inl (ct 0, 200, .inl f8)), (a9, .inl (ct 0, 1000, .inl f9)), (a11, .inl (ct 0, 8, .inl (ur1.2.1 0))), (a12, .inl (ct 0, 8, .inl (ur1.2.1 1))), (a13, .inl (ct 0, 8, .inl (ur1.2.1 2)))] H → va_D A [(a0, .inr (11, [.int n0_0, .ref a1, .ref a2, .ref a3, .ref a4, .ref a5, .int n0_6, .int n0_7, .int n0_8, .int n0_9, .int n0_10, .long l0_11, .int n0_12, .int n0_13, .int n0_14, .int n0_15, .ref a6, .ref a7, .ref a8, .ref a9, .ref a10, .ref a11, .ref a12, .ref a13, .int (ur1.1 0), .int (ur1.1 1), .int (ur1.1 2), .int (ur1.1 3), .ref a14, .int n0_29, .int n0_30])), (a7, .inl (ct 0, 15, .inl f7)), (a8, .inl (ct 0, 200, .inl f8)), (a9, .inl (ct 0, 1000, .inl f9)), (a11, .inl (ct 0, 8, .inl (ur1.2.1 0))), (a12, .inl (ct 0, 8, .inl (ur1.2.1 1))), (a13, .inl (ct 0, 8, .inl (ur1.2.1 2)))] → va_S A s.heap H locs → lv_has ls 4 [(0, .ref a0), (1, .int p0), (2, .int x8_2), (3, .int x8_3)] → W p l e (headSpec wsX11_coversOf ({ frames := 5, cells := 0, slots := 0, locals := 111 })).room s m ([.ref a0, .int p0] : List Value).toArray below meth c H locs 0 0 (MQ below (va_Qi (fun (r : Int32) (u : SU) => rg (-1) 255 r ∧ ar (-1) 7 (u.2.1 0) ∧ ar (-1) 7 (u.2.1 2) ∧ True) (fun u t => va_P G vwCl ((fun u : SU => [(a0, .inr (11, [.int n0_0, .ref a1, .ref a2, .ref a3, .ref a4, .ref a5, .int n0_6, .int n0_7, .int n0_8, .int n0_9, .int n0_10, .long l0_11, .int n0_12, .int n0_13, .int n0_14, .int n0_15, .ref a6, .ref a7, .ref a8, .ref a9, .ref a10, .ref a11, .ref a12, .ref a13, .int (u.1 0), .int (u.1 1), .int (u.1 2), .int (u.1 3), .ref a14, .int n0_29, .int n0_30])), (a7, .inl (ct 0, 15, .inl f7)), (a8, .inl (ct 0, 200, .inl f8)), (a9, .inl (ct 0, 1000, .inl f9)), (a11, .inl (ct 0, 8, .inl (u.2.1 0))), (a12, .inl (ct 0, 8, .inl (u.2.1 1))), (a13, .inl (ct 0, 8, .inl (u.2.1 2)))]) u) t.heap) A) ([.ref a0, .int p0] : List Value).toArray s 0 0 A) (F0 m 8 ls []) := by
    intro n
    induction n with
    | zero => intro x8_2 x8_3 H locs ls hn8 hx8_2 hx8_3 hP hD hS hl; exact absurd hn8 (by have := Int32.toInt_lt x8_3; have := Int32.le_toInt x8_3; omega)
    | succ n ih8 =>
      intro x8_2 x8_3 H locs ls hn8 hx8_2 hx8_3 hP hD hS hl
      refine lv_iload_n hx hb dX11_coversOf_8 rfl (lv_at hl 3 rfl) ?_
      refine lv_iconst (v := 1) hx hb dX11_coversOf_9 (by decide) ?_
      refine lv_aload_n hx hb dX11_coversOf_10 rfl (lv_at hl 0 rfl) ?_
      refine va_get (D := G) (ci := 11) (v := .ref a7) (C := RX11) (T := TX11) (N := 31) hx hb hts (by decide +kernel) hown hK.1 hP 0 rfl rfl 17 (by decide) (hts (.fieldLink RX11 34 "CardHolderModel" "has" "[I") (by decide +kernel)) (fun _ h9 => h9) rfl dX11_coversOf_11 ?_
      refine lv_iconst (v := 1) hx hb dX11_coversOf_14 (by decide) ?_
      refine va_iald hx hb hK.1 hP 1 0 rfl rfl (in_lit (by decide)) dX11_coversOf_15 ?_
      refine lv_topi (fun z15 gz15 => ?_)
      have hz15 : rg 0 8 z15 := by rw [gz15]; exact (hp_f7.1 0)
      refine lv_ishl hx hb dX11_coversOf_16 ?_
      refine nm_shl (e1 := 1) (f := 256) hz15 (by decide) (fun z16 hz16 => ?_)
      refine lv_icmp_ge (tgt := 60) hx hb dX11_coversOf_17 (by decide) (fun c17 => ?_) (fun c17 => ?_)
      · have h_3 : rg 1 256 x8_3 := r_le_r_i c17 hz16 hx8_3
        refine lv_iload_n hx hb dX11_coversOf_60 rfl (lv_at hl 2 rfl) ?_
        exact W.iret (v := x8_2) hx hb hr (fun t ht hW => ⟨⟨x8_2, (fun k => ([ur1.1 0, ur1.1 1, ur1.1 2, ur1.1 3] : List Int32).getD k 0, fun k => ([ur1.2.1 0, ur1.2.1 1, ur1.2.1 2] : List (Nat → Int32)).getD k (fun _ => 0), fun k => ([] : List (Nat → Int64)).getD k (fun _ => 0)), rfl, ⟨hx8_2, p_1, p_2, trivial⟩, hp_at ht hP⟩, hS.F ht⟩) hS.2.2 dX11_coversOf_61
      · have h_4 : rg 0 255 x8_3 := r_lt_l_i (nle_i c17) hx8_3 hz16 (by decide)
        refine lv_iload_n hx hb dX11_coversOf_20 rfl (lv_at hl 2 rfl) ?_
        refine lv_iconst (v := (-1)) hx hb dX11_coversOf_21 (by decide) ?_
        have j54 : ∀ (x54_2 : Int32) (H : Heap) (locs : List Loc) (ls : Array Slot), rg (-1) 255 x54_2 → va_P G vwCl [(a0, .inr (11, [.int n0_0, .ref a1, .ref a2, .ref a3, .ref a4, .ref a5, .int n0_6, .int n0_7, .int n0_8, .int n0_9, .int n0_10, .long l0_11, .int n0_12, .int n0_13, .int n0_14, .int n0_15, .ref a6, .ref a7, .ref a8, .ref a9, .ref a10, .ref a11, .ref a12, .ref a13, .int (ur1.1 0), .int (ur1.1 1), .int (ur1.1 2), .int (ur1.1 3), .ref a14, .int n0_29, .int n0_30])), (a7, .inl (ct 0, 15, .inl f7)), (a8, .inl (ct 0, 200, .inl f8)), (a9, .inl (ct 0, 1000, .inl f9)), (a11, .inl (ct 0, 8, .inl (ur1.2.1 0))), (a12, .inl (ct 0, 8, .inl (ur1.2.1 1))), (a13, .inl (ct 0, 8, .inl (ur1.2.1 2)))] H → va_D A [(a0, .inr (11, [.int n0_0, .ref a1, .ref a2, .ref a3, .ref a4, .ref a5, .int n0_6, .int n0_7, .int n0_8, .int n0_9, .int n0_10, .long l0_11, .int n0_12, .int n0_13, .int n0_14, .int n0_15, .ref a6, .ref a7, .ref a8, .ref a9, .ref a10, .ref a11, .ref a12, .ref a13, .int (ur1.1 0), .int (ur1.1 1), .int (ur1.1 2), .int (ur1.1 3), .ref a14, .int n0_29, .int n0_30])), (a7, .inl (ct 0, 15, .inl f7)), (a8, .inl (ct 0, 200, .inl f8)), (a9, .inl (ct 0, 1000, .inl f9)), (a11, .inl (ct 0, 8, .inl (ur1.2.1 0))), (a12, .inl (ct 0, 8, .inl (ur1.2.1 1))), (a13, .inl (ct 0, 8, .inl (ur1.2.1 2)))] → va_S A s.heap H locs → lv_has ls 4 [(0, .ref a0), (1, .int p0), (2, .int x54_2), (3, .int x8_3)] → W p l e (headSpec wsX11_coversOf ({ frames := 5, cells := 0, slots := 0, locals := 111 })).room s m ([.ref a0, .int p0] : List Value).toArray below meth c H locs 0 0 (MQ below (va_Qi (fun (r : Int32) (u : SU) => rg (-1) 255 r ∧ ar (-1) 7 (u.2.1 0) ∧ ar (-1) 7 (u.2.1 2) ∧ True) (fun u t => va_P G vwCl ((fun u : SU => [(a0, .inr (11, [.int n0_0, .ref a1, .ref a2, .ref a3, .ref a4, .ref a5, .int n0_6, .int n0_7, .int n0_8, .int n0_9, .int n0_10, .long l0_11, .int n0_12, .int n0_13, .int n0_14, .int n0_15, .ref a6, .ref a7, .ref a8, .ref a9, .ref a10, .ref a11, .ref a12, .ref a13, .int (u.1 0), .int (u.1 1), .int (u.1 2), .int (u.1 3), .ref a14, .int n0_29, .int n0_30])), (a7, .inl (ct 0, 15, .inl f7)), (a8, .inl (ct 0, 200, .inl f8)), (a9, .inl (ct 0, 1000, .inl f9)), (a11, .inl (ct 0, 8, .inl (u.2.1 0))), (a12, .inl (ct 0, 8, .inl (u.2.1 1))), (a13, .inl (ct 0, 8, .inl (u.2.1 2)))]) u) t.heap) A) ([.ref a0, .int p0] : List Value).toArray s 0 0 A) (F0 m 54 ls []) := by
          intro x54_2 H locs ls hx54_2 hP hD hS hl
          obtain ⟨z54, qz54⟩ : ∃ y : Int32, y = x8_3 + Int32.ofInt 1 := ⟨_, rfl⟩
          obtain ⟨hz54, ez54⟩ := inc_z (e := 1) (f := 256) h_4 qz54 (by decide)
          refine lv_iinc (v := z54) (lv' := [(3, .int z54), (0, .ref a0), (1, .int p0), (2, .int x54_2)]) hx hb dX11_coversOf_54 hl (k := 3) rfl (qz54.symm) (by decide) rfl (fun ls hl => ?_)
          refine lv_goto (tgt := 8) hx hb dX11_coversOf_57 (by decide) ?_
          exact ih8 x54_2 z54 _ _ ls (by have q := hn8; have := ez54; omega) hx54_2 (rg_w (c := 0) (d := 256) hz54 (by decide)) hP hD hS (lv_sub hl [1, 2, 3, 0] rfl)
        have j36 : ∀ (H : Heap) (locs : List Loc) (ls : Array Slot), va_P G vwCl [(a0, .inr (11, [.int n0_0, .ref a1, .ref a2, .ref a3, .ref a4, .ref a5, .int n0_6, .int n0_7, .int n0_8, .int n0_9, .int n0_10, .long l0_11, .int n0_12, .int n0_13, .int n0_14, .int n0_15, .ref a6, .ref a7, .ref a8, .ref a9, .ref a10, .ref a11, .ref a12, .ref a13, .int (ur1.1 0), .int (ur1.1 1), .int (ur1.1 2), .int (ur1.1 3), .ref a14, .int n0_29, .int n0_30])), (a7, .inl (ct 0, 15, .inl f7)), (a8, .inl (ct 0, 200, .inl f8)), (a9, .inl (ct 0, 1000, .inl f9)), (a11, .inl (ct 0, 8, .inl (ur1.2.1 0))), (a12, .inl (ct 0, 8, .inl (ur1.2.1 1))), (a13, .inl (ct 0, 8, .inl (ur1.2.1 2)))] H → va_D A [(a0, .inr (11, [.int n0_0, .ref a1, .ref a2, .ref a3, .ref a4, .ref a5, .int n0_6, .int n0_7, .int n0_8, .int n0_9, .int n0_10, .long l0_11, .int n0_12, .int n0_13, .int n0_14, .int n0_15, .ref a6, .ref a7, .ref a8, .ref a9, .ref a10, .ref a11, .ref a12, .ref a13, .int (ur1.1 0), .int (ur1.1 1), .int (ur1.1 2), .int (ur1.1 3), .ref a14, .int n0_29, .int n0_30])), (a7, .inl (ct 0, 15, .inl f7)), (a8, .inl (ct 0, 200, .inl f8)), (a9, .inl (ct 0, 1000, .inl f9)), (a11, .inl (ct 0, 8, .inl (ur1.2.1 0))), (a12, .inl (ct 0, 8, .inl (ur1.2.1 1))), (a13, .inl (ct 0, 8, .inl (ur1.2.1 2)))] → va_S A s.heap H locs → lv_has ls 4 [(0, .ref a0), (1, .int p0), (2, .int x8_2), (3, .int x8_3)] → W p l e (headSpec wsX11_coversOf ({ frames := 5, cells := 0, slots := 0, locals := 111 })).room s m ([.ref a0, .int p0] : List Value).toArray below meth c H locs 0 0 (MQ below (va_Qi (fun (r : Int32) (u : SU) => rg (-1) 255 r ∧ ar (-1) 7 (u.2.1 0) ∧ ar (-1) 7 (u.2.1 2) ∧ True) (fun u t => va_P G vwCl ((fun u : SU => [(a0, .inr (11, [.int n0_0, .ref a1, .ref a2, .ref a3, .ref a4, .ref a5, .int n0_6, .int n0_7, .int n0_8, .int n0_9, .int n0_10, .long l0_11, .int n0_12, .int n0_13, .int n0_14, .int n0_15, .ref a6, .ref a7, .ref a8, .ref a9, .ref a10, .ref a11, .ref a12, .ref a13, .int (u.1 0), .int (u.1 1), .int (u.1 2), .int (u.1 3), .ref a14, .int n0_29, .int n0_30])), (a7, .inl (ct 0, 15, .inl f7)), (a8, .inl (ct 0, 200, .inl f8)), (a9, .inl (ct 0, 1000, .inl f9)), (a11, .inl (ct 0, 8, .inl (u.2.1 0))), (a12, .inl (ct 0, 8, .inl (u.2.1 1))), (a13, .inl (ct 0, 8, .inl (u.2.1 2)))]) u) t.heap) A) ([.ref a0, .int p0] : List Value).toArray s 0 0 A) (F0 m 36 ls []) := by
          intro  H locs ls  hP hD hS hl
          refine lv_iload_n hx hb dX11_coversOf_36 rfl (lv_at hl 1 rfl) ?_
          refine lv_aload_n hx hb dX11_coversOf_37 rfl (lv_at hl 0 rfl) ?_
          refine lv_aload_n hx hb dX11_coversOf_38 rfl (lv_at hl 0 rfl) ?_
          refine lv_iload_n hx hb dX11_coversOf_39 rfl (lv_at hl 3 rfl) ?_
          refine ro_calli (va_runV (As := [.int x8_3]) (rest := [.ref a0, .int p0]) ⟨hx, hb, hml, hown, hts⟩ (a_X11_handsOf l G ct a0 n0_0 a1 a2 a3 a4 a5 n0_6 n0_7 n0_8 n0_9 n0_10 l0_11 n0_12 n0_13 n0_14 n0_15 a6 a7 a8 a9 a10 a11 a12 a13 (ur1.1 0) (ur1.1 1) (ur1.1 2) (ur1.1 3) a14 n0_29 n0_30 f7 (ur1.2.1 0) x8_3 hp_n0_6 hp_f7 p_1) (cwV 1 hts gX11_coversOf_X11_handsOf rfl rfl rfl (by decide +kernel) ⟨Nat.le_of_ble_eq_true rfl, Nat.le_of_ble_eq_true rfl⟩) (ro_preV 11 0 hK (hP.sub [0, 1, 4] rfl) rfl rfl) rfl rfl hl.1 rfl (lv_room (Nat.le_of_ble_eq_true rfl)) dX11_coversOf_40 ⟨Nat.zero_le _, Nat.zero_le _⟩) hS hP (fun r40 H locs wr40 hP hS => ?_)
          obtain ⟨p_5, -⟩ := wr40
          refine ro_calli (va_runV (As := [.int r40]) (rest := [.int p0]) ⟨hx, hb, hml, hown, hts⟩ (a_X11_doneBy l G ct a0 n0_0 a1 a2 a3 a4 a5 n0_6 n0_7 n0_8 n0_9 n0_10 l0_11 n0_12 n0_13 n0_14 n0_15 a6 a7 a8 a9 a10 a11 a12 a13 (ur1.1 0) (ur1.1 1) (ur1.1 2) (ur1.1 3) a14 n0_29 n0_30 f7 f8 r40 hp_n0_6 hp_f7 hp_f8) (cwV 1 hts gX11_coversOf_X11_doneBy rfl rfl rfl (by decide +kernel) ⟨Nat.le_of_ble_eq_true rfl, Nat.le_of_ble_eq_true rfl⟩) (ro_preV 11 0 hK (hP.sub [0, 1, 2] rfl) rfl rfl) rfl rfl hl.1 rfl (lv_room (Nat.le_of_ble_eq_true rfl)) dX11_coversOf_43 ⟨Nat.zero_le _, Nat.zero_le _⟩) hS hP (fun r43 H locs wr43 hP hS => ?_)
          refine lv_iconst (v := (-1)) hx hb dX11_coversOf_46 (by decide) ?_
          refine lv_ixor hx hb dX11_coversOf_47 ?_
          refine nm_0 (fun z47 => ?_)
          refine lv_iand hx hb dX11_coversOf_48 ?_
          refine nm_0 (fun z48 => ?_)
          refine lv_if_ne (tgt := 54) hx hb dX11_coversOf_49 (by decide) (fun c49 => ?_) (fun c49 => ?_)
          · exact j54 x8_2 _ _ ls hx8_2 hP hD hS (lv_sub hl [0, 1, 2, 3] rfl)
          · have h_6 : rg 0 0 z48 := r_eq_l_i (e := 0) (f := 0) c49 (rg_t z48) (rgn 0 (x := 0) (by decide)) (by decide)
            refine lv_iload_n hx hb dX11_coversOf_52 rfl (lv_at hl 3 rfl) ?_
            refine lv_istore_n (lv' := [(2, .int x8_3), (0, .ref a0), (1, .int p0), (3, .int x8_3)]) hx hb dX11_coversOf_53 rfl hl (by decide) rfl (fun ls hl => ?_)
            exact j54 x8_3 _ _ ls (rg_w (c := (-1)) (d := 255) h_4 (by decide)) hP hD hS (lv_sub hl [1, 2, 0, 3] rfl)
        refine lv_icmp_eq (tgt := 36) hx hb dX11_coversOf_22 (by decide) (fun c22 => ?_) (fun c22 => ?_)
        · have h_7 : rg (-1) (-1) x8_2 := r_eq_l_i (e := (-1)) (f := (-1)) c22 hx8_2 (rgn (-1) (x := (-1)) (by decide)) (by decide)
          exact j36 _ _ ls hP hD hS (lv_sub hl [0, 1, 2, 3] rfl)
        · have h_8 : rg 0 255 x8_2 := r_ne_lo_i c22 hx8_2 (by decide) (by decide)
          refine lv_iload_n hx hb dX11_coversOf_25 rfl (lv_at hl 3 rfl) ?_
          refine ro_calli (va_runS (As := [.int x8_3]) (rest := []) ⟨hx, hb, hml, hown, hts⟩ (a_X11_sizeOf l G ct x8_3) (va_cwS 1 hts gX11_coversOf_X11_sizeOf rfl rfl rfl (by decide +kernel) ⟨Nat.le_of_ble_eq_true rfl, Nat.le_of_ble_eq_true rfl⟩) (ro_pre hK (hP.sub [] rfl)) rfl rfl hl.1 rfl (lv_room (Nat.le_of_ble_eq_true rfl)) dX11_coversOf_26 ⟨Nat.zero_le _, Nat.zero_le _⟩) hS hP (fun r26 H locs wr26 hP hS => ?_)
          refine lv_iload_n hx hb dX11_coversOf_29 rfl (lv_at hl 2 rfl) ?_
          refine ro_calli (va_runS (As := [.int x8_2]) (rest := [.int r26]) ⟨hx, hb, hml, hown, hts⟩ (a_X11_sizeOf l G ct x8_2) (va_cwS 1 hts gX11_coversOf_X11_sizeOf rfl rfl rfl (by decide +kernel) ⟨Nat.le_of_ble_eq_true rfl, Nat.le_of_ble_eq_true rfl⟩) (ro_pre hK (hP.sub [] rfl)) rfl rfl hl.1 rfl (lv_room (Nat.le_of_ble_eq_true rfl)) dX11_coversOf_30 ⟨Nat.zero_le _, Nat.zero_le _⟩) hS hP (fun r30 H locs wr30 hP hS => ?_)
          refine lv_icmp_ge (tgt := 54) hx hb dX11_coversOf_33 (by decide) (fun c33 => ?_) (fun c33 => ?_)
          · exact j54 x8_2 _ _ ls (rg_w (c := (-1)) (d := 255) h_8 (by decide)) hP hD hS (lv_sub hl [0, 1, 2, 3] rfl)
          · have h_9 : rg (-2147483648) 2147483646 r26 := r_lt_l_i (nle_i c33) (rg_t r26) (rg_t r30) (by decide)
            have h_10 : rg (-2147483647) 2147483647 r30 := r_lt_r_i (nle_i c33) (rg_t r26) (rg_t r30) (by decide)
            exact j36 _ _ ls hP hD hS (lv_sub hl [0, 1, 2, 3] rfl)
  exact j8 4294967296 ((-1) : Int32) (0 : Int32) _ _ ls (ms_e (0 : Int32)) (rg_w (c := (-1)) (d := 255) (rgn (-1) (x := (-1)) (by decide)) (by decide)) (rg_w (c := 0) (d := 256) (rgn 0 (x := 0) (by decide)) (by decide)) hP hD hS (lv_sub hl [2, 3, 1, 0] rfl)
