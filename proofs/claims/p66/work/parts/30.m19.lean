theorem dX11_personLine_0 : decode cX11_personLine 0 = .ok (.iconst 5, 1) := by decide +kernel
theorem dX11_personLine_1 : decode cX11_personLine 1 = .ok (.bipush 32, 2) := by decide +kernel
theorem dX11_personLine_3 : decode cX11_personLine 3 = .ok (.aload_n 0, 1) := by decide +kernel
theorem dX11_personLine_4 : decode cX11_personLine 4 = .ok (.iconst 1, 1) := by decide +kernel
set_option maxRecDepth 20000 in
theorem ggX11_personLine_X11_hasRead : GoodIn wsX11_personLine wsX11_hasRead := goodIn_r _ [10, 11, 72, 73, 74, 75, 76, 77, 78, 79, 80, 81, 82, 83, 84, 85, 86, 87, 88, 89, 90, 91, 92, 93, 94, 95, 96, 97, 98, 99, 100, 101, 102] (by rfl) (by decide +kernel)
set_option maxRecDepth 20000 in
theorem gX11_personLine_X11_hasRead : GoodIn wsX11_personLine (wsV RX11 145 RX11 yX11_hasRead wsX11_hasRead) := goodIn_app (goodIn_r _ [6, 7, 8, 9] (by rfl) (by decide +kernel)) ggX11_personLine_X11_hasRead
theorem dX11_personLine_5 : decode cX11_personLine 5 = .ok (.invokevirtual 145, 3) := by decide +kernel
theorem dX11_personLine_8 : decode cX11_personLine 8 = .ok (.iadd, 1) := by decide +kernel
theorem dX11_personLine_9 : decode cX11_personLine 9 = .ok (.imul, 1) := by decide +kernel
theorem dX11_personLine_10 : decode cX11_personLine 10 = .ok (.istore_n 1, 1) := by decide +kernel
theorem dX11_personLine_11 : decode cX11_personLine 11 = .ok (.aload_n 0, 1) := by decide +kernel
theorem dX11_personLine_12 : decode cX11_personLine 12 = .ok (.getfield 37, 3) := by decide +kernel
theorem dX11_personLine_15 : decode cX11_personLine 15 = .ok (.iload_n 1, 1) := by decide +kernel
theorem dX11_personLine_16 : decode cX11_personLine 16 = .ok (.aload_n 0, 1) := by decide +kernel
theorem dX11_personLine_17 : decode cX11_personLine 17 = .ok (.ldc2_w 149, 3) := by decide +kernel
theorem dX11_personLine_20 : decode cX11_personLine 20 = .ok (.iconst 1, 1) := by decide +kernel
theorem dX11_personLine_21 : decode cX11_personLine 21 = .ok (.sipush 999, 3) := by decide +kernel
set_option maxRecDepth 20000 in
theorem ggX11_personLine_X11_number_ : GoodIn wsX11_personLine wsX11_number_ := goodIn_r _ [15, 16, 17, 18, 9, 19, 20, 21, 22, 23, 24, 25, 26, 27, 3, 28, 29, 30, 31, 32, 33, 34, 35, 36, 37, 38, 39, 40, 41, 42, 43, 44, 45, 46, 47, 48, 49, 50, 51, 52, 53, 54, 55, 56, 57, 58, 59, 72, 73, 74, 75, 76, 77, 78, 79, 80, 81, 82, 83, 84, 85, 86, 87, 88, 89, 90, 91, 92, 93, 94, 95, 96, 97, 98, 99, 100, 101, 102] (by rfl) (by decide +kernel)
set_option maxRecDepth 20000 in
theorem gX11_personLine_X11_number_ : GoodIn wsX11_personLine (wsV RX11 151 RX11 yX11_number_ wsX11_number_) := goodIn_app (goodIn_r _ [12, 13, 14, 9] (by rfl) (by decide +kernel)) ggX11_personLine_X11_number_
theorem dX11_personLine_24 : decode cX11_personLine 24 = .ok (.invokevirtual 151, 3) := by decide +kernel
theorem dX11_personLine_27 : decode cX11_personLine 27 = .ok (.iastore, 1) := by decide +kernel
theorem dX11_personLine_28 : decode cX11_personLine 28 = .ok (.aload_n 0, 1) := by decide +kernel
theorem dX11_personLine_29 : decode cX11_personLine 29 = .ok (.getfield 37, 3) := by decide +kernel
theorem dX11_personLine_32 : decode cX11_personLine 32 = .ok (.iload_n 1, 1) := by decide +kernel
theorem dX11_personLine_33 : decode cX11_personLine 33 = .ok (.iconst 1, 1) := by decide +kernel
theorem dX11_personLine_34 : decode cX11_personLine 34 = .ok (.iadd, 1) := by decide +kernel
theorem dX11_personLine_35 : decode cX11_personLine 35 = .ok (.aload_n 0, 1) := by decide +kernel
theorem dX11_personLine_36 : decode cX11_personLine 36 = .ok (.getfield 111, 3) := by decide +kernel
theorem dX11_personLine_60 : decode cX11_personLine 60 = .ok (.iastore, 1) := by decide +kernel
theorem dX11_personLine_61 : decode cX11_personLine 61 = .ok (.aload_n 0, 1) := by decide +kernel
theorem dX11_personLine_62 : decode cX11_personLine 62 = .ok (.getfield 37, 3) := by decide +kernel
theorem dX11_personLine_65 : decode cX11_personLine 65 = .ok (.iload_n 1, 1) := by decide +kernel
theorem dX11_personLine_66 : decode cX11_personLine 66 = .ok (.iconst 2, 1) := by decide +kernel
theorem dX11_personLine_67 : decode cX11_personLine 67 = .ok (.iadd, 1) := by decide +kernel
theorem dX11_personLine_68 : decode cX11_personLine 68 = .ok (.aload_n 0, 1) := by decide +kernel
theorem dX11_personLine_69 : decode cX11_personLine 69 = .ok (.getfield 111, 3) := by decide +kernel
theorem dX11_personLine_93 : decode cX11_personLine 93 = .ok (.iastore, 1) := by decide +kernel
theorem dX11_personLine_94 : decode cX11_personLine 94 = .ok (.aload_n 0, 1) := by decide +kernel
theorem dX11_personLine_95 : decode cX11_personLine 95 = .ok (.getfield 37, 3) := by decide +kernel
theorem dX11_personLine_98 : decode cX11_personLine 98 = .ok (.iload_n 1, 1) := by decide +kernel
theorem dX11_personLine_99 : decode cX11_personLine 99 = .ok (.iconst 3, 1) := by decide +kernel
theorem dX11_personLine_100 : decode cX11_personLine 100 = .ok (.iadd, 1) := by decide +kernel
theorem dX11_personLine_101 : decode cX11_personLine 101 = .ok (.iconst (-1), 1) := by decide +kernel
theorem dX11_personLine_102 : decode cX11_personLine 102 = .ok (.iastore, 1) := by decide +kernel
theorem dX11_personLine_103 : decode cX11_personLine 103 = .ok (.aload_n 0, 1) := by decide +kernel
theorem dX11_personLine_104 : decode cX11_personLine 104 = .ok (.getfield 37, 3) := by decide +kernel
theorem dX11_personLine_107 : decode cX11_personLine 107 = .ok (.iload_n 1, 1) := by decide +kernel
theorem dX11_personLine_108 : decode cX11_personLine 108 = .ok (.iconst 4, 1) := by decide +kernel
theorem dX11_personLine_109 : decode cX11_personLine 109 = .ok (.iadd, 1) := by decide +kernel
theorem dX11_personLine_110 : decode cX11_personLine 110 = .ok (.iconst 0, 1) := by decide +kernel
theorem dX11_personLine_111 : decode cX11_personLine 111 = .ok (.iastore, 1) := by decide +kernel
theorem dX11_personLine_112 : decode cX11_personLine 112 = .ok (.aload_n 0, 1) := by decide +kernel
theorem dX11_personLine_113 : decode cX11_personLine 113 = .ok (.iconst 1, 1) := by decide +kernel
theorem dX11_personLine_114 : decode cX11_personLine 114 = .ok (.aload_n 0, 1) := by decide +kernel
theorem dX11_personLine_115 : decode cX11_personLine 115 = .ok (.iconst 1, 1) := by decide +kernel
theorem dX11_personLine_116 : decode cX11_personLine 116 = .ok (.invokevirtual 145, 3) := by decide +kernel
theorem dX11_personLine_119 : decode cX11_personLine 119 = .ok (.iconst 1, 1) := by decide +kernel
theorem dX11_personLine_120 : decode cX11_personLine 120 = .ok (.iadd, 1) := by decide +kernel
set_option maxRecDepth 20000 in
theorem ggX11_personLine_X11_tells : GoodIn wsX11_personLine wsX11_tells := goodIn_r _ [71, 11, 72, 73, 74, 75, 76, 77, 78, 79, 80, 81, 82, 83, 84, 85, 86, 87, 88, 89, 90, 91, 92, 93, 94, 95, 96, 97, 98, 99, 100, 101, 102] (by rfl) (by decide +kernel)
set_option maxRecDepth 20000 in
theorem gX11_personLine_X11_tells : GoodIn wsX11_personLine (wsV RX11 162 RX11 yX11_tells wsX11_tells) := goodIn_app (goodIn_r _ [68, 69, 70, 9] (by rfl) (by decide +kernel)) ggX11_personLine_X11_tells
theorem dX11_personLine_121 : decode cX11_personLine 121 = .ok (.invokevirtual 162, 3) := by decide +kernel
theorem dX11_personLine_124 : decode cX11_personLine 124 = .ok (.return_, 1) := by decide +kernel
theorem dX11_personLine_92 : decode cX11_personLine 92 = .ok (.iconst 0, 1) := by decide +kernel
theorem dX11_personLine_72 : decode cX11_personLine 72 = .ok (.ifCond .ne 20, 3) := by decide +kernel
theorem dX11_personLine_75 : decode cX11_personLine 75 = .ok (.aload_n 0, 1) := by decide +kernel
theorem dX11_personLine_76 : decode cX11_personLine 76 = .ok (.ldc2_w 160, 3) := by decide +kernel
set_option maxRecDepth 20000 in
theorem ggX11_personLine_X11_takes : GoodIn wsX11_personLine wsX11_takes := goodIn_r _ [23, 24, 25, 26, 9, 27, 3, 28, 29, 30, 31, 32, 33, 34, 35, 36, 37, 38, 39, 40, 41, 42, 43, 44, 45, 46, 47, 72, 73, 74, 75, 76, 77, 78, 79, 80, 81, 82, 83, 84, 85, 86, 87, 88, 89, 90, 91, 92, 93, 94, 95, 96, 97, 98, 99, 100, 101, 102] (by rfl) (by decide +kernel)
set_option maxRecDepth 20000 in
theorem gX11_personLine_X11_takes : GoodIn wsX11_personLine (wsV RX11 124 RX11 yX11_takes wsX11_takes) := goodIn_app (goodIn_r _ [20, 21, 22, 9] (by rfl) (by decide +kernel)) ggX11_personLine_X11_takes
theorem dX11_personLine_79 : decode cX11_personLine 79 = .ok (.invokevirtual 124, 3) := by decide +kernel
theorem dX11_personLine_82 : decode cX11_personLine 82 = .ok (.ifCond .eq 10, 3) := by decide +kernel
theorem dX11_personLine_85 : decode cX11_personLine 85 = .ok (.aload_n 0, 1) := by decide +kernel
set_option maxRecDepth 20000 in
theorem ggX11_personLine_X11_deedsHere : GoodIn wsX11_personLine wsX11_deedsHere := goodIn_r _ [63, 28, 53, 54, 55, 9, 56, 3, 36, 48, 49, 50, 51, 35, 52, 57, 58, 59, 30, 31, 32, 33, 34, 29, 37, 38, 39, 40, 41, 42, 43, 44, 45, 46, 47, 64, 65, 66, 67, 72, 73, 74, 75, 76, 77, 78, 79, 80, 81, 82, 83, 84, 85, 86, 87, 88, 89, 90, 91, 92, 93, 94, 95, 96, 97, 98, 99, 100, 101, 102] (by rfl) (by decide +kernel)
set_option maxRecDepth 20000 in
theorem gX11_personLine_X11_deedsHere : GoodIn wsX11_personLine (wsV RX11 156 RX11 yX11_deedsHere wsX11_deedsHere) := goodIn_app (goodIn_r _ [60, 61, 62, 9] (by rfl) (by decide +kernel)) ggX11_personLine_X11_deedsHere
theorem dX11_personLine_86 : decode cX11_personLine 86 = .ok (.invokevirtual 156, 3) := by decide +kernel
theorem dX11_personLine_89 : decode cX11_personLine 89 = .ok (.goto 4, 3) := by decide +kernel
theorem dX11_personLine_59 : decode cX11_personLine 59 = .ok (.iconst 0, 1) := by decide +kernel
theorem dX11_personLine_39 : decode cX11_personLine 39 = .ok (.ifCond .ne 20, 3) := by decide +kernel
theorem dX11_personLine_42 : decode cX11_personLine 42 = .ok (.aload_n 0, 1) := by decide +kernel
theorem dX11_personLine_43 : decode cX11_personLine 43 = .ok (.ldc2_w 154, 3) := by decide +kernel
theorem dX11_personLine_46 : decode cX11_personLine 46 = .ok (.invokevirtual 124, 3) := by decide +kernel
theorem dX11_personLine_49 : decode cX11_personLine 49 = .ok (.ifCond .eq 10, 3) := by decide +kernel
theorem dX11_personLine_52 : decode cX11_personLine 52 = .ok (.aload_n 0, 1) := by decide +kernel
theorem dX11_personLine_53 : decode cX11_personLine 53 = .ok (.invokevirtual 156, 3) := by decide +kernel
theorem dX11_personLine_56 : decode cX11_personLine 56 = .ok (.goto 4, 3) := by decide +kernel
theorem dX11_cardLine_0 : decode cX11_cardLine 0 = .ok (.aload_n 0, 1) := by decide +kernel
theorem dX11_cardLine_1 : decode cX11_cardLine 1 = .ok (.getfield 111, 3) := by decide +kernel
theorem dX11_cardLine_52 : decode cX11_cardLine 52 = .ok (.aload_n 0, 1) := by decide +kernel
theorem dX11_cardLine_53 : decode cX11_cardLine 53 = .ok (.iconst 0, 1) := by decide +kernel
theorem dX11_cardLine_54 : decode cX11_cardLine 54 = .ok (.aload_n 0, 1) := by decide +kernel
theorem dX11_cardLine_55 : decode cX11_cardLine 55 = .ok (.iconst 1, 1) := by decide +kernel
set_option maxRecDepth 20000 in
theorem ggX11_cardLine_X11_hasRead : GoodIn wsX11_cardLine wsX11_hasRead := goodIn_r _ [11, 12, 59, 60, 61, 62, 63, 64, 65, 66, 67, 68, 69, 70, 71, 72, 73, 74, 75, 76, 77, 78, 79, 80, 81, 82, 83, 84, 85, 86, 87, 88, 89] (by rfl) (by decide +kernel)
set_option maxRecDepth 20000 in
theorem gX11_cardLine_X11_hasRead : GoodIn wsX11_cardLine (wsV RX11 145 RX11 yX11_hasRead wsX11_hasRead) := goodIn_app (goodIn_r _ [7, 8, 9, 10] (by rfl) (by decide +kernel)) ggX11_cardLine_X11_hasRead
theorem dX11_cardLine_56 : decode cX11_cardLine 56 = .ok (.invokevirtual 145, 3) := by decide +kernel
theorem dX11_cardLine_59 : decode cX11_cardLine 59 = .ok (.iconst 1, 1) := by decide +kernel
theorem dX11_cardLine_60 : decode cX11_cardLine 60 = .ok (.isub, 1) := by decide +kernel
set_option maxRecDepth 20000 in
theorem ggX11_cardLine_X11_number : GoodIn wsX11_cardLine wsX11_number := goodIn_r _ [22, 1, 2, 3, 13, 14, 15, 10, 16, 17, 18, 23, 24, 25, 26, 27, 28, 29, 30, 31, 32, 33, 34, 35, 36, 37, 38, 39, 40, 41, 42, 59, 60, 61, 62, 63, 64, 65, 66, 67, 68, 69, 70, 71, 72, 73, 74, 75, 76, 77, 78, 79, 80, 81, 82, 83, 84, 85, 86, 87, 88, 89] (by rfl) (by decide +kernel)
set_option maxRecDepth 20000 in
theorem gX11_cardLine_X11_number : GoodIn wsX11_cardLine (wsV RX11 134 RX11 yX11_number wsX11_number) := goodIn_app (goodIn_r _ [19, 20, 21, 10] (by rfl) (by decide +kernel)) ggX11_cardLine_X11_number
theorem dX11_cardLine_61 : decode cX11_cardLine 61 = .ok (.invokevirtual 134, 3) := by decide +kernel
theorem dX11_cardLine_64 : decode cX11_cardLine 64 = .ok (.istore_n 1, 1) := by decide +kernel
theorem dX11_cardLine_65 : decode cX11_cardLine 65 = .ok (.aload_n 0, 1) := by decide +kernel
theorem dX11_cardLine_66 : decode cX11_cardLine 66 = .ok (.ldc2_w 166, 3) := by decide +kernel
set_option maxRecDepth 20000 in
theorem ggX11_cardLine_X11_asks : GoodIn wsX11_cardLine wsX11_asks := goodIn_r _ [46, 47, 48, 49, 10, 50, 51, 52, 53, 54, 1, 2, 31, 26, 27, 28, 29, 30, 17, 3, 32, 33, 34, 35, 36, 37, 38, 39, 40, 41, 42, 13, 14, 15, 16, 18, 59, 60, 61, 62, 63, 64, 65, 66, 67, 68, 69, 70, 71, 72, 73, 74, 75, 76, 77, 78, 79, 80, 81, 82, 83, 84, 85, 86, 87, 88, 89] (by rfl) (by decide +kernel)
set_option maxRecDepth 20000 in
theorem gX11_cardLine_X11_asks : GoodIn wsX11_cardLine (wsV RX11 130 RX11 yX11_asks wsX11_asks) := goodIn_app (goodIn_r _ [43, 44, 45, 10] (by rfl) (by decide +kernel)) ggX11_cardLine_X11_asks
theorem dX11_cardLine_69 : decode cX11_cardLine 69 = .ok (.invokevirtual 130, 3) := by decide +kernel
theorem dX11_cardLine_72 : decode cX11_cardLine 72 = .ok (.aload_n 0, 1) := by decide +kernel
theorem dX11_cardLine_73 : decode cX11_cardLine 73 = .ok (.iconst 0, 1) := by decide +kernel
theorem dX11_cardLine_74 : decode cX11_cardLine 74 = .ok (.aload_n 0, 1) := by decide +kernel
theorem dX11_cardLine_75 : decode cX11_cardLine 75 = .ok (.iconst 1, 1) := by decide +kernel
theorem dX11_cardLine_76 : decode cX11_cardLine 76 = .ok (.invokevirtual 145, 3) := by decide +kernel
theorem dX11_cardLine_79 : decode cX11_cardLine 79 = .ok (.iconst 1, 1) := by decide +kernel
theorem dX11_cardLine_80 : decode cX11_cardLine 80 = .ok (.isub, 1) := by decide +kernel
theorem dX11_cardLine_81 : decode cX11_cardLine 81 = .ok (.invokevirtual 134, 3) := by decide +kernel
theorem dX11_cardLine_84 : decode cX11_cardLine 84 = .ok (.istore_n 2, 1) := by decide +kernel
theorem dX11_cardLine_85 : decode cX11_cardLine 85 = .ok (.aload_n 0, 1) := by decide +kernel
theorem dX11_cardLine_86 : decode cX11_cardLine 86 = .ok (.getfield 111, 3) := by decide +kernel
theorem dX11_cardLine_107 : decode cX11_cardLine 107 = .ok (.istore_n 3, 1) := by decide +kernel
theorem dX11_cardLine_108 : decode cX11_cardLine 108 = .ok (.aload_n 0, 1) := by decide +kernel
set_option maxRecDepth 20000 in
theorem ggX11_cardLine_X11_isGood : GoodIn wsX11_cardLine wsX11_isGood := goodIn_r _ [58, 1, 59, 60, 61, 62, 63, 64, 65, 66, 67, 68, 69, 70, 71, 72, 73, 74, 75, 76, 77, 78, 79, 80, 81, 82, 83, 84, 85, 86, 87, 88, 89] (by rfl) (by decide +kernel)
set_option maxRecDepth 20000 in
theorem gX11_cardLine_X11_isGood : GoodIn wsX11_cardLine (wsV RX11 141 RX11 yX11_isGood wsX11_isGood) := goodIn_app (goodIn_r _ [55, 56, 57, 10] (by rfl) (by decide +kernel)) ggX11_cardLine_X11_isGood
theorem dX11_cardLine_109 : decode cX11_cardLine 109 = .ok (.invokevirtual 141, 3) := by decide +kernel
theorem dX11_cardLine_112 : decode cX11_cardLine 112 = .ok (.ifCond .ne 4, 3) := by decide +kernel
theorem dX11_cardLine_116 : decode cX11_cardLine 116 = .ok (.aload_n 0, 1) := by decide +kernel
theorem dX11_cardLine_117 : decode cX11_cardLine 117 = .ok (.getfield 37, 3) := by decide +kernel
theorem dX11_cardLine_120 : decode cX11_cardLine 120 = .ok (.iconst 5, 1) := by decide +kernel
theorem dX11_cardLine_121 : decode cX11_cardLine 121 = .ok (.bipush 32, 2) := by decide +kernel
theorem dX11_cardLine_123 : decode cX11_cardLine 123 = .ok (.iload_n 1, 1) := by decide +kernel
theorem dX11_cardLine_124 : decode cX11_cardLine 124 = .ok (.iadd, 1) := by decide +kernel
theorem dX11_cardLine_125 : decode cX11_cardLine 125 = .ok (.imul, 1) := by decide +kernel
theorem dX11_cardLine_126 : decode cX11_cardLine 126 = .ok (.iconst 3, 1) := by decide +kernel
theorem dX11_cardLine_127 : decode cX11_cardLine 127 = .ok (.iadd, 1) := by decide +kernel
theorem dX11_cardLine_128 : decode cX11_cardLine 128 = .ok (.iload_n 2, 1) := by decide +kernel
theorem dX11_cardLine_129 : decode cX11_cardLine 129 = .ok (.iastore, 1) := by decide +kernel
theorem dX11_cardLine_130 : decode cX11_cardLine 130 = .ok (.aload_n 0, 1) := by decide +kernel
theorem dX11_cardLine_131 : decode cX11_cardLine 131 = .ok (.getfield 37, 3) := by decide +kernel
theorem dX11_cardLine_134 : decode cX11_cardLine 134 = .ok (.iconst 5, 1) := by decide +kernel
theorem dX11_cardLine_135 : decode cX11_cardLine 135 = .ok (.bipush 32, 2) := by decide +kernel
theorem dX11_cardLine_137 : decode cX11_cardLine 137 = .ok (.iload_n 1, 1) := by decide +kernel
theorem dX11_cardLine_138 : decode cX11_cardLine 138 = .ok (.iadd, 1) := by decide +kernel
theorem dX11_cardLine_139 : decode cX11_cardLine 139 = .ok (.imul, 1) := by decide +kernel
theorem dX11_cardLine_140 : decode cX11_cardLine 140 = .ok (.iconst 4, 1) := by decide +kernel
theorem dX11_cardLine_141 : decode cX11_cardLine 141 = .ok (.iadd, 1) := by decide +kernel
theorem dX11_cardLine_142 : decode cX11_cardLine 142 = .ok (.iload_n 3, 1) := by decide +kernel
theorem dX11_cardLine_143 : decode cX11_cardLine 143 = .ok (.ifCond .eq 7, 3) := by decide +kernel
theorem dX11_cardLine_150 : decode cX11_cardLine 150 = .ok (.iconst 0, 1) := by decide +kernel
theorem dX11_cardLine_151 : decode cX11_cardLine 151 = .ok (.iastore, 1) := by decide +kernel
theorem dX11_cardLine_152 : decode cX11_cardLine 152 = .ok (.return_, 1) := by decide +kernel
theorem dX11_cardLine_146 : decode cX11_cardLine 146 = .ok (.iconst 1, 1) := by decide +kernel
theorem dX11_cardLine_147 : decode cX11_cardLine 147 = .ok (.goto 4, 3) := by decide +kernel
theorem dX11_cardLine_115 : decode cX11_cardLine 115 = .ok (.return_, 1) := by decide +kernel
theorem dX11_cardLine_106 : decode cX11_cardLine 106 = .ok (.iconst 0, 1) := by decide +kernel
theorem dX11_cardLine_89 : decode cX11_cardLine 89 = .ok (.ifCond .ne 17, 3) := by decide +kernel
theorem dX11_cardLine_92 : decode cX11_cardLine 92 = .ok (.aload_n 0, 1) := by decide +kernel
theorem dX11_cardLine_93 : decode cX11_cardLine 93 = .ok (.ldc2_w 168, 3) := by decide +kernel
set_option maxRecDepth 20000 in
theorem ggX11_cardLine_X11_takes : GoodIn wsX11_cardLine wsX11_takes := goodIn_r _ [50, 51, 52, 53, 10, 54, 1, 2, 31, 26, 27, 28, 29, 30, 17, 3, 32, 33, 34, 35, 36, 37, 38, 39, 40, 41, 42, 59, 60, 61, 62, 63, 64, 65, 66, 67, 68, 69, 70, 71, 72, 73, 74, 75, 76, 77, 78, 79, 80, 81, 82, 83, 84, 85, 86, 87, 88, 89] (by rfl) (by decide +kernel)
set_option maxRecDepth 20000 in
theorem gX11_cardLine_X11_takes : GoodIn wsX11_cardLine (wsV RX11 124 RX11 yX11_takes wsX11_takes) := goodIn_app (goodIn_r _ [47, 48, 49, 10] (by rfl) (by decide +kernel)) ggX11_cardLine_X11_takes
theorem dX11_cardLine_96 : decode cX11_cardLine 96 = .ok (.invokevirtual 124, 3) := by decide +kernel
theorem dX11_cardLine_99 : decode cX11_cardLine 99 = .ok (.ifCond .eq 7, 3) := by decide +kernel
theorem dX11_cardLine_102 : decode cX11_cardLine 102 = .ok (.iconst 1, 1) := by decide +kernel
theorem dX11_cardLine_103 : decode cX11_cardLine 103 = .ok (.goto 4, 3) := by decide +kernel
theorem dX11_cardLine_4 : decode cX11_cardLine 4 = .ok (.ifCond .ne 48, 3) := by decide +kernel
theorem dX11_cardLine_7 : decode cX11_cardLine 7 = .ok (.aload_n 0, 1) := by decide +kernel
theorem dX11_cardLine_8 : decode cX11_cardLine 8 = .ok (.getfield 100, 3) := by decide +kernel
theorem dX11_cardLine_11 : decode cX11_cardLine 11 = .ok (.iconst 2, 1) := by decide +kernel
theorem dX11_cardLine_12 : decode cX11_cardLine 12 = .ok (.if_icmp .ne 40, 3) := by decide +kernel
theorem dX11_cardLine_15 : decode cX11_cardLine 15 = .ok (.aload_n 0, 1) := by decide +kernel
theorem dX11_cardLine_16 : decode cX11_cardLine 16 = .ok (.getfield 93, 3) := by decide +kernel
theorem dX11_cardLine_19 : decode cX11_cardLine 19 = .ok (.aload_n 0, 1) := by decide +kernel
theorem dX11_cardLine_20 : decode cX11_cardLine 20 = .ok (.iconst 1, 1) := by decide +kernel
theorem dX11_cardLine_21 : decode cX11_cardLine 21 = .ok (.invokevirtual 145, 3) := by decide +kernel
theorem dX11_cardLine_24 : decode cX11_cardLine 24 = .ok (.if_icmp .ge 28, 3) := by decide +kernel
theorem dX11_cardLine_27 : decode cX11_cardLine 27 = .ok (.aload_n 0, 1) := by decide +kernel
theorem dX11_cardLine_28 : decode cX11_cardLine 28 = .ok (.getfield 37, 3) := by decide +kernel
theorem dX11_cardLine_31 : decode cX11_cardLine 31 = .ok (.iconst 5, 1) := by decide +kernel
theorem dX11_cardLine_32 : decode cX11_cardLine 32 = .ok (.bipush 32, 2) := by decide +kernel
theorem dX11_cardLine_34 : decode cX11_cardLine 34 = .ok (.aload_n 0, 1) := by decide +kernel
theorem dX11_cardLine_35 : decode cX11_cardLine 35 = .ok (.getfield 93, 3) := by decide +kernel
theorem dX11_cardLine_38 : decode cX11_cardLine 38 = .ok (.iadd, 1) := by decide +kernel
theorem dX11_cardLine_39 : decode cX11_cardLine 39 = .ok (.imul, 1) := by decide +kernel
theorem dX11_cardLine_40 : decode cX11_cardLine 40 = .ok (.iconst 3, 1) := by decide +kernel
theorem dX11_cardLine_41 : decode cX11_cardLine 41 = .ok (.iadd, 1) := by decide +kernel
theorem dX11_cardLine_42 : decode cX11_cardLine 42 = .ok (.iaload, 1) := by decide +kernel
theorem dX11_cardLine_43 : decode cX11_cardLine 43 = .ok (.iconst (-1), 1) := by decide +kernel
theorem dX11_cardLine_44 : decode cX11_cardLine 44 = .ok (.if_icmp .eq 8, 3) := by decide +kernel
theorem dX11_cardLine_47 : decode cX11_cardLine 47 = .ok (.aload_n 0, 1) := by decide +kernel
theorem dX11_cardLine_48 : decode cX11_cardLine 48 = .ok (.iconst 2, 1) := by decide +kernel
set_option maxRecDepth 20000 in
theorem ggX11_cardLine_X11_fails : GoodIn wsX11_cardLine wsX11_fails := goodIn_r _ [16, 1, 17, 18, 59, 60, 61, 62, 63, 64, 65, 66, 67, 68, 69, 70, 71, 72, 73, 74, 75, 76, 77, 78, 79, 80, 81, 82, 83, 84, 85, 86, 87, 88, 89] (by rfl) (by decide +kernel)
set_option maxRecDepth 20000 in
theorem gX11_cardLine_X11_fails : GoodIn wsX11_cardLine (wsV RX11 127 RX11 yX11_fails wsX11_fails) := goodIn_app (goodIn_r _ [13, 14, 15, 10] (by rfl) (by decide +kernel)) ggX11_cardLine_X11_fails
theorem dX11_cardLine_49 : decode cX11_cardLine 49 = .ok (.invokevirtual 127, 3) := by decide +kernel
theorem dX11_line_0 : decode cX11_line 0 = .ok (.aload_n 0, 1) := by decide +kernel
theorem dX11_line_1 : decode cX11_line 1 = .ok (.ldc2_w 170, 3) := by decide +kernel
set_option maxRecDepth 20000 in
theorem ggX11_line_X11_is : GoodIn wsX11_line wsX11_is := goodIn_r _ [8, 2, 9, 10, 84, 85, 86, 87, 88, 89, 90, 91, 92, 93, 94, 95, 96, 97, 98, 99, 100, 101, 102, 103, 104, 105, 106, 107, 108, 109, 110, 111, 112, 113, 114] (by rfl) (by decide +kernel)
set_option maxRecDepth 20000 in
theorem gX11_line_X11_is : GoodIn wsX11_line (wsV RX11 117 RX11 yX11_is wsX11_is) := goodIn_app (goodIn_r _ [4, 5, 6, 7] (by rfl) (by decide +kernel)) ggX11_line_X11_is
theorem dX11_line_4 : decode cX11_line 4 = .ok (.invokevirtual 117, 3) := by decide +kernel
theorem dX11_line_7 : decode cX11_line 7 = .ok (.ifCond .eq 37, 3) := by decide +kernel
theorem dX11_line_44 : decode cX11_line 44 = .ok (.aload_n 0, 1) := by decide +kernel
theorem dX11_line_45 : decode cX11_line 45 = .ok (.ldc2_w 175, 3) := by decide +kernel
set_option maxRecDepth 20000 in
theorem ggX11_line_X11_asks : GoodIn wsX11_line wsX11_asks := goodIn_r _ [54, 55, 56, 57, 7, 58, 4, 5, 6, 8, 2, 9, 10, 22, 23, 24, 25, 26, 20, 27, 28, 29, 30, 31, 32, 33, 34, 35, 36, 37, 38, 16, 17, 18, 19, 21, 84, 85, 86, 87, 88, 89, 90, 91, 92, 93, 94, 95, 96, 97, 98, 99, 100, 101, 102, 103, 104, 105, 106, 107, 108, 109, 110, 111, 112, 113, 114] (by rfl) (by decide +kernel)
set_option maxRecDepth 20000 in
theorem gX11_line_X11_asks : GoodIn wsX11_line (wsV RX11 130 RX11 yX11_asks wsX11_asks) := goodIn_app (goodIn_r _ [51, 52, 53, 7] (by rfl) (by decide +kernel)) ggX11_line_X11_asks
theorem dX11_line_48 : decode cX11_line 48 = .ok (.invokevirtual 130, 3) := by decide +kernel
theorem dX11_line_51 : decode cX11_line 51 = .ok (.aload_n 0, 1) := by decide +kernel
set_option maxRecDepth 20000 in
theorem ggX11_line_X11_cardLine : GoodIn wsX11_line wsX11_cardLine := goodIn_r _ [81, 2, 9, 27, 43, 82, 83, 11, 12, 13, 7, 14, 15, 16, 17, 18, 19, 20, 21, 59, 60, 61, 62, 63, 64, 65, 22, 23, 24, 25, 26, 10, 28, 29, 30, 31, 32, 33, 34, 35, 36, 37, 38, 51, 52, 53, 54, 55, 56, 57, 58, 4, 5, 6, 8, 70, 71, 72, 73, 84, 85, 86, 87, 88, 89, 90, 91, 92, 93, 94, 95, 96, 97, 98, 99, 100, 101, 102, 103, 104, 105, 106, 107, 108, 109, 110, 111, 112, 113, 114] (by rfl) (by decide +kernel)
set_option maxRecDepth 20000 in
theorem gX11_line_X11_cardLine : GoodIn wsX11_line (wsV RX11 177 RX11 yX11_cardLine wsX11_cardLine) := goodIn_app (goodIn_r _ [78, 79, 80, 7] (by rfl) (by decide +kernel)) ggX11_line_X11_cardLine
theorem dX11_line_52 : decode cX11_line 52 = .ok (.invokevirtual 177, 3) := by decide +kernel
theorem dX11_line_55 : decode cX11_line 55 = .ok (.return_, 1) := by decide +kernel
theorem dX11_line_10 : decode cX11_line 10 = .ok (.aload_n 0, 1) := by decide +kernel
theorem dX11_line_11 : decode cX11_line 11 = .ok (.iconst 1, 1) := by decide +kernel
set_option maxRecDepth 20000 in
theorem ggX11_line_X11_hasRead : GoodIn wsX11_line wsX11_hasRead := goodIn_r _ [14, 15, 84, 85, 86, 87, 88, 89, 90, 91, 92, 93, 94, 95, 96, 97, 98, 99, 100, 101, 102, 103, 104, 105, 106, 107, 108, 109, 110, 111, 112, 113, 114] (by rfl) (by decide +kernel)
set_option maxRecDepth 20000 in
theorem gX11_line_X11_hasRead : GoodIn wsX11_line (wsV RX11 145 RX11 yX11_hasRead wsX11_hasRead) := goodIn_app (goodIn_r _ [11, 12, 13, 7] (by rfl) (by decide +kernel)) ggX11_line_X11_hasRead
theorem dX11_line_12 : decode cX11_line 12 = .ok (.invokevirtual 145, 3) := by decide +kernel
theorem dX11_line_15 : decode cX11_line 15 = .ok (.bipush 8, 2) := by decide +kernel
theorem dX11_line_17 : decode cX11_line 17 = .ok (.if_icmp .ne 8, 3) := by decide +kernel
theorem dX11_line_25 : decode cX11_line 25 = .ok (.aload_n 0, 1) := by decide +kernel
theorem dX11_line_26 : decode cX11_line 26 = .ok (.getfield 111, 3) := by decide +kernel
theorem dX11_line_29 : decode cX11_line 29 = .ok (.ifCond .eq 4, 3) := by decide +kernel
theorem dX11_line_33 : decode cX11_line 33 = .ok (.aload_n 0, 1) := by decide +kernel
set_option maxRecDepth 20000 in
theorem ggX11_line_X11_next : GoodIn wsX11_line wsX11_next := goodIn_r _ [25, 26, 20, 27, 10, 28, 9, 29, 30, 31, 32, 33, 34, 35, 36, 37, 7, 38, 84, 85, 86, 87, 88, 89, 90, 91, 92, 93, 94, 95, 96, 97, 98, 99, 100, 101, 102, 103, 104, 105, 106, 107, 108, 109, 110, 111, 112, 113, 114] (by rfl) (by decide +kernel)
set_option maxRecDepth 20000 in
theorem gX11_line_X11_next : GoodIn wsX11_line (wsV RX11 121 RX11 yX11_next wsX11_next) := goodIn_app (goodIn_r _ [22, 23, 24, 7] (by rfl) (by decide +kernel)) ggX11_line_X11_next
theorem dX11_line_34 : decode cX11_line 34 = .ok (.invokevirtual 121, 3) := by decide +kernel
theorem dX11_line_37 : decode cX11_line 37 = .ok (.aload_n 0, 1) := by decide +kernel
set_option maxRecDepth 20000 in
theorem ggX11_line_X11_personLine : GoodIn wsX11_line wsX11_personLine := goodIn_r _ [42, 43, 44, 2, 45, 46, 11, 12, 13, 7, 14, 15, 47, 48, 49, 50, 51, 52, 53, 54, 55, 56, 57, 58, 4, 5, 6, 8, 9, 10, 22, 23, 24, 25, 26, 20, 27, 28, 29, 30, 31, 32, 33, 34, 35, 36, 37, 38, 16, 17, 18, 19, 21, 59, 60, 61, 62, 63, 64, 65, 66, 67, 68, 69, 70, 71, 72, 73, 74, 75, 76, 77, 84, 85, 86, 87, 88, 89, 90, 91, 92, 93, 94, 95, 96, 97, 98, 99, 100, 101, 102, 103, 104, 105, 106, 107, 108, 109, 110, 111, 112, 113, 114] (by rfl) (by decide +kernel)
set_option maxRecDepth 20000 in
theorem gX11_line_X11_personLine : GoodIn wsX11_line (wsV RX11 172 RX11 yX11_personLine wsX11_personLine) := goodIn_app (goodIn_r _ [39, 40, 41, 7] (by rfl) (by decide +kernel)) ggX11_line_X11_personLine
theorem dX11_line_38 : decode cX11_line 38 = .ok (.invokevirtual 172, 3) := by decide +kernel
theorem dX11_line_41 : decode cX11_line 41 = .ok (.goto 14, 3) := by decide +kernel
theorem dX11_line_20 : decode cX11_line 20 = .ok (.aload_n 0, 1) := by decide +kernel
theorem dX11_line_21 : decode cX11_line 21 = .ok (.iconst 3, 1) := by decide +kernel
set_option maxRecDepth 20000 in
theorem ggX11_line_X11_fails : GoodIn wsX11_line wsX11_fails := goodIn_r _ [19, 2, 20, 21, 84, 85, 86, 87, 88, 89, 90, 91, 92, 93, 94, 95, 96, 97, 98, 99, 100, 101, 102, 103, 104, 105, 106, 107, 108, 109, 110, 111, 112, 113, 114] (by rfl) (by decide +kernel)
set_option maxRecDepth 20000 in
theorem gX11_line_X11_fails : GoodIn wsX11_line (wsV RX11 127 RX11 yX11_fails wsX11_fails) := goodIn_app (goodIn_r _ [16, 17, 18, 7] (by rfl) (by decide +kernel)) ggX11_line_X11_fails
theorem dX11_line_22 : decode cX11_line 22 = .ok (.invokevirtual 127, 3) := by decide +kernel
theorem dX11_line_32 : decode cX11_line 32 = .ok (.return_, 1) := by decide +kernel
set_option maxHeartbeats 4000000 in
set_option maxRecDepth 100000 in
theorem a_X11_personLine (l : Launch) (G : va_G) (ct : Nat → ClassId) (a0 : Nat) (n0_0 : Int32) (a1 : Nat) (a2 : Nat) (a3 : Nat) (a4 : Nat) (a5 : Nat) (n0_6 : Int32) (n0_7 : Int32) (n0_8 : Int32) (n0_9 : Int32) (n0_10 : Int32) (l0_11 : Int64) (n0_12 : Int32) (n0_13 : Int32) (n0_14 : Int32) (n0_15 : Int32) (a6 : Nat) (a7 : Nat) (a8 : Nat) (a9 : Nat) (a10 : Nat) (a11 : Nat) (a12 : Nat) (a13 : Nat) (n0_24 : Int32) (n0_25 : Int32) (n0_26 : Int32) (n0_27 : Int32) (a14 : Nat) (n0_29 : Int32) (n0_30 : Int32) (f5 : Nat → Int32) (f7 : Nat → Int32) (f8 : Nat → Int32) (hp_n0_6 : rg 0 900 n0_6) (hp_f7 : hsI f7) (hp_f8 : psI f8) (hp_n0_7 : rg 0 900 n0_7) (hp_n0_8 : rg 0 4 n0_8) (hp_n0_10 : rg 0 1000009 n0_10) (hat : n0_7.toInt ≤ n0_6.toInt) (hp7 : (f7 (13 : Int32).toNatClampNeg).toInt ≤ 7) : Met l yX11_personLine wsX11_personLine ({ frames := 5, cells := 0, slots := 0, locals := 112 }) (va_Pc [.ref a0] (wrP G ct [(a0, .inr (11, [.int n0_0, .ref a1, .ref a2, .ref a3, .ref a4, .ref a5, .int n0_6, .int n0_7, .int n0_8, .int n0_9, .int n0_10, .long l0_11, .int n0_12, .int n0_13, .int n0_14, .int n0_15, .ref a6, .ref a7, .ref a8, .ref a9, .ref a10, .ref a11, .ref a12, .ref a13, .int n0_24, .int n0_25, .int n0_26, .int n0_27, .ref a14, .int n0_29, .int n0_30])), (a5, .inl (ct 1, 900, .inl f5)), (a7, .inl (ct 0, 15, .inl f7)), (a8, .inl (ct 0, 200, .inl f8))])) (va_Qv (fun u : SU => hsI (u.2.1 0) ∧ psI (u.2.1 1) ∧ rg 0 900 (u.1 0) ∧ rg 0 4 (u.1 1) ∧ rg 0 1000009 (u.1 3) ∧ (n0_7.toInt ≤ (u.1 0).toInt ∧ (u.1 0).toInt ≤ n0_6.toInt) ∧ True) (fun u t => va_P G vwCl ((fun u : SU => [(a0, .inr (11, [.int n0_0, .ref a1, .ref a2, .ref a3, .ref a4, .ref a5, .int n0_6, .int (u.1 0), .int (u.1 1), .int (u.1 2), .int (u.1 3), .long (u.2.2 0 0), .int (u.1 4), .int (u.1 5), .int n0_14, .int n0_15, .ref a6, .ref a7, .ref a8, .ref a9, .ref a10, .ref a11, .ref a12, .ref a13, .int n0_24, .int n0_25, .int n0_26, .int n0_27, .ref a14, .int n0_29, .int n0_30])), (a5, .inl (ct 1, 900, .inl f5)), (a7, .inl (ct 0, 15, .inl (u.2.1 0))), (a8, .inl (ct 0, 200, .inl (u.2.1 1)))]) u) t.heap) (aset [(a0, .inr (11, [.int n0_0, .ref a1, .ref a2, .ref a3, .ref a4, .ref a5, .int n0_6, .int n0_7, .int n0_8, .int n0_9, .int n0_10, .long l0_11, .int n0_12, .int n0_13, .int n0_14, .int n0_15, .ref a6, .ref a7, .ref a8, .ref a9, .ref a10, .ref a11, .ref a12, .ref a13, .int n0_24, .int n0_25, .int n0_26, .int n0_27, .ref a14, .int n0_29, .int n0_30])), (a5, .inl (ct 1, 900, .inl f5)), (a7, .inl (ct 0, 15, .inl f7)), (a8, .inl (ct 0, 200, .inl f8))])) 0 0 (aset [(a0, .inr (11, [.int n0_0, .ref a1, .ref a2, .ref a3, .ref a4, .ref a5, .int n0_6, .int n0_7, .int n0_8, .int n0_9, .int n0_10, .long l0_11, .int n0_12, .int n0_13, .int n0_14, .int n0_15, .ref a6, .ref a7, .ref a8, .ref a9, .ref a10, .ref a11, .ref a12, .ref a13, .int n0_24, .int n0_25, .int n0_26, .int n0_27, .ref a14, .int n0_29, .int n0_30])), (a5, .inl (ct 1, 900, .inl f5)), (a7, .inl (ct 0, 15, .inl f7)), (a8, .inl (ct 0, 200, .inl f8))]) := by
  refine Met.ofW (cc := cX11_personLine) (maxL := 2) (ret := none) (by decide) rfl ?_
  intro p e s m args below meth c s₁ B hml hv
  obtain ⟨rfl, hP, hK, hD0⟩ := hv
  have hx := B.exec
  have hb := B.bytes
  have hr := B.returns
  have hts := atoms_spec (ws := wsX11_personLine) B.pre
  have hown : s.vm.findClass RX11 = some m.cls := findClass_of_methodNamed B.named
  have hlocks := B.notSynchronized
  have hD := hD0.aself
  generalize hAe : aset [(a0, .inr (11, [.int n0_0, .ref a1, .ref a2, .ref a3, .ref a4, .ref a5, .int n0_6, .int n0_7, .int n0_8, .int n0_9, .int n0_10, .long l0_11, .int n0_12, .int n0_13, .int n0_14, .int n0_15, .ref a6, .ref a7, .ref a8, .ref a9, .ref a10, .ref a11, .ref a12, .ref a13, .int n0_24, .int n0_25, .int n0_26, .int n0_27, .ref a14, .int n0_29, .int n0_30])), (a5, .inl (ct 1, 900, .inl f5)), (a7, .inl (ct 0, 15, .inl f7)), (a8, .inl (ct 0, 200, .inl f8))] = A at hD ⊢
  have hS : va_S A s.heap s.heap [] := va_S.rf
  have hl := lv_entry ([.ref a0]) (n := 2) (Nat.le_of_ble_eq_true rfl)
  rw [lg_entry_eq]
  generalize (lg_sl ([.ref a0]) ++ List.replicate (2 - (lg_sl ([.ref a0])).length) Slot.unset).toArray = ls at hl ⊢
  have hl : lv_has ls 2 [(0, .ref a0)] := hl
  refine lv_iconst (v := 5) hx hb dX11_personLine_0 (by decide) ?_
  refine lv_bipush (v := 32) hx hb dX11_personLine_1 (by decide) ?_
  refine lv_aload_n hx hb dX11_personLine_3 rfl (lv_at hl 0 rfl) ?_
  refine lv_iconst (v := 1) hx hb dX11_personLine_4 (by decide) ?_
  refine ro_calli (va_runV (As := [.int 1]) (rest := [.int 32, .int 5]) ⟨hx, hb, hml, hown, hts⟩ (a_X11_hasRead1 l G ct a0 n0_0 a1 a2 a3 a4 a5 n0_6 n0_7 n0_8 n0_9 n0_10 l0_11 n0_12 n0_13 n0_14 n0_15 a6 a7 a8 a9 a10 a11 a12 a13 n0_24 n0_25 n0_26 n0_27 a14 n0_29 n0_30 f7 hp_n0_6 hp_f7) (cwV 1 hts gX11_personLine_X11_hasRead rfl rfl rfl (by decide +kernel) ⟨Nat.le_of_ble_eq_true rfl, Nat.le_of_ble_eq_true rfl⟩) (ro_preV 11 0 hK (hP.sub [0, 2] rfl) rfl rfl) rfl rfl hl.1 rfl (lv_room (Nat.le_of_ble_eq_true rfl)) dX11_personLine_5 ⟨Nat.zero_le _, Nat.zero_le _⟩) hS hP (fun r5 H locs wr5 hP hS => ?_)
  obtain ⟨p_1, p_2, -⟩ := wr5
  have gr5 := p_2
  have h_3 : rg 0 7 r5 := ⟨p_1.1, by rw [gr5]; exact hp7⟩
  refine lv_iadd hx hb dX11_personLine_8 ?_
  refine nm_add (e1 := 32) (f := 39) (rgn 32 (x := 32) (by decide)) h_3 (by decide) (fun z8 hz8 ez8 => ?_)
  replace ez8 := eqc_l ez8 (c := 32) (by decide)
  refine lv_imul hx hb dX11_personLine_9 ?_
  refine nm_mul (e1 := 160) (f := 195) (rgn 5 (x := 5) (by decide)) hz8 (by decide) (fun z9 hz9 ez9 => ?_)
  replace ez9 : z9.toInt = 5 * z8.toInt := by have : (5 : Int32).toInt = 5 := (by decide); rw [this] at ez9; exact ez9
  refine lv_istore_n (lv' := [(1, .int z9), (0, .ref a0)]) hx hb dX11_personLine_10 rfl hl (by decide) rfl (fun ls hl => ?_)
  refine lv_aload_n hx hb dX11_personLine_11 rfl (lv_at hl 1 rfl) ?_
  refine va_get (D := G) (ci := 11) (v := .ref a8) (C := RX11) (T := TX11) (N := 31) hx hb hts (by decide +kernel) hown hK.1 hP 0 rfl rfl 18 (by decide) (hts (.fieldLink RX11 37 "CardHolderModel" "person" "[I") (by decide +kernel)) (fun _ h9 => h9) rfl dX11_personLine_12 ?_
  refine lv_iload_n hx hb dX11_personLine_15 rfl (lv_at hl 0 rfl) ?_
  refine lv_aload_n hx hb dX11_personLine_16 rfl (lv_at hl 1 rfl) ?_
  refine lv_ldc2 (own := RX11) (v := 12532058) hx hb hown (hts (.constantLong RX11 149 (12532058)) (by decide +kernel)) dX11_personLine_17 ?_
  refine lv_iconst (v := 1) hx hb dX11_personLine_20 (by decide) ?_
  refine lv_sipush (v := 999) hx hb dX11_personLine_21 (by decide) ?_
  refine wj_calli (wr := [(a7, .inl (ct 0, 15, .inl f7)), (a8, .inl (ct 0, 200, .inl f8))]) (w1 := (fun u : SU => [(a0, .inr (11, [.int n0_0, .ref a1, .ref a2, .ref a3, .ref a4, .ref a5, .int n0_6, .int (u.1 0), .int (u.1 1), .int (u.1 2), .int (u.1 3), .long (u.2.2 0 0), .int (u.1 4), .int (u.1 5), .int n0_14, .int n0_15, .ref a6, .ref a7, .ref a8, .ref a9, .ref a10, .ref a11, .ref a12, .ref a13, .int n0_24, .int n0_25, .int n0_26, .int n0_27, .ref a14, .int n0_29, .int n0_30])), (a5, .inl (ct 1, 900, .inl f5))])) (va_runV (As := [.long 12532058, .int 1, .int 999]) (rest := [.int z9, .ref a8]) ⟨hx, hb, hml, hown, hts⟩ (a_X11_numberw999 l G ct a0 n0_0 a1 a2 a3 a4 a5 n0_6 n0_7 n0_8 n0_9 n0_10 l0_11 n0_12 n0_13 n0_14 n0_15 a6 a7 a8 a9 a10 a11 a12 a13 n0_24 n0_25 n0_26 n0_27 a14 n0_29 n0_30 f5 (12532058 : Int64) hp_n0_6 hp_n0_7 hp_n0_8 hp_n0_10 hat) (cwV 3 hts gX11_personLine_X11_number_ rfl rfl rfl (by decide +kernel) ⟨Nat.le_of_ble_eq_true rfl, Nat.le_of_ble_eq_true rfl⟩) (wr_preV 11 0 hK (hP.sub [0, 1] rfl) (hD.sub [0, 1] (by decide) rfl) rfl rfl) rfl rfl hl.1 rfl (lv_room (Nat.le_of_ble_eq_true rfl)) dX11_personLine_24 ⟨Nat.zero_le _, Nat.zero_le _⟩) hS hP hD [0, 1] [2, 3] rfl rfl (by decide) (fun _ => rfl) (fun r24 ur24 H locs wr24 hP hD hS => ?_)
  have hP : va_P G vwCl [(a0, .inr (11, [.int n0_0, .ref a1, .ref a2, .ref a3, .ref a4, .ref a5, .int n0_6, .int (ur24.1 0), .int (ur24.1 1), .int (ur24.1 2), .int (ur24.1 3), .long (ur24.2.2 0 0), .int (ur24.1 4), .int (ur24.1 5), .int n0_14, .int n0_15, .ref a6, .ref a7, .ref a8, .ref a9, .ref a10, .ref a11, .ref a12, .ref a13, .int n0_24, .int n0_25, .int n0_26, .int n0_27, .ref a14, .int n0_29, .int n0_30])), (a5, .inl (ct 1, 900, .inl f5)), (a7, .inl (ct 0, 15, .inl f7)), (a8, .inl (ct 0, 200, .inl f8))] H := hP.sub [2, 3, 0, 1] rfl
  have hD : va_D A [(a0, .inr (11, [.int n0_0, .ref a1, .ref a2, .ref a3, .ref a4, .ref a5, .int n0_6, .int (ur24.1 0), .int (ur24.1 1), .int (ur24.1 2), .int (ur24.1 3), .long (ur24.2.2 0 0), .int (ur24.1 4), .int (ur24.1 5), .int n0_14, .int n0_15, .ref a6, .ref a7, .ref a8, .ref a9, .ref a10, .ref a11, .ref a12, .ref a13, .int n0_24, .int n0_25, .int n0_26, .int n0_27, .ref a14, .int n0_29, .int n0_30])), (a5, .inl (ct 1, 900, .inl f5)), (a7, .inl (ct 0, 15, .inl f7)), (a8, .inl (ct 0, 200, .inl f8))] := hD.sub [2, 3, 0, 1] (by decide) rfl
  obtain ⟨p_4, p_5, p_6, p_7, p_8, -⟩ := wr24
  refine va_iast hx hb hK.1 hP hD hS 3 0 rfl rfl (in_rg hz9 (by decide)) dX11_personLine_27 (fun H locs hP hD hS => ?_)
  have h_9 : psI (upd f8 z9.toNatClampNeg r24) := ps_u0 hp_f8 (i := z9) (c := 0) (by have := ez9; omega) (rg_w (c := 0) (d := 2147483647) hz9 (by decide)) (by decide)
  refine lv_aload_n hx hb dX11_personLine_28 rfl (lv_at hl 1 rfl) ?_
  refine va_get (D := G) (ci := 11) (v := .ref a8) (C := RX11) (T := TX11) (N := 31) hx hb hts (by decide +kernel) hown hK.1 hP 0 rfl rfl 18 (by decide) (hts (.fieldLink RX11 37 "CardHolderModel" "person" "[I") (by decide +kernel)) (fun _ h9 => h9) rfl dX11_personLine_29 ?_
  refine lv_iload_n hx hb dX11_personLine_32 rfl (lv_at hl 0 rfl) ?_
  refine lv_iconst (v := 1) hx hb dX11_personLine_33 (by decide) ?_
  refine lv_iadd hx hb dX11_personLine_34 ?_
  refine nm_add (e1 := 161) (f := 196) hz9 (rgn 1 (x := 1) (by decide)) (by decide) (fun z34 hz34 ez34 => ?_)
  replace ez34 := eqc_r ez34 (c := 1) (by decide)
  refine lv_aload_n hx hb dX11_personLine_35 rfl (lv_at hl 1 rfl) ?_
  refine va_get (D := G) (ci := 11) (v := .int (ur24.1 4)) (C := RX11) (T := TX11) (N := 31) hx hb hts (by decide +kernel) hown hK.1 hP 0 rfl rfl 12 (by decide) (hts (.fieldLink RX11 111 "CardHolderModel" "bad" "I") (by decide +kernel)) (fun _ h9 => h9) rfl dX11_personLine_36 ?_
  have j60 : ∀ (y60_0 : Int32) (v60_0_7 : Int32) (v60_0_8 : Int32) (v60_0_9 : Int32) (v60_0_10 : Int32) (v60_0_11 : Int64) (v60_0_12 : Int32) (v60_0_13 : Int32) (H : Heap) (locs : List Loc) (ls : Array Slot), rg 0 63 y60_0 → rg 0 900 v60_0_7 → rg 0 4 v60_0_8 → rg 0 1000009 v60_0_10 → v60_0_7.toInt ≤ n0_6.toInt → n0_7.toInt ≤ v60_0_7.toInt → va_P G vwCl [(a0, .inr (11, [.int n0_0, .ref a1, .ref a2, .ref a3, .ref a4, .ref a5, .int n0_6, .int v60_0_7, .int v60_0_8, .int v60_0_9, .int v60_0_10, .long v60_0_11, .int v60_0_12, .int v60_0_13, .int n0_14, .int n0_15, .ref a6, .ref a7, .ref a8, .ref a9, .ref a10, .ref a11, .ref a12, .ref a13, .int n0_24, .int n0_25, .int n0_26, .int n0_27, .ref a14, .int n0_29, .int n0_30])), (a5, .inl (ct 1, 900, .inl f5)), (a7, .inl (ct 0, 15, .inl f7)), (a8, .inl (ct 0, 200, .inl (upd f8 z9.toNatClampNeg r24)))] H → va_D A [(a0, .inr (11, [.int n0_0, .ref a1, .ref a2, .ref a3, .ref a4, .ref a5, .int n0_6, .int v60_0_7, .int v60_0_8, .int v60_0_9, .int v60_0_10, .long v60_0_11, .int v60_0_12, .int v60_0_13, .int n0_14, .int n0_15, .ref a6, .ref a7, .ref a8, .ref a9, .ref a10, .ref a11, .ref a12, .ref a13, .int n0_24, .int n0_25, .int n0_26, .int n0_27, .ref a14, .int n0_29, .int n0_30])), (a5, .inl (ct 1, 900, .inl f5)), (a7, .inl (ct 0, 15, .inl f7)), (a8, .inl (ct 0, 200, .inl (upd f8 z9.toNatClampNeg r24)))] → va_S A s.heap H locs → lv_has ls 2 [(0, .ref a0), (1, .int z9)] → W p l e (headSpec wsX11_personLine ({ frames := 5, cells := 0, slots := 0, locals := 112 })).room s m ([.ref a0] : List Value).toArray below meth c H locs 0 0 (MQ below (va_Qv (fun u : SU => hsI (u.2.1 0) ∧ psI (u.2.1 1) ∧ rg 0 900 (u.1 0) ∧ rg 0 4 (u.1 1) ∧ rg 0 1000009 (u.1 3) ∧ (n0_7.toInt ≤ (u.1 0).toInt ∧ (u.1 0).toInt ≤ n0_6.toInt) ∧ True) (fun u t => va_P G vwCl ((fun u : SU => [(a0, .inr (11, [.int n0_0, .ref a1, .ref a2, .ref a3, .ref a4, .ref a5, .int n0_6, .int (u.1 0), .int (u.1 1), .int (u.1 2), .int (u.1 3), .long (u.2.2 0 0), .int (u.1 4), .int (u.1 5), .int n0_14, .int n0_15, .ref a6, .ref a7, .ref a8, .ref a9, .ref a10, .ref a11, .ref a12, .ref a13, .int n0_24, .int n0_25, .int n0_26, .int n0_27, .ref a14, .int n0_29, .int n0_30])), (a5, .inl (ct 1, 900, .inl f5)), (a7, .inl (ct 0, 15, .inl (u.2.1 0))), (a8, .inl (ct 0, 200, .inl (u.2.1 1)))]) u) t.heap) A) ([.ref a0] : List Value).toArray s 0 0 A) (F0 m 60 ls [.int y60_0, .int z34, .ref a8]) := by
    intro y60_0 v60_0_7 v60_0_8 v60_0_9 v60_0_10 v60_0_11 v60_0_12 v60_0_13 H locs ls hy60_0 hv60_0_7 hv60_0_8 hv60_0_10 ha60 hb60 hP hD hS hl
    refine va_iast hx hb hK.1 hP hD hS 3 0 rfl rfl (in_rg hz34 (by decide)) dX11_personLine_60 (fun H locs hP hD hS => ?_)
    have h_10 : psI (upd (upd f8 z9.toNatClampNeg r24) z34.toNatClampNeg y60_0) := ps_u0 h_9 (i := z34) (c := 1) (by have := ez34; have := ez9; omega) (rg_w (c := 0) (d := 2147483647) hz34 (by decide)) (by decide)
    refine lv_aload_n hx hb dX11_personLine_61 rfl (lv_at hl 0 rfl) ?_
    refine va_get (D := G) (ci := 11) (v := .ref a8) (C := RX11) (T := TX11) (N := 31) hx hb hts (by decide +kernel) hown hK.1 hP 0 rfl rfl 18 (by decide) (hts (.fieldLink RX11 37 "CardHolderModel" "person" "[I") (by decide +kernel)) (fun _ h9 => h9) rfl dX11_personLine_62 ?_
    refine lv_iload_n hx hb dX11_personLine_65 rfl (lv_at hl 1 rfl) ?_
    refine lv_iconst (v := 2) hx hb dX11_personLine_66 (by decide) ?_
    refine lv_iadd hx hb dX11_personLine_67 ?_
    refine nm_add (e1 := 162) (f := 197) hz9 (rgn 2 (x := 2) (by decide)) (by decide) (fun z67 hz67 ez67 => ?_)
    replace ez67 := eqc_r ez67 (c := 2) (by decide)
    refine lv_aload_n hx hb dX11_personLine_68 rfl (lv_at hl 0 rfl) ?_
    refine va_get (D := G) (ci := 11) (v := .int v60_0_12) (C := RX11) (T := TX11) (N := 31) hx hb hts (by decide +kernel) hown hK.1 hP 0 rfl rfl 12 (by decide) (hts (.fieldLink RX11 111 "CardHolderModel" "bad" "I") (by decide +kernel)) (fun _ h9 => h9) rfl dX11_personLine_69 ?_
    have j93 : ∀ (y93_0 : Int32) (v93_0_7 : Int32) (v93_0_8 : Int32) (v93_0_9 : Int32) (v93_0_10 : Int32) (v93_0_11 : Int64) (v93_0_12 : Int32) (v93_0_13 : Int32) (H : Heap) (locs : List Loc) (ls : Array Slot), rg 0 63 y93_0 → rg 0 900 v93_0_7 → rg 0 4 v93_0_8 → rg 0 1000009 v93_0_10 → v93_0_7.toInt ≤ n0_6.toInt → n0_7.toInt ≤ v93_0_7.toInt → va_P G vwCl [(a0, .inr (11, [.int n0_0, .ref a1, .ref a2, .ref a3, .ref a4, .ref a5, .int n0_6, .int v93_0_7, .int v93_0_8, .int v93_0_9, .int v93_0_10, .long v93_0_11, .int v93_0_12, .int v93_0_13, .int n0_14, .int n0_15, .ref a6, .ref a7, .ref a8, .ref a9, .ref a10, .ref a11, .ref a12, .ref a13, .int n0_24, .int n0_25, .int n0_26, .int n0_27, .ref a14, .int n0_29, .int n0_30])), (a5, .inl (ct 1, 900, .inl f5)), (a7, .inl (ct 0, 15, .inl f7)), (a8, .inl (ct 0, 200, .inl (upd (upd f8 z9.toNatClampNeg r24) z34.toNatClampNeg y60_0)))] H → va_D A [(a0, .inr (11, [.int n0_0, .ref a1, .ref a2, .ref a3, .ref a4, .ref a5, .int n0_6, .int v93_0_7, .int v93_0_8, .int v93_0_9, .int v93_0_10, .long v93_0_11, .int v93_0_12, .int v93_0_13, .int n0_14, .int n0_15, .ref a6, .ref a7, .ref a8, .ref a9, .ref a10, .ref a11, .ref a12, .ref a13, .int n0_24, .int n0_25, .int n0_26, .int n0_27, .ref a14, .int n0_29, .int n0_30])), (a5, .inl (ct 1, 900, .inl f5)), (a7, .inl (ct 0, 15, .inl f7)), (a8, .inl (ct 0, 200, .inl (upd (upd f8 z9.toNatClampNeg r24) z34.toNatClampNeg y60_0)))] → va_S A s.heap H locs → lv_has ls 2 [(0, .ref a0), (1, .int z9)] → W p l e (headSpec wsX11_personLine ({ frames := 5, cells := 0, slots := 0, locals := 112 })).room s m ([.ref a0] : List Value).toArray below meth c H locs 0 0 (MQ below (va_Qv (fun u : SU => hsI (u.2.1 0) ∧ psI (u.2.1 1) ∧ rg 0 900 (u.1 0) ∧ rg 0 4 (u.1 1) ∧ rg 0 1000009 (u.1 3) ∧ (n0_7.toInt ≤ (u.1 0).toInt ∧ (u.1 0).toInt ≤ n0_6.toInt) ∧ True) (fun u t => va_P G vwCl ((fun u : SU => [(a0, .inr (11, [.int n0_0, .ref a1, .ref a2, .ref a3, .ref a4, .ref a5, .int n0_6, .int (u.1 0), .int (u.1 1), .int (u.1 2), .int (u.1 3), .long (u.2.2 0 0), .int (u.1 4), .int (u.1 5), .int n0_14, .int n0_15, .ref a6, .ref a7, .ref a8, .ref a9, .ref a10, .ref a11, .ref a12, .ref a13, .int n0_24, .int n0_25, .int n0_26, .int n0_27, .ref a14, .int n0_29, .int n0_30])), (a5, .inl (ct 1, 900, .inl f5)), (a7, .inl (ct 0, 15, .inl (u.2.1 0))), (a8, .inl (ct 0, 200, .inl (u.2.1 1)))]) u) t.heap) A) ([.ref a0] : List Value).toArray s 0 0 A) (F0 m 93 ls [.int y93_0, .int z67, .ref a8]) := by
      intro y93_0 v93_0_7 v93_0_8 v93_0_9 v93_0_10 v93_0_11 v93_0_12 v93_0_13 H locs ls hy93_0 hv93_0_7 hv93_0_8 hv93_0_10 ha93 hb93 hP hD hS hl
      refine va_iast hx hb hK.1 hP hD hS 3 0 rfl rfl (in_rg hz67 (by decide)) dX11_personLine_93 (fun H locs hP hD hS => ?_)
      have h_11 : psI (upd (upd (upd f8 z9.toNatClampNeg r24) z34.toNatClampNeg y60_0) z67.toNatClampNeg y93_0) := ps_u2 h_10 (i := z67) (by have := ez67; have := ez9; omega) (rg_w (c := 0) (d := 2147483647) hz67 (by decide)) hy93_0
      refine lv_aload_n hx hb dX11_personLine_94 rfl (lv_at hl 0 rfl) ?_
      refine va_get (D := G) (ci := 11) (v := .ref a8) (C := RX11) (T := TX11) (N := 31) hx hb hts (by decide +kernel) hown hK.1 hP 0 rfl rfl 18 (by decide) (hts (.fieldLink RX11 37 "CardHolderModel" "person" "[I") (by decide +kernel)) (fun _ h9 => h9) rfl dX11_personLine_95 ?_
      refine lv_iload_n hx hb dX11_personLine_98 rfl (lv_at hl 1 rfl) ?_
      refine lv_iconst (v := 3) hx hb dX11_personLine_99 (by decide) ?_
      refine lv_iadd hx hb dX11_personLine_100 ?_
      refine nm_add (e1 := 163) (f := 198) hz9 (rgn 3 (x := 3) (by decide)) (by decide) (fun z100 hz100 ez100 => ?_)
      replace ez100 := eqc_r ez100 (c := 3) (by decide)
      refine lv_iconst (v := (-1)) hx hb dX11_personLine_101 (by decide) ?_
      refine va_iast hx hb hK.1 hP hD hS 3 0 rfl rfl (in_rg hz100 (by decide)) dX11_personLine_102 (fun H locs hP hD hS => ?_)
      have h_12 : psI (upd (upd (upd (upd f8 z9.toNatClampNeg r24) z34.toNatClampNeg y60_0) z67.toNatClampNeg y93_0) z100.toNatClampNeg (-1)) := ps_u3 h_11 (i := z100) (by have := ez100; have := ez9; omega) (rg_w (c := 0) (d := 2147483647) hz100 (by decide)) (rg_w (c := (-1)) (d := 7) (rgn (-1) (x := (-1)) (by decide)) (by decide))
      refine lv_aload_n hx hb dX11_personLine_103 rfl (lv_at hl 0 rfl) ?_
      refine va_get (D := G) (ci := 11) (v := .ref a8) (C := RX11) (T := TX11) (N := 31) hx hb hts (by decide +kernel) hown hK.1 hP 0 rfl rfl 18 (by decide) (hts (.fieldLink RX11 37 "CardHolderModel" "person" "[I") (by decide +kernel)) (fun _ h9 => h9) rfl dX11_personLine_104 ?_
      refine lv_iload_n hx hb dX11_personLine_107 rfl (lv_at hl 1 rfl) ?_
      refine lv_iconst (v := 4) hx hb dX11_personLine_108 (by decide) ?_
      refine lv_iadd hx hb dX11_personLine_109 ?_
      refine nm_add (e1 := 164) (f := 199) hz9 (rgn 4 (x := 4) (by decide)) (by decide) (fun z109 hz109 ez109 => ?_)
      replace ez109 := eqc_r ez109 (c := 4) (by decide)
      refine lv_iconst (v := 0) hx hb dX11_personLine_110 (by decide) ?_
      refine va_iast hx hb hK.1 hP hD hS 3 0 rfl rfl (in_rg hz109 (by decide)) dX11_personLine_111 (fun H locs hP hD hS => ?_)
      have h_13 : psI (upd (upd (upd (upd (upd f8 z9.toNatClampNeg r24) z34.toNatClampNeg y60_0) z67.toNatClampNeg y93_0) z100.toNatClampNeg (-1)) z109.toNatClampNeg 0) := ps_u0 h_12 (i := z109) (c := 4) (by have := ez109; have := ez9; omega) (rg_w (c := 0) (d := 2147483647) hz109 (by decide)) (by decide)
      refine lv_aload_n hx hb dX11_personLine_112 rfl (lv_at hl 0 rfl) ?_
      refine lv_iconst (v := 1) hx hb dX11_personLine_113 (by decide) ?_
      refine lv_aload_n hx hb dX11_personLine_114 rfl (lv_at hl 0 rfl) ?_
      refine lv_iconst (v := 1) hx hb dX11_personLine_115 (by decide) ?_
      refine ro_calli (va_runV (As := [.int 1]) (rest := [.int 1, .ref a0]) ⟨hx, hb, hml, hown, hts⟩ (a_X11_hasRead1 l G ct a0 n0_0 a1 a2 a3 a4 a5 n0_6 v93_0_7 v93_0_8 v93_0_9 v93_0_10 v93_0_11 v93_0_12 v93_0_13 n0_14 n0_15 a6 a7 a8 a9 a10 a11 a12 a13 n0_24 n0_25 n0_26 n0_27 a14 n0_29 n0_30 f7 hp_n0_6 hp_f7) (cwV 1 hts gX11_personLine_X11_hasRead rfl rfl rfl (by decide +kernel) ⟨Nat.le_of_ble_eq_true rfl, Nat.le_of_ble_eq_true rfl⟩) (ro_preV 11 0 hK (hP.sub [0, 2] rfl) rfl rfl) rfl rfl hl.1 rfl (lv_room (Nat.le_of_ble_eq_true rfl)) dX11_personLine_116 ⟨Nat.zero_le _, Nat.zero_le _⟩) hS hP (fun r116 H locs wr116 hP hS => ?_)
      obtain ⟨p_14, p_15, -⟩ := wr116
      have gr116 := p_15
      have h_16 : rg 0 7 r116 := by rw [show r116 = r5 from gr116.trans gr5.symm]; exact h_3
      refine lv_iconst (v := 1) hx hb dX11_personLine_119 (by decide) ?_
      refine lv_iadd hx hb dX11_personLine_120 ?_
      refine nm_add (e1 := 1) (f := 8) h_16 (rgn 1 (x := 1) (by decide)) (by decide) (fun z120 hz120 ez120 => ?_)
      replace ez120 := eqc_r ez120 (c := 1) (by decide)
      refine wj_callv (wr := [(a5, .inl (ct 1, 900, .inl f5)), (a8, .inl (ct 0, 200, .inl (upd (upd (upd (upd (upd f8 z9.toNatClampNeg r24) z34.toNatClampNeg y60_0) z67.toNatClampNeg y93_0) z100.toNatClampNeg (-1)) z109.toNatClampNeg 0)))]) (w1 := (fun u : SU => [(a0, .inr (11, [.int n0_0, .ref a1, .ref a2, .ref a3, .ref a4, .ref a5, .int n0_6, .int v93_0_7, .int v93_0_8, .int v93_0_9, .int v93_0_10, .long v93_0_11, .int v93_0_12, .int v93_0_13, .int n0_14, .int n0_15, .ref a6, .ref a7, .ref a8, .ref a9, .ref a10, .ref a11, .ref a12, .ref a13, .int n0_24, .int n0_25, .int n0_26, .int n0_27, .ref a14, .int n0_29, .int n0_30])), (a7, .inl (ct 0, 15, .inl (u.2.1 0)))])) (va_runV (As := [.int 1, .int z120]) (rest := []) ⟨hx, hb, hml, hown, hts⟩ (a_X11_tells1 l G ct a0 n0_0 a1 a2 a3 a4 a5 n0_6 v93_0_7 v93_0_8 v93_0_9 v93_0_10 v93_0_11 v93_0_12 v93_0_13 n0_14 n0_15 a6 a7 a8 a9 a10 a11 a12 a13 n0_24 n0_25 n0_26 n0_27 a14 n0_29 n0_30 f7 z120 hp_n0_6 hp_f7 (rg_w (c := 0) (d := 8) hz120 (by decide))) (cwV 2 hts gX11_personLine_X11_tells rfl rfl rfl (by decide +kernel) ⟨Nat.le_of_ble_eq_true rfl, Nat.le_of_ble_eq_true rfl⟩) (wr_preV 11 0 hK (hP.sub [0, 2] rfl) (hD.sub [0, 2] (by decide) rfl) rfl rfl) rfl rfl hl.1 rfl (lv_room (Nat.le_of_ble_eq_true rfl)) dX11_personLine_121 ⟨Nat.zero_le _, Nat.zero_le _⟩) hS hP hD [0, 2] [1, 3] rfl rfl (by decide) (fun _ => rfl) (fun ur121 H locs wr121 hP hD hS => ?_)
      have hP : va_P G vwCl [(a0, .inr (11, [.int n0_0, .ref a1, .ref a2, .ref a3, .ref a4, .ref a5, .int n0_6, .int v93_0_7, .int v93_0_8, .int v93_0_9, .int v93_0_10, .long v93_0_11, .int v93_0_12, .int v93_0_13, .int n0_14, .int n0_15, .ref a6, .ref a7, .ref a8, .ref a9, .ref a10, .ref a11, .ref a12, .ref a13, .int n0_24, .int n0_25, .int n0_26, .int n0_27, .ref a14, .int n0_29, .int n0_30])), (a5, .inl (ct 1, 900, .inl f5)), (a7, .inl (ct 0, 15, .inl (ur121.2.1 0))), (a8, .inl (ct 0, 200, .inl (upd (upd (upd (upd (upd f8 z9.toNatClampNeg r24) z34.toNatClampNeg y60_0) z67.toNatClampNeg y93_0) z100.toNatClampNeg (-1)) z109.toNatClampNeg 0)))] H := hP.sub [2, 0, 3, 1] rfl
      have hD : va_D A [(a0, .inr (11, [.int n0_0, .ref a1, .ref a2, .ref a3, .ref a4, .ref a5, .int n0_6, .int v93_0_7, .int v93_0_8, .int v93_0_9, .int v93_0_10, .long v93_0_11, .int v93_0_12, .int v93_0_13, .int n0_14, .int n0_15, .ref a6, .ref a7, .ref a8, .ref a9, .ref a10, .ref a11, .ref a12, .ref a13, .int n0_24, .int n0_25, .int n0_26, .int n0_27, .ref a14, .int n0_29, .int n0_30])), (a5, .inl (ct 1, 900, .inl f5)), (a7, .inl (ct 0, 15, .inl (ur121.2.1 0))), (a8, .inl (ct 0, 200, .inl (upd (upd (upd (upd (upd f8 z9.toNatClampNeg r24) z34.toNatClampNeg y60_0) z67.toNatClampNeg y93_0) z100.toNatClampNeg (-1)) z109.toNatClampNeg 0)))] := hD.sub [2, 0, 3, 1] (by decide) rfl
      obtain ⟨p_17, -⟩ := wr121
      exact W.vret hx hb hr (fun t ht hW => ⟨⟨(fun k => ([v93_0_7, v93_0_8, v93_0_9, v93_0_10, v93_0_12, v93_0_13] : List Int32).getD k 0, fun k => ([ur121.2.1 0, upd (upd (upd (upd (upd f8 z9.toNatClampNeg r24) z34.toNatClampNeg y60_0) z67.toNatClampNeg y93_0) z100.toNatClampNeg (-1)) z109.toNatClampNeg 0] : List (Nat → Int32)).getD k (fun _ => 0), fun k => ([fun _ => v93_0_11] : List (Nat → Int64)).getD k (fun _ => 0)), rfl, ⟨p_17, h_13, hv93_0_7, hv93_0_8, hv93_0_10, ⟨(show n0_7.toInt ≤ (v93_0_7).toInt from hb93), (show (v93_0_7).toInt ≤ n0_6.toInt from ha93)⟩, trivial⟩, hp_at ht hP⟩, hS.F ht⟩) hS.2.2 dX11_personLine_124
    have j92 : ∀ (v92_0_7 : Int32) (v92_0_8 : Int32) (v92_0_9 : Int32) (v92_0_10 : Int32) (v92_0_11 : Int64) (H : Heap) (locs : List Loc) (ls : Array Slot), rg 0 900 v92_0_7 → rg 0 4 v92_0_8 → rg 0 1000009 v92_0_10 → v92_0_7.toInt ≤ n0_6.toInt → n0_7.toInt ≤ v92_0_7.toInt → va_P G vwCl [(a0, .inr (11, [.int n0_0, .ref a1, .ref a2, .ref a3, .ref a4, .ref a5, .int n0_6, .int v92_0_7, .int v92_0_8, .int v92_0_9, .int v92_0_10, .long v92_0_11, .int v60_0_12, .int v60_0_13, .int n0_14, .int n0_15, .ref a6, .ref a7, .ref a8, .ref a9, .ref a10, .ref a11, .ref a12, .ref a13, .int n0_24, .int n0_25, .int n0_26, .int n0_27, .ref a14, .int n0_29, .int n0_30])), (a5, .inl (ct 1, 900, .inl f5)), (a7, .inl (ct 0, 15, .inl f7)), (a8, .inl (ct 0, 200, .inl (upd (upd f8 z9.toNatClampNeg r24) z34.toNatClampNeg y60_0)))] H → va_D A [(a0, .inr (11, [.int n0_0, .ref a1, .ref a2, .ref a3, .ref a4, .ref a5, .int n0_6, .int v92_0_7, .int v92_0_8, .int v92_0_9, .int v92_0_10, .long v92_0_11, .int v60_0_12, .int v60_0_13, .int n0_14, .int n0_15, .ref a6, .ref a7, .ref a8, .ref a9, .ref a10, .ref a11, .ref a12, .ref a13, .int n0_24, .int n0_25, .int n0_26, .int n0_27, .ref a14, .int n0_29, .int n0_30])), (a5, .inl (ct 1, 900, .inl f5)), (a7, .inl (ct 0, 15, .inl f7)), (a8, .inl (ct 0, 200, .inl (upd (upd f8 z9.toNatClampNeg r24) z34.toNatClampNeg y60_0)))] → va_S A s.heap H locs → lv_has ls 2 [(0, .ref a0), (1, .int z9)] → W p l e (headSpec wsX11_personLine ({ frames := 5, cells := 0, slots := 0, locals := 112 })).room s m ([.ref a0] : List Value).toArray below meth c H locs 0 0 (MQ below (va_Qv (fun u : SU => hsI (u.2.1 0) ∧ psI (u.2.1 1) ∧ rg 0 900 (u.1 0) ∧ rg 0 4 (u.1 1) ∧ rg 0 1000009 (u.1 3) ∧ (n0_7.toInt ≤ (u.1 0).toInt ∧ (u.1 0).toInt ≤ n0_6.toInt) ∧ True) (fun u t => va_P G vwCl ((fun u : SU => [(a0, .inr (11, [.int n0_0, .ref a1, .ref a2, .ref a3, .ref a4, .ref a5, .int n0_6, .int (u.1 0), .int (u.1 1), .int (u.1 2), .int (u.1 3), .long (u.2.2 0 0), .int (u.1 4), .int (u.1 5), .int n0_14, .int n0_15, .ref a6, .ref a7, .ref a8, .ref a9, .ref a10, .ref a11, .ref a12, .ref a13, .int n0_24, .int n0_25, .int n0_26, .int n0_27, .ref a14, .int n0_29, .int n0_30])), (a5, .inl (ct 1, 900, .inl f5)), (a7, .inl (ct 0, 15, .inl (u.2.1 0))), (a8, .inl (ct 0, 200, .inl (u.2.1 1)))]) u) t.heap) A) ([.ref a0] : List Value).toArray s 0 0 A) (F0 m 92 ls [.int z67, .ref a8]) := by
      intro v92_0_7 v92_0_8 v92_0_9 v92_0_10 v92_0_11 H locs ls hv92_0_7 hv92_0_8 hv92_0_10 ha92 hb92 hP hD hS hl
      refine lv_iconst (v := 0) hx hb dX11_personLine_92 (by decide) ?_
      exact j93 (0 : Int32) v92_0_7 v92_0_8 v92_0_9 v92_0_10 v92_0_11 v60_0_12 v60_0_13 _ _ ls (rg_w (c := 0) (d := 63) (rgn 0 (x := 0) (by decide)) (by decide)) hv92_0_7 hv92_0_8 hv92_0_10 ha92 hb92 hP hD hS (lv_sub hl [0, 1] rfl)
    refine lv_if_ne (tgt := 92) hx hb dX11_personLine_72 (by decide) (fun c72 => ?_) (fun c72 => ?_)
    · exact j92 v60_0_7 v60_0_8 v60_0_9 v60_0_10 v60_0_11 _ _ ls hv60_0_7 hv60_0_8 hv60_0_10 ha60 hb60 hP hD hS (lv_sub hl [0, 1] rfl)
    · have h_18 : rg 0 0 v60_0_12 := r_eq_l_i (e := 0) (f := 0) c72 (rg_t v60_0_12) (rgn 0 (x := 0) (by decide)) (by decide)
      refine lv_aload_n hx hb dX11_personLine_75 rfl (lv_at hl 0 rfl) ?_
      refine lv_ldc2 (own := RX11) (v := 335187793) hx hb hown (hts (.constantLong RX11 160 (335187793)) (by decide +kernel)) dX11_personLine_76 ?_
      refine wj_calli (wr := [(a7, .inl (ct 0, 15, .inl f7)), (a8, .inl (ct 0, 200, .inl (upd (upd f8 z9.toNatClampNeg r24) z34.toNatClampNeg y60_0)))]) (w1 := (fun u : SU => [(a0, .inr (11, [.int n0_0, .ref a1, .ref a2, .ref a3, .ref a4, .ref a5, .int n0_6, .int (u.1 0), .int (u.1 1), .int (u.1 2), .int (u.1 3), .long (u.2.2 0 0), .int v60_0_12, .int v60_0_13, .int n0_14, .int n0_15, .ref a6, .ref a7, .ref a8, .ref a9, .ref a10, .ref a11, .ref a12, .ref a13, .int n0_24, .int n0_25, .int n0_26, .int n0_27, .ref a14, .int n0_29, .int n0_30])), (a5, .inl (ct 1, 900, .inl f5))])) (va_runV (As := [.long 335187793]) (rest := [.int z67, .ref a8]) ⟨hx, hb, hml, hown, hts⟩ (a_X11_takes l G ct a0 n0_0 a1 a2 a3 a4 a5 n0_6 v60_0_7 v60_0_8 v60_0_9 v60_0_10 v60_0_11 v60_0_12 v60_0_13 n0_14 n0_15 a6 a7 a8 a9 a10 a11 a12 a13 n0_24 n0_25 n0_26 n0_27 a14 n0_29 n0_30 f5 (335187793 : Int64) hp_n0_6 hv60_0_7 hv60_0_8 hv60_0_10 ha60) (cwV 1 hts gX11_personLine_X11_takes rfl rfl rfl (by decide +kernel) ⟨Nat.le_of_ble_eq_true rfl, Nat.le_of_ble_eq_true rfl⟩) (wr_preV 11 0 hK (hP.sub [0, 1] rfl) (hD.sub [0, 1] (by decide) rfl) rfl rfl) rfl rfl hl.1 rfl (lv_room (Nat.le_of_ble_eq_true rfl)) dX11_personLine_79 ⟨Nat.zero_le _, Nat.zero_le _⟩) hS hP hD [0, 1] [2, 3] rfl rfl (by decide) (fun _ => rfl) (fun r79 ur79 H locs wr79 hP hD hS => ?_)
      have hP : va_P G vwCl [(a0, .inr (11, [.int n0_0, .ref a1, .ref a2, .ref a3, .ref a4, .ref a5, .int n0_6, .int (ur79.1 0), .int (ur79.1 1), .int (ur79.1 2), .int (ur79.1 3), .long (ur79.2.2 0 0), .int v60_0_12, .int v60_0_13, .int n0_14, .int n0_15, .ref a6, .ref a7, .ref a8, .ref a9, .ref a10, .ref a11, .ref a12, .ref a13, .int n0_24, .int n0_25, .int n0_26, .int n0_27, .ref a14, .int n0_29, .int n0_30])), (a5, .inl (ct 1, 900, .inl f5)), (a7, .inl (ct 0, 15, .inl f7)), (a8, .inl (ct 0, 200, .inl (upd (upd f8 z9.toNatClampNeg r24) z34.toNatClampNeg y60_0)))] H := hP.sub [2, 3, 0, 1] rfl
      have hD : va_D A [(a0, .inr (11, [.int n0_0, .ref a1, .ref a2, .ref a3, .ref a4, .ref a5, .int n0_6, .int (ur79.1 0), .int (ur79.1 1), .int (ur79.1 2), .int (ur79.1 3), .long (ur79.2.2 0 0), .int v60_0_12, .int v60_0_13, .int n0_14, .int n0_15, .ref a6, .ref a7, .ref a8, .ref a9, .ref a10, .ref a11, .ref a12, .ref a13, .int n0_24, .int n0_25, .int n0_26, .int n0_27, .ref a14, .int n0_29, .int n0_30])), (a5, .inl (ct 1, 900, .inl f5)), (a7, .inl (ct 0, 15, .inl f7)), (a8, .inl (ct 0, 200, .inl (upd (upd f8 z9.toNatClampNeg r24) z34.toNatClampNeg y60_0)))] := hD.sub [2, 3, 0, 1] (by decide) rfl
      obtain ⟨p_19, p_20, p_21, p_22, p_23, p_24, -⟩ := wr79
      refine lv_if_eq (tgt := 92) hx hb dX11_personLine_82 (by decide) (fun c82 => ?_) (fun c82 => ?_)
      · have h_25 : rg 0 0 r79 := r_eq_l_i (e := 0) (f := 0) c82 p_19 (rgn 0 (x := 0) (by decide)) (by decide)
        exact j92 (ur79.1 0) (ur79.1 1) (ur79.1 2) (ur79.1 3) (ur79.2.2 0 0) _ _ ls p_21 p_22 p_23 p_24.2 (Int.le_trans hb60 p_24.1) hP hD hS (lv_sub hl [0, 1] rfl)
      · have h_26 : rg 1 1 r79 := r_ne_lo_i c82 p_19 (by decide) (by decide)
        refine lv_aload_n hx hb dX11_personLine_85 rfl (lv_at hl 0 rfl) ?_
        refine wj_calli (wr := [(a7, .inl (ct 0, 15, .inl f7)), (a8, .inl (ct 0, 200, .inl (upd (upd f8 z9.toNatClampNeg r24) z34.toNatClampNeg y60_0)))]) (w1 := (fun u : SU => [(a0, .inr (11, [.int n0_0, .ref a1, .ref a2, .ref a3, .ref a4, .ref a5, .int n0_6, .int (u.1 0), .int (u.1 1), .int (u.1 2), .int (u.1 3), .long (u.2.2 0 0), .int (u.1 4), .int (u.1 5), .int n0_14, .int n0_15, .ref a6, .ref a7, .ref a8, .ref a9, .ref a10, .ref a11, .ref a12, .ref a13, .int n0_24, .int n0_25, .int n0_26, .int n0_27, .ref a14, .int n0_29, .int n0_30])), (a5, .inl (ct 1, 900, .inl f5))])) (va_runV (As := []) (rest := [.int z67, .ref a8]) ⟨hx, hb, hml, hown, hts⟩ (a_X11_deedsHere l G ct a0 n0_0 a1 a2 a3 a4 a5 n0_6 (ur79.1 0) (ur79.1 1) (ur79.1 2) (ur79.1 3) (ur79.2.2 0 0) v60_0_12 v60_0_13 n0_14 n0_15 a6 a7 a8 a9 a10 a11 a12 a13 n0_24 n0_25 n0_26 n0_27 a14 n0_29 n0_30 f5 hp_n0_6 p_21 p_22 p_23 p_24.2) (cwV 0 hts gX11_personLine_X11_deedsHere rfl rfl rfl (by decide +kernel) ⟨Nat.le_of_ble_eq_true rfl, Nat.le_of_ble_eq_true rfl⟩) (wr_preV 11 0 hK (hP.sub [0, 1] rfl) (hD.sub [0, 1] (by decide) rfl) rfl rfl) rfl rfl hl.1 rfl (lv_room (Nat.le_of_ble_eq_true rfl)) dX11_personLine_86 ⟨Nat.zero_le _, Nat.zero_le _⟩) hS hP hD [0, 1] [2, 3] rfl rfl (by decide) (fun _ => rfl) (fun r86 ur86 H locs wr86 hP hD hS => ?_)
        have hP : va_P G vwCl [(a0, .inr (11, [.int n0_0, .ref a1, .ref a2, .ref a3, .ref a4, .ref a5, .int n0_6, .int (ur86.1 0), .int (ur86.1 1), .int (ur86.1 2), .int (ur86.1 3), .long (ur86.2.2 0 0), .int (ur86.1 4), .int (ur86.1 5), .int n0_14, .int n0_15, .ref a6, .ref a7, .ref a8, .ref a9, .ref a10, .ref a11, .ref a12, .ref a13, .int n0_24, .int n0_25, .int n0_26, .int n0_27, .ref a14, .int n0_29, .int n0_30])), (a5, .inl (ct 1, 900, .inl f5)), (a7, .inl (ct 0, 15, .inl f7)), (a8, .inl (ct 0, 200, .inl (upd (upd f8 z9.toNatClampNeg r24) z34.toNatClampNeg y60_0)))] H := hP.sub [2, 3, 0, 1] rfl
        have hD : va_D A [(a0, .inr (11, [.int n0_0, .ref a1, .ref a2, .ref a3, .ref a4, .ref a5, .int n0_6, .int (ur86.1 0), .int (ur86.1 1), .int (ur86.1 2), .int (ur86.1 3), .long (ur86.2.2 0 0), .int (ur86.1 4), .int (ur86.1 5), .int n0_14, .int n0_15, .ref a6, .ref a7, .ref a8, .ref a9, .ref a10, .ref a11, .ref a12, .ref a13, .int n0_24, .int n0_25, .int n0_26, .int n0_27, .ref a14, .int n0_29, .int n0_30])), (a5, .inl (ct 1, 900, .inl f5)), (a7, .inl (ct 0, 15, .inl f7)), (a8, .inl (ct 0, 200, .inl (upd (upd f8 z9.toNatClampNeg r24) z34.toNatClampNeg y60_0)))] := hD.sub [2, 3, 0, 1] (by decide) rfl
        obtain ⟨p_27, p_28, p_29, p_30, p_31, -⟩ := wr86
        refine lv_goto (tgt := 93) hx hb dX11_personLine_89 (by decide) ?_
        exact j93 r86 (ur86.1 0) (ur86.1 1) (ur86.1 2) (ur86.1 3) (ur86.2.2 0 0) (ur86.1 4) (ur86.1 5) _ _ ls (rg_w (c := 0) (d := 63) p_27 (by decide)) p_28 p_29 p_30 p_31.2 (Int.le_trans (Int.le_trans hb60 p_24.1) p_31.1) hP hD hS (lv_sub hl [0, 1] rfl)
  have j59 : ∀ (v59_0_7 : Int32) (v59_0_8 : Int32) (v59_0_9 : Int32) (v59_0_10 : Int32) (v59_0_11 : Int64) (H : Heap) (locs : List Loc) (ls : Array Slot), rg 0 900 v59_0_7 → rg 0 4 v59_0_8 → rg 0 1000009 v59_0_10 → v59_0_7.toInt ≤ n0_6.toInt → n0_7.toInt ≤ v59_0_7.toInt → va_P G vwCl [(a0, .inr (11, [.int n0_0, .ref a1, .ref a2, .ref a3, .ref a4, .ref a5, .int n0_6, .int v59_0_7, .int v59_0_8, .int v59_0_9, .int v59_0_10, .long v59_0_11, .int (ur24.1 4), .int (ur24.1 5), .int n0_14, .int n0_15, .ref a6, .ref a7, .ref a8, .ref a9, .ref a10, .ref a11, .ref a12, .ref a13, .int n0_24, .int n0_25, .int n0_26, .int n0_27, .ref a14, .int n0_29, .int n0_30])), (a5, .inl (ct 1, 900, .inl f5)), (a7, .inl (ct 0, 15, .inl f7)), (a8, .inl (ct 0, 200, .inl (upd f8 z9.toNatClampNeg r24)))] H → va_D A [(a0, .inr (11, [.int n0_0, .ref a1, .ref a2, .ref a3, .ref a4, .ref a5, .int n0_6, .int v59_0_7, .int v59_0_8, .int v59_0_9, .int v59_0_10, .long v59_0_11, .int (ur24.1 4), .int (ur24.1 5), .int n0_14, .int n0_15, .ref a6, .ref a7, .ref a8, .ref a9, .ref a10, .ref a11, .ref a12, .ref a13, .int n0_24, .int n0_25, .int n0_26, .int n0_27, .ref a14, .int n0_29, .int n0_30])), (a5, .inl (ct 1, 900, .inl f5)), (a7, .inl (ct 0, 15, .inl f7)), (a8, .inl (ct 0, 200, .inl (upd f8 z9.toNatClampNeg r24)))] → va_S A s.heap H locs → lv_has ls 2 [(0, .ref a0), (1, .int z9)] → W p l e (headSpec wsX11_personLine ({ frames := 5, cells := 0, slots := 0, locals := 112 })).room s m ([.ref a0] : List Value).toArray below meth c H locs 0 0 (MQ below (va_Qv (fun u : SU => hsI (u.2.1 0) ∧ psI (u.2.1 1) ∧ rg 0 900 (u.1 0) ∧ rg 0 4 (u.1 1) ∧ rg 0 1000009 (u.1 3) ∧ (n0_7.toInt ≤ (u.1 0).toInt ∧ (u.1 0).toInt ≤ n0_6.toInt) ∧ True) (fun u t => va_P G vwCl ((fun u : SU => [(a0, .inr (11, [.int n0_0, .ref a1, .ref a2, .ref a3, .ref a4, .ref a5, .int n0_6, .int (u.1 0), .int (u.1 1), .int (u.1 2), .int (u.1 3), .long (u.2.2 0 0), .int (u.1 4), .int (u.1 5), .int n0_14, .int n0_15, .ref a6, .ref a7, .ref a8, .ref a9, .ref a10, .ref a11, .ref a12, .ref a13, .int n0_24, .int n0_25, .int n0_26, .int n0_27, .ref a14, .int n0_29, .int n0_30])), (a5, .inl (ct 1, 900, .inl f5)), (a7, .inl (ct 0, 15, .inl (u.2.1 0))), (a8, .inl (ct 0, 200, .inl (u.2.1 1)))]) u) t.heap) A) ([.ref a0] : List Value).toArray s 0 0 A) (F0 m 59 ls [.int z34, .ref a8]) := by
    intro v59_0_7 v59_0_8 v59_0_9 v59_0_10 v59_0_11 H locs ls hv59_0_7 hv59_0_8 hv59_0_10 ha59 hb59 hP hD hS hl
    refine lv_iconst (v := 0) hx hb dX11_personLine_59 (by decide) ?_
    exact j60 (0 : Int32) v59_0_7 v59_0_8 v59_0_9 v59_0_10 v59_0_11 (ur24.1 4) (ur24.1 5) _ _ ls (rg_w (c := 0) (d := 63) (rgn 0 (x := 0) (by decide)) (by decide)) hv59_0_7 hv59_0_8 hv59_0_10 ha59 hb59 hP hD hS (lv_sub hl [0, 1] rfl)
  refine lv_if_ne (tgt := 59) hx hb dX11_personLine_39 (by decide) (fun c39 => ?_) (fun c39 => ?_)
  · exact j59 (ur24.1 0) (ur24.1 1) (ur24.1 2) (ur24.1 3) (ur24.2.2 0 0) _ _ ls p_5 p_6 p_7 p_8.2 (Int.le_trans (Int.le_refl _) p_8.1) hP hD hS (lv_sub hl [1, 0] rfl)
  · have h_32 : rg 0 0 (ur24.1 4) := r_eq_l_i (e := 0) (f := 0) c39 (rg_t (ur24.1 4)) (rgn 0 (x := 0) (by decide)) (by decide)
    refine lv_aload_n hx hb dX11_personLine_42 rfl (lv_at hl 1 rfl) ?_
    refine lv_ldc2 (own := RX11) (v := 89821) hx hb hown (hts (.constantLong RX11 154 (89821)) (by decide +kernel)) dX11_personLine_43 ?_
    refine wj_calli (wr := [(a7, .inl (ct 0, 15, .inl f7)), (a8, .inl (ct 0, 200, .inl (upd f8 z9.toNatClampNeg r24)))]) (w1 := (fun u : SU => [(a0, .inr (11, [.int n0_0, .ref a1, .ref a2, .ref a3, .ref a4, .ref a5, .int n0_6, .int (u.1 0), .int (u.1 1), .int (u.1 2), .int (u.1 3), .long (u.2.2 0 0), .int (ur24.1 4), .int (ur24.1 5), .int n0_14, .int n0_15, .ref a6, .ref a7, .ref a8, .ref a9, .ref a10, .ref a11, .ref a12, .ref a13, .int n0_24, .int n0_25, .int n0_26, .int n0_27, .ref a14, .int n0_29, .int n0_30])), (a5, .inl (ct 1, 900, .inl f5))])) (va_runV (As := [.long 89821]) (rest := [.int z34, .ref a8]) ⟨hx, hb, hml, hown, hts⟩ (a_X11_takes l G ct a0 n0_0 a1 a2 a3 a4 a5 n0_6 (ur24.1 0) (ur24.1 1) (ur24.1 2) (ur24.1 3) (ur24.2.2 0 0) (ur24.1 4) (ur24.1 5) n0_14 n0_15 a6 a7 a8 a9 a10 a11 a12 a13 n0_24 n0_25 n0_26 n0_27 a14 n0_29 n0_30 f5 (89821 : Int64) hp_n0_6 p_5 p_6 p_7 p_8.2) (cwV 1 hts gX11_personLine_X11_takes rfl rfl rfl (by decide +kernel) ⟨Nat.le_of_ble_eq_true rfl, Nat.le_of_ble_eq_true rfl⟩) (wr_preV 11 0 hK (hP.sub [0, 1] rfl) (hD.sub [0, 1] (by decide) rfl) rfl rfl) rfl rfl hl.1 rfl (lv_room (Nat.le_of_ble_eq_true rfl)) dX11_personLine_46 ⟨Nat.zero_le _, Nat.zero_le _⟩) hS hP hD [0, 1] [2, 3] rfl rfl (by decide) (fun _ => rfl) (fun r46 ur46 H locs wr46 hP hD hS => ?_)
    have hP : va_P G vwCl [(a0, .inr (11, [.int n0_0, .ref a1, .ref a2, .ref a3, .ref a4, .ref a5, .int n0_6, .int (ur46.1 0), .int (ur46.1 1), .int (ur46.1 2), .int (ur46.1 3), .long (ur46.2.2 0 0), .int (ur24.1 4), .int (ur24.1 5), .int n0_14, .int n0_15, .ref a6, .ref a7, .ref a8, .ref a9, .ref a10, .ref a11, .ref a12, .ref a13, .int n0_24, .int n0_25, .int n0_26, .int n0_27, .ref a14, .int n0_29, .int n0_30])), (a5, .inl (ct 1, 900, .inl f5)), (a7, .inl (ct 0, 15, .inl f7)), (a8, .inl (ct 0, 200, .inl (upd f8 z9.toNatClampNeg r24)))] H := hP.sub [2, 3, 0, 1] rfl
    have hD : va_D A [(a0, .inr (11, [.int n0_0, .ref a1, .ref a2, .ref a3, .ref a4, .ref a5, .int n0_6, .int (ur46.1 0), .int (ur46.1 1), .int (ur46.1 2), .int (ur46.1 3), .long (ur46.2.2 0 0), .int (ur24.1 4), .int (ur24.1 5), .int n0_14, .int n0_15, .ref a6, .ref a7, .ref a8, .ref a9, .ref a10, .ref a11, .ref a12, .ref a13, .int n0_24, .int n0_25, .int n0_26, .int n0_27, .ref a14, .int n0_29, .int n0_30])), (a5, .inl (ct 1, 900, .inl f5)), (a7, .inl (ct 0, 15, .inl f7)), (a8, .inl (ct 0, 200, .inl (upd f8 z9.toNatClampNeg r24)))] := hD.sub [2, 3, 0, 1] (by decide) rfl
    obtain ⟨p_33, p_34, p_35, p_36, p_37, p_38, -⟩ := wr46
    refine lv_if_eq (tgt := 59) hx hb dX11_personLine_49 (by decide) (fun c49 => ?_) (fun c49 => ?_)
    · have h_39 : rg 0 0 r46 := r_eq_l_i (e := 0) (f := 0) c49 p_33 (rgn 0 (x := 0) (by decide)) (by decide)
      exact j59 (ur46.1 0) (ur46.1 1) (ur46.1 2) (ur46.1 3) (ur46.2.2 0 0) _ _ ls p_35 p_36 p_37 p_38.2 (Int.le_trans (Int.le_trans (Int.le_refl _) p_8.1) p_38.1) hP hD hS (lv_sub hl [1, 0] rfl)
    · have h_40 : rg 1 1 r46 := r_ne_lo_i c49 p_33 (by decide) (by decide)
      refine lv_aload_n hx hb dX11_personLine_52 rfl (lv_at hl 1 rfl) ?_
      refine wj_calli (wr := [(a7, .inl (ct 0, 15, .inl f7)), (a8, .inl (ct 0, 200, .inl (upd f8 z9.toNatClampNeg r24)))]) (w1 := (fun u : SU => [(a0, .inr (11, [.int n0_0, .ref a1, .ref a2, .ref a3, .ref a4, .ref a5, .int n0_6, .int (u.1 0), .int (u.1 1), .int (u.1 2), .int (u.1 3), .long (u.2.2 0 0), .int (u.1 4), .int (u.1 5), .int n0_14, .int n0_15, .ref a6, .ref a7, .ref a8, .ref a9, .ref a10, .ref a11, .ref a12, .ref a13, .int n0_24, .int n0_25, .int n0_26, .int n0_27, .ref a14, .int n0_29, .int n0_30])), (a5, .inl (ct 1, 900, .inl f5))])) (va_runV (As := []) (rest := [.int z34, .ref a8]) ⟨hx, hb, hml, hown, hts⟩ (a_X11_deedsHere l G ct a0 n0_0 a1 a2 a3 a4 a5 n0_6 (ur46.1 0) (ur46.1 1) (ur46.1 2) (ur46.1 3) (ur46.2.2 0 0) (ur24.1 4) (ur24.1 5) n0_14 n0_15 a6 a7 a8 a9 a10 a11 a12 a13 n0_24 n0_25 n0_26 n0_27 a14 n0_29 n0_30 f5 hp_n0_6 p_35 p_36 p_37 p_38.2) (cwV 0 hts gX11_personLine_X11_deedsHere rfl rfl rfl (by decide +kernel) ⟨Nat.le_of_ble_eq_true rfl, Nat.le_of_ble_eq_true rfl⟩) (wr_preV 11 0 hK (hP.sub [0, 1] rfl) (hD.sub [0, 1] (by decide) rfl) rfl rfl) rfl rfl hl.1 rfl (lv_room (Nat.le_of_ble_eq_true rfl)) dX11_personLine_53 ⟨Nat.zero_le _, Nat.zero_le _⟩) hS hP hD [0, 1] [2, 3] rfl rfl (by decide) (fun _ => rfl) (fun r53 ur53 H locs wr53 hP hD hS => ?_)
      have hP : va_P G vwCl [(a0, .inr (11, [.int n0_0, .ref a1, .ref a2, .ref a3, .ref a4, .ref a5, .int n0_6, .int (ur53.1 0), .int (ur53.1 1), .int (ur53.1 2), .int (ur53.1 3), .long (ur53.2.2 0 0), .int (ur53.1 4), .int (ur53.1 5), .int n0_14, .int n0_15, .ref a6, .ref a7, .ref a8, .ref a9, .ref a10, .ref a11, .ref a12, .ref a13, .int n0_24, .int n0_25, .int n0_26, .int n0_27, .ref a14, .int n0_29, .int n0_30])), (a5, .inl (ct 1, 900, .inl f5)), (a7, .inl (ct 0, 15, .inl f7)), (a8, .inl (ct 0, 200, .inl (upd f8 z9.toNatClampNeg r24)))] H := hP.sub [2, 3, 0, 1] rfl
      have hD : va_D A [(a0, .inr (11, [.int n0_0, .ref a1, .ref a2, .ref a3, .ref a4, .ref a5, .int n0_6, .int (ur53.1 0), .int (ur53.1 1), .int (ur53.1 2), .int (ur53.1 3), .long (ur53.2.2 0 0), .int (ur53.1 4), .int (ur53.1 5), .int n0_14, .int n0_15, .ref a6, .ref a7, .ref a8, .ref a9, .ref a10, .ref a11, .ref a12, .ref a13, .int n0_24, .int n0_25, .int n0_26, .int n0_27, .ref a14, .int n0_29, .int n0_30])), (a5, .inl (ct 1, 900, .inl f5)), (a7, .inl (ct 0, 15, .inl f7)), (a8, .inl (ct 0, 200, .inl (upd f8 z9.toNatClampNeg r24)))] := hD.sub [2, 3, 0, 1] (by decide) rfl
      obtain ⟨p_41, p_42, p_43, p_44, p_45, -⟩ := wr53
      refine lv_goto (tgt := 60) hx hb dX11_personLine_56 (by decide) ?_
      exact j60 r53 (ur53.1 0) (ur53.1 1) (ur53.1 2) (ur53.1 3) (ur53.2.2 0 0) (ur53.1 4) (ur53.1 5) _ _ ls (rg_w (c := 0) (d := 63) p_41 (by decide)) p_42 p_43 p_44 p_45.2 (Int.le_trans (Int.le_trans (Int.le_trans (Int.le_refl _) p_8.1) p_38.1) p_45.1) hP hD hS (lv_sub hl [1, 0] rfl)

set_option maxHeartbeats 4000000 in
set_option maxRecDepth 100000 in
theorem a_X11_cardLine (l : Launch) (G : va_G) (ct : Nat → ClassId) (a0 : Nat) (n0_0 : Int32) (a1 : Nat) (a2 : Nat) (a3 : Nat) (a4 : Nat) (a5 : Nat) (n0_6 : Int32) (n0_7 : Int32) (n0_8 : Int32) (n0_9 : Int32) (n0_10 : Int32) (l0_11 : Int64) (n0_12 : Int32) (n0_13 : Int32) (n0_14 : Int32) (n0_15 : Int32) (a6 : Nat) (a7 : Nat) (a8 : Nat) (a9 : Nat) (a10 : Nat) (a11 : Nat) (a12 : Nat) (a13 : Nat) (n0_24 : Int32) (n0_25 : Int32) (n0_26 : Int32) (n0_27 : Int32) (a14 : Nat) (n0_29 : Int32) (n0_30 : Int32) (f5 : Nat → Int32) (f7 : Nat → Int32) (f8 : Nat → Int32) (hp_n0_6 : rg 0 900 n0_6) (hp_f7 : hsI f7) (hp_f8 : psI f8) (hp_n0_7 : rg 0 900 n0_7) (hp_n0_8 : rg 0 4 n0_8) (hp_n0_10 : rg 0 1000009 n0_10) (hat : n0_7.toInt ≤ n0_6.toInt) : Met l yX11_cardLine wsX11_cardLine ({ frames := 4, cells := 0, slots := 0, locals := 88 }) (va_Pc [.ref a0] (wrP G ct [(a0, .inr (11, [.int n0_0, .ref a1, .ref a2, .ref a3, .ref a4, .ref a5, .int n0_6, .int n0_7, .int n0_8, .int n0_9, .int n0_10, .long l0_11, .int n0_12, .int n0_13, .int n0_14, .int n0_15, .ref a6, .ref a7, .ref a8, .ref a9, .ref a10, .ref a11, .ref a12, .ref a13, .int n0_24, .int n0_25, .int n0_26, .int n0_27, .ref a14, .int n0_29, .int n0_30])), (a5, .inl (ct 1, 900, .inl f5)), (a7, .inl (ct 0, 15, .inl f7)), (a8, .inl (ct 0, 200, .inl f8))])) (va_Qv (fun u : SU => psI (u.2.1 0) ∧ rg 0 900 (u.1 0) ∧ rg 0 4 (u.1 1) ∧ rg 0 1000009 (u.1 3) ∧ (n0_7.toInt ≤ (u.1 0).toInt ∧ (u.1 0).toInt ≤ n0_6.toInt) ∧ True) (fun u t => va_P G vwCl ((fun u : SU => [(a0, .inr (11, [.int n0_0, .ref a1, .ref a2, .ref a3, .ref a4, .ref a5, .int n0_6, .int (u.1 0), .int (u.1 1), .int (u.1 2), .int (u.1 3), .long (u.2.2 0 0), .int (u.1 4), .int (u.1 5), .int n0_14, .int n0_15, .ref a6, .ref a7, .ref a8, .ref a9, .ref a10, .ref a11, .ref a12, .ref a13, .int n0_24, .int n0_25, .int n0_26, .int n0_27, .ref a14, .int n0_29, .int n0_30])), (a5, .inl (ct 1, 900, .inl f5)), (a7, .inl (ct 0, 15, .inl f7)), (a8, .inl (ct 0, 200, .inl (u.2.1 0)))]) u) t.heap) (aset [(a0, .inr (11, [.int n0_0, .ref a1, .ref a2, .ref a3, .ref a4, .ref a5, .int n0_6, .int n0_7, .int n0_8, .int n0_9, .int n0_10, .long l0_11, .int n0_12, .int n0_13, .int n0_14, .int n0_15, .ref a6, .ref a7, .ref a8, .ref a9, .ref a10, .ref a11, .ref a12, .ref a13, .int n0_24, .int n0_25, .int n0_26, .int n0_27, .ref a14, .int n0_29, .int n0_30])), (a5, .inl (ct 1, 900, .inl f5)), (a7, .inl (ct 0, 15, .inl f7)), (a8, .inl (ct 0, 200, .inl f8))])) 0 0 (aset [(a0, .inr (11, [.int n0_0, .ref a1, .ref a2, .ref a3, .ref a4, .ref a5, .int n0_6, .int n0_7, .int n0_8, .int n0_9, .int n0_10, .long l0_11, .int n0_12, .int n0_13, .int n0_14, .int n0_15, .ref a6, .ref a7, .ref a8, .ref a9, .ref a10, .ref a11, .ref a12, .ref a13, .int n0_24, .int n0_25, .int n0_26, .int n0_27, .ref a14, .int n0_29, .int n0_30])), (a5, .inl (ct 1, 900, .inl f5)), (a7, .inl (ct 0, 15, .inl f7)), (a8, .inl (ct 0, 200, .inl f8))]) := by
  refine Met.ofW (cc := cX11_cardLine) (maxL := 4) (ret := none) (by decide) rfl ?_
  intro p e s m args below meth c s₁ B hml hv
  obtain ⟨rfl, hP, hK, hD0⟩ := hv
  have hx := B.exec
  have hb := B.bytes
  have hr := B.returns
  have hts := atoms_spec (ws := wsX11_cardLine) B.pre
  have hown : s.vm.findClass RX11 = some m.cls := findClass_of_methodNamed B.named
  have hlocks := B.notSynchronized
  have hD := hD0.aself
  generalize hAe : aset [(a0, .inr (11, [.int n0_0, .ref a1, .ref a2, .ref a3, .ref a4, .ref a5, .int n0_6, .int n0_7, .int n0_8, .int n0_9, .int n0_10, .long l0_11, .int n0_12, .int n0_13, .int n0_14, .int n0_15, .ref a6, .ref a7, .ref a8, .ref a9, .ref a10, .ref a11, .ref a12, .ref a13, .int n0_24, .int n0_25, .int n0_26, .int n0_27, .ref a14, .int n0_29, .int n0_30])), (a5, .inl (ct 1, 900, .inl f5)), (a7, .inl (ct 0, 15, .inl f7)), (a8, .inl (ct 0, 200, .inl f8))] = A at hD ⊢
  have hS : va_S A s.heap s.heap [] := va_S.rf
  have hl := lv_entry ([.ref a0]) (n := 4) (Nat.le_of_ble_eq_true rfl)
  rw [lg_entry_eq]
  generalize (lg_sl ([.ref a0]) ++ List.replicate (4 - (lg_sl ([.ref a0])).length) Slot.unset).toArray = ls at hl ⊢
  have hl : lv_has ls 4 [(0, .ref a0)] := hl
  refine lv_aload_n hx hb dX11_cardLine_0 rfl (lv_at hl 0 rfl) ?_
  refine va_get (D := G) (ci := 11) (v := .int n0_12) (C := RX11) (T := TX11) (N := 31) hx hb hts (by decide +kernel) hown hK.1 hP 0 rfl rfl 12 (by decide) (hts (.fieldLink RX11 111 "CardHolderModel" "bad" "I") (by decide +kernel)) (fun _ h9 => h9) rfl dX11_cardLine_1 ?_
  have j52 : ∀ (v52_0_12 : Int32) (v52_0_13 : Int32) (H : Heap) (locs : List Loc) (ls : Array Slot), va_P G vwCl [(a0, .inr (11, [.int n0_0, .ref a1, .ref a2, .ref a3, .ref a4, .ref a5, .int n0_6, .int n0_7, .int n0_8, .int n0_9, .int n0_10, .long l0_11, .int v52_0_12, .int v52_0_13, .int n0_14, .int n0_15, .ref a6, .ref a7, .ref a8, .ref a9, .ref a10, .ref a11, .ref a12, .ref a13, .int n0_24, .int n0_25, .int n0_26, .int n0_27, .ref a14, .int n0_29, .int n0_30])), (a5, .inl (ct 1, 900, .inl f5)), (a7, .inl (ct 0, 15, .inl f7)), (a8, .inl (ct 0, 200, .inl f8))] H → va_D A [(a0, .inr (11, [.int n0_0, .ref a1, .ref a2, .ref a3, .ref a4, .ref a5, .int n0_6, .int n0_7, .int n0_8, .int n0_9, .int n0_10, .long l0_11, .int v52_0_12, .int v52_0_13, .int n0_14, .int n0_15, .ref a6, .ref a7, .ref a8, .ref a9, .ref a10, .ref a11, .ref a12, .ref a13, .int n0_24, .int n0_25, .int n0_26, .int n0_27, .ref a14, .int n0_29, .int n0_30])), (a5, .inl (ct 1, 900, .inl f5)), (a7, .inl (ct 0, 15, .inl f7)), (a8, .inl (ct 0, 200, .inl f8))] → va_S A s.heap H locs → lv_has ls 4 [(0, .ref a0)] → W p l e (headSpec wsX11_cardLine ({ frames := 4, cells := 0, slots := 0, locals := 88 })).room s m ([.ref a0] : List Value).toArray below meth c H locs 0 0 (MQ below (va_Qv (fun u : SU => psI (u.2.1 0) ∧ rg 0 900 (u.1 0) ∧ rg 0 4 (u.1 1) ∧ rg 0 1000009 (u.1 3) ∧ (n0_7.toInt ≤ (u.1 0).toInt ∧ (u.1 0).toInt ≤ n0_6.toInt) ∧ True) (fun u t => va_P G vwCl ((fun u : SU => [(a0, .inr (11, [.int n0_0, .ref a1, .ref a2, .ref a3, .ref a4, .ref a5, .int n0_6, .int (u.1 0), .int (u.1 1), .int (u.1 2), .int (u.1 3), .long (u.2.2 0 0), .int (u.1 4), .int (u.1 5), .int n0_14, .int n0_15, .ref a6, .ref a7, .ref a8, .ref a9, .ref a10, .ref a11, .ref a12, .ref a13, .int n0_24, .int n0_25, .int n0_26, .int n0_27, .ref a14, .int n0_29, .int n0_30])), (a5, .inl (ct 1, 900, .inl f5)), (a7, .inl (ct 0, 15, .inl f7)), (a8, .inl (ct 0, 200, .inl (u.2.1 0)))]) u) t.heap) A) ([.ref a0] : List Value).toArray s 0 0 A) (F0 m 52 ls []) := by
    intro v52_0_12 v52_0_13 H locs ls  hP hD hS hl
    refine lv_aload_n hx hb dX11_cardLine_52 rfl (lv_at hl 0 rfl) ?_
    refine lv_iconst (v := 0) hx hb dX11_cardLine_53 (by decide) ?_
    refine lv_aload_n hx hb dX11_cardLine_54 rfl (lv_at hl 0 rfl) ?_
    refine lv_iconst (v := 1) hx hb dX11_cardLine_55 (by decide) ?_
    refine ro_calli (va_runV (As := [.int 1]) (rest := [.int 0, .ref a0]) ⟨hx, hb, hml, hown, hts⟩ (a_X11_hasRead1 l G ct a0 n0_0 a1 a2 a3 a4 a5 n0_6 n0_7 n0_8 n0_9 n0_10 l0_11 v52_0_12 v52_0_13 n0_14 n0_15 a6 a7 a8 a9 a10 a11 a12 a13 n0_24 n0_25 n0_26 n0_27 a14 n0_29 n0_30 f7 hp_n0_6 hp_f7) (cwV 1 hts gX11_cardLine_X11_hasRead rfl rfl rfl (by decide +kernel) ⟨Nat.le_of_ble_eq_true rfl, Nat.le_of_ble_eq_true rfl⟩) (ro_preV 11 0 hK (hP.sub [0, 2] rfl) rfl rfl) rfl rfl hl.1 rfl (lv_room (Nat.le_of_ble_eq_true rfl)) dX11_cardLine_56 ⟨Nat.zero_le _, Nat.zero_le _⟩) hS hP (fun r56 H locs wr56 hP hS => ?_)
    obtain ⟨p_1, p_2, -⟩ := wr56
    have gr56 := p_2
    refine lv_iconst (v := 1) hx hb dX11_cardLine_59 (by decide) ?_
    refine lv_isub hx hb dX11_cardLine_60 ?_
    refine nm_sub (e1 := (-1)) (f := 7) p_1 (rgn 1 (x := 1) (by decide)) (by decide) (fun z60 hz60 ez60 => ?_)
    replace ez60 := eqc_s ez60 (c := (-1)) (by decide)
    refine wj_calli (wr := [(a7, .inl (ct 0, 15, .inl f7)), (a8, .inl (ct 0, 200, .inl f8))]) (w1 := (fun u : SU => [(a0, .inr (11, [.int n0_0, .ref a1, .ref a2, .ref a3, .ref a4, .ref a5, .int n0_6, .int (u.1 0), .int (u.1 1), .int (u.1 2), .int (u.1 3), .long (u.2.2 0 0), .int (u.1 4), .int (u.1 5), .int n0_14, .int n0_15, .ref a6, .ref a7, .ref a8, .ref a9, .ref a10, .ref a11, .ref a12, .ref a13, .int n0_24, .int n0_25, .int n0_26, .int n0_27, .ref a14, .int n0_29, .int n0_30])), (a5, .inl (ct 1, 900, .inl f5))])) (va_runV (As := [.int 0, .int z60]) (rest := []) ⟨hx, hb, hml, hown, hts⟩ (a_X11_number0 l G ct a0 n0_0 a1 a2 a3 a4 a5 n0_6 n0_7 n0_8 n0_9 n0_10 l0_11 v52_0_12 v52_0_13 n0_14 n0_15 a6 a7 a8 a9 a10 a11 a12 a13 n0_24 n0_25 n0_26 n0_27 a14 n0_29 n0_30 f5 z60 hp_n0_6 hp_n0_7 hp_n0_8 hp_n0_10 hz60 hat) (cwV 2 hts gX11_cardLine_X11_number rfl rfl rfl (by decide +kernel) ⟨Nat.le_of_ble_eq_true rfl, Nat.le_of_ble_eq_true rfl⟩) (wr_preV 11 0 hK (hP.sub [0, 1] rfl) (hD.sub [0, 1] (by decide) rfl) rfl rfl) rfl rfl hl.1 rfl (lv_room (Nat.le_of_ble_eq_true rfl)) dX11_cardLine_61 ⟨Nat.zero_le _, Nat.zero_le _⟩) hS hP hD [0, 1] [2, 3] rfl rfl (by decide) (fun _ => rfl) (fun r61 ur61 H locs wr61 hP hD hS => ?_)
    have hP : va_P G vwCl [(a0, .inr (11, [.int n0_0, .ref a1, .ref a2, .ref a3, .ref a4, .ref a5, .int n0_6, .int (ur61.1 0), .int (ur61.1 1), .int (ur61.1 2), .int (ur61.1 3), .long (ur61.2.2 0 0), .int (ur61.1 4), .int (ur61.1 5), .int n0_14, .int n0_15, .ref a6, .ref a7, .ref a8, .ref a9, .ref a10, .ref a11, .ref a12, .ref a13, .int n0_24, .int n0_25, .int n0_26, .int n0_27, .ref a14, .int n0_29, .int n0_30])), (a5, .inl (ct 1, 900, .inl f5)), (a7, .inl (ct 0, 15, .inl f7)), (a8, .inl (ct 0, 200, .inl f8))] H := hP.sub [2, 3, 0, 1] rfl
    have hD : va_D A [(a0, .inr (11, [.int n0_0, .ref a1, .ref a2, .ref a3, .ref a4, .ref a5, .int n0_6, .int (ur61.1 0), .int (ur61.1 1), .int (ur61.1 2), .int (ur61.1 3), .long (ur61.2.2 0 0), .int (ur61.1 4), .int (ur61.1 5), .int n0_14, .int n0_15, .ref a6, .ref a7, .ref a8, .ref a9, .ref a10, .ref a11, .ref a12, .ref a13, .int n0_24, .int n0_25, .int n0_26, .int n0_27, .ref a14, .int n0_29, .int n0_30])), (a5, .inl (ct 1, 900, .inl f5)), (a7, .inl (ct 0, 15, .inl f7)), (a8, .inl (ct 0, 200, .inl f8))] := hD.sub [2, 3, 0, 1] (by decide) rfl
    obtain ⟨p_3, p_4, p_5, p_6, p_7, -⟩ := wr61
    refine lv_istore_n (lv' := [(1, .int r61), (0, .ref a0)]) hx hb dX11_cardLine_64 rfl hl (by decide) rfl (fun ls hl => ?_)
    refine lv_aload_n hx hb dX11_cardLine_65 rfl (lv_at hl 1 rfl) ?_
    refine lv_ldc2 (own := RX11) (v := 555) hx hb hown (hts (.constantLong RX11 166 (555)) (by decide +kernel)) dX11_cardLine_66 ?_
    refine wj_callv (wr := [(a7, .inl (ct 0, 15, .inl f7)), (a8, .inl (ct 0, 200, .inl f8))]) (w1 := (fun u : SU => [(a0, .inr (11, [.int n0_0, .ref a1, .ref a2, .ref a3, .ref a4, .ref a5, .int n0_6, .int (u.1 0), .int (u.1 1), .int (u.1 2), .int (u.1 3), .long (u.2.2 0 0), .int (u.1 4), .int (u.1 5), .int n0_14, .int n0_15, .ref a6, .ref a7, .ref a8, .ref a9, .ref a10, .ref a11, .ref a12, .ref a13, .int n0_24, .int n0_25, .int n0_26, .int n0_27, .ref a14, .int n0_29, .int n0_30])), (a5, .inl (ct 1, 900, .inl f5))])) (va_runV (As := [.long 555]) (rest := []) ⟨hx, hb, hml, hown, hts⟩ (a_X11_asks l G ct a0 n0_0 a1 a2 a3 a4 a5 n0_6 (ur61.1 0) (ur61.1 1) (ur61.1 2) (ur61.1 3) (ur61.2.2 0 0) (ur61.1 4) (ur61.1 5) n0_14 n0_15 a6 a7 a8 a9 a10 a11 a12 a13 n0_24 n0_25 n0_26 n0_27 a14 n0_29 n0_30 f5 (555 : Int64) hp_n0_6 p_4 p_5 p_6 p_7.2.1) (cwV 1 hts gX11_cardLine_X11_asks rfl rfl rfl (by decide +kernel) ⟨Nat.le_of_ble_eq_true rfl, Nat.le_of_ble_eq_true rfl⟩) (wr_preV 11 0 hK (hP.sub [0, 1] rfl) (hD.sub [0, 1] (by decide) rfl) rfl rfl) rfl rfl hl.1 rfl (lv_room (Nat.le_of_ble_eq_true rfl)) dX11_cardLine_69 ⟨Nat.zero_le _, Nat.zero_le _⟩) hS hP hD [0, 1] [2, 3] rfl rfl (by decide) (fun _ => rfl) (fun ur69 H locs wr69 hP hD hS => ?_)
    have hP : va_P G vwCl [(a0, .inr (11, [.int n0_0, .ref a1, .ref a2, .ref a3, .ref a4, .ref a5, .int n0_6, .int (ur69.1 0), .int (ur69.1 1), .int (ur69.1 2), .int (ur69.1 3), .long (ur69.2.2 0 0), .int (ur69.1 4), .int (ur69.1 5), .int n0_14, .int n0_15, .ref a6, .ref a7, .ref a8, .ref a9, .ref a10, .ref a11, .ref a12, .ref a13, .int n0_24, .int n0_25, .int n0_26, .int n0_27, .ref a14, .int n0_29, .int n0_30])), (a5, .inl (ct 1, 900, .inl f5)), (a7, .inl (ct 0, 15, .inl f7)), (a8, .inl (ct 0, 200, .inl f8))] H := hP.sub [2, 3, 0, 1] rfl
    have hD : va_D A [(a0, .inr (11, [.int n0_0, .ref a1, .ref a2, .ref a3, .ref a4, .ref a5, .int n0_6, .int (ur69.1 0), .int (ur69.1 1), .int (ur69.1 2), .int (ur69.1 3), .long (ur69.2.2 0 0), .int (ur69.1 4), .int (ur69.1 5), .int n0_14, .int n0_15, .ref a6, .ref a7, .ref a8, .ref a9, .ref a10, .ref a11, .ref a12, .ref a13, .int n0_24, .int n0_25, .int n0_26, .int n0_27, .ref a14, .int n0_29, .int n0_30])), (a5, .inl (ct 1, 900, .inl f5)), (a7, .inl (ct 0, 15, .inl f7)), (a8, .inl (ct 0, 200, .inl f8))] := hD.sub [2, 3, 0, 1] (by decide) rfl
    obtain ⟨p_8, p_9, p_10, p_11, -⟩ := wr69
    refine lv_aload_n hx hb dX11_cardLine_72 rfl (lv_at hl 1 rfl) ?_
    refine lv_iconst (v := 0) hx hb dX11_cardLine_73 (by decide) ?_
    refine lv_aload_n hx hb dX11_cardLine_74 rfl (lv_at hl 1 rfl) ?_
    refine lv_iconst (v := 1) hx hb dX11_cardLine_75 (by decide) ?_
    refine ro_calli (va_runV (As := [.int 1]) (rest := [.int 0, .ref a0]) ⟨hx, hb, hml, hown, hts⟩ (a_X11_hasRead1 l G ct a0 n0_0 a1 a2 a3 a4 a5 n0_6 (ur69.1 0) (ur69.1 1) (ur69.1 2) (ur69.1 3) (ur69.2.2 0 0) (ur69.1 4) (ur69.1 5) n0_14 n0_15 a6 a7 a8 a9 a10 a11 a12 a13 n0_24 n0_25 n0_26 n0_27 a14 n0_29 n0_30 f7 hp_n0_6 hp_f7) (cwV 1 hts gX11_cardLine_X11_hasRead rfl rfl rfl (by decide +kernel) ⟨Nat.le_of_ble_eq_true rfl, Nat.le_of_ble_eq_true rfl⟩) (ro_preV 11 0 hK (hP.sub [0, 2] rfl) rfl rfl) rfl rfl hl.1 rfl (lv_room (Nat.le_of_ble_eq_true rfl)) dX11_cardLine_76 ⟨Nat.zero_le _, Nat.zero_le _⟩) hS hP (fun r76 H locs wr76 hP hS => ?_)
    obtain ⟨p_12, p_13, -⟩ := wr76
    have gr76 := p_13
    have h_14 : rg 0 8 r76 := by rw [show r76 = r56 from gr76.trans gr56.symm]; exact p_1
    refine lv_iconst (v := 1) hx hb dX11_cardLine_79 (by decide) ?_
    refine lv_isub hx hb dX11_cardLine_80 ?_
    refine nm_sub (e1 := (-1)) (f := 7) h_14 (rgn 1 (x := 1) (by decide)) (by decide) (fun z80 hz80 ez80 => ?_)
    replace ez80 := eqc_s ez80 (c := (-1)) (by decide)
    refine wj_calli (wr := [(a7, .inl (ct 0, 15, .inl f7)), (a8, .inl (ct 0, 200, .inl f8))]) (w1 := (fun u : SU => [(a0, .inr (11, [.int n0_0, .ref a1, .ref a2, .ref a3, .ref a4, .ref a5, .int n0_6, .int (u.1 0), .int (u.1 1), .int (u.1 2), .int (u.1 3), .long (u.2.2 0 0), .int (u.1 4), .int (u.1 5), .int n0_14, .int n0_15, .ref a6, .ref a7, .ref a8, .ref a9, .ref a10, .ref a11, .ref a12, .ref a13, .int n0_24, .int n0_25, .int n0_26, .int n0_27, .ref a14, .int n0_29, .int n0_30])), (a5, .inl (ct 1, 900, .inl f5))])) (va_runV (As := [.int 0, .int z80]) (rest := []) ⟨hx, hb, hml, hown, hts⟩ (a_X11_number0 l G ct a0 n0_0 a1 a2 a3 a4 a5 n0_6 (ur69.1 0) (ur69.1 1) (ur69.1 2) (ur69.1 3) (ur69.2.2 0 0) (ur69.1 4) (ur69.1 5) n0_14 n0_15 a6 a7 a8 a9 a10 a11 a12 a13 n0_24 n0_25 n0_26 n0_27 a14 n0_29 n0_30 f5 z80 hp_n0_6 p_8 p_9 p_10 hz80 p_11.2) (cwV 2 hts gX11_cardLine_X11_number rfl rfl rfl (by decide +kernel) ⟨Nat.le_of_ble_eq_true rfl, Nat.le_of_ble_eq_true rfl⟩) (wr_preV 11 0 hK (hP.sub [0, 1] rfl) (hD.sub [0, 1] (by decide) rfl) rfl rfl) rfl rfl hl.1 rfl (lv_room (Nat.le_of_ble_eq_true rfl)) dX11_cardLine_81 ⟨Nat.zero_le _, Nat.zero_le _⟩) hS hP hD [0, 1] [2, 3] rfl rfl (by decide) (fun _ => rfl) (fun r81 ur81 H locs wr81 hP hD hS => ?_)
    have hP : va_P G vwCl [(a0, .inr (11, [.int n0_0, .ref a1, .ref a2, .ref a3, .ref a4, .ref a5, .int n0_6, .int (ur81.1 0), .int (ur81.1 1), .int (ur81.1 2), .int (ur81.1 3), .long (ur81.2.2 0 0), .int (ur81.1 4), .int (ur81.1 5), .int n0_14, .int n0_15, .ref a6, .ref a7, .ref a8, .ref a9, .ref a10, .ref a11, .ref a12, .ref a13, .int n0_24, .int n0_25, .int n0_26, .int n0_27, .ref a14, .int n0_29, .int n0_30])), (a5, .inl (ct 1, 900, .inl f5)), (a7, .inl (ct 0, 15, .inl f7)), (a8, .inl (ct 0, 200, .inl f8))] H := hP.sub [2, 3, 0, 1] rfl
    have hD : va_D A [(a0, .inr (11, [.int n0_0, .ref a1, .ref a2, .ref a3, .ref a4, .ref a5, .int n0_6, .int (ur81.1 0), .int (ur81.1 1), .int (ur81.1 2), .int (ur81.1 3), .long (ur81.2.2 0 0), .int (ur81.1 4), .int (ur81.1 5), .int n0_14, .int n0_15, .ref a6, .ref a7, .ref a8, .ref a9, .ref a10, .ref a11, .ref a12, .ref a13, .int n0_24, .int n0_25, .int n0_26, .int n0_27, .ref a14, .int n0_29, .int n0_30])), (a5, .inl (ct 1, 900, .inl f5)), (a7, .inl (ct 0, 15, .inl f7)), (a8, .inl (ct 0, 200, .inl f8))] := hD.sub [2, 3, 0, 1] (by decide) rfl
    obtain ⟨p_15, p_16, p_17, p_18, p_19, -⟩ := wr81
    refine lv_istore_n (lv' := [(2, .int r81), (1, .int r61), (0, .ref a0)]) hx hb dX11_cardLine_84 rfl hl (by decide) rfl (fun ls hl => ?_)
    refine lv_aload_n hx hb dX11_cardLine_85 rfl (lv_at hl 2 rfl) ?_
    refine va_get (D := G) (ci := 11) (v := .int (ur81.1 4)) (C := RX11) (T := TX11) (N := 31) hx hb hts (by decide +kernel) hown hK.1 hP 0 rfl rfl 12 (by decide) (hts (.fieldLink RX11 111 "CardHolderModel" "bad" "I") (by decide +kernel)) (fun _ h9 => h9) rfl dX11_cardLine_86 ?_
    have j107 : ∀ (y107_0 : Int32) (v107_0_7 : Int32) (v107_0_8 : Int32) (v107_0_9 : Int32) (v107_0_10 : Int32) (v107_0_11 : Int64) (H : Heap) (locs : List Loc) (ls : Array Slot), rg 0 1 y107_0 → rg 0 900 v107_0_7 → rg 0 4 v107_0_8 → rg 0 1000009 v107_0_10 → v107_0_7.toInt ≤ n0_6.toInt → n0_7.toInt ≤ v107_0_7.toInt → va_P G vwCl [(a0, .inr (11, [.int n0_0, .ref a1, .ref a2, .ref a3, .ref a4, .ref a5, .int n0_6, .int v107_0_7, .int v107_0_8, .int v107_0_9, .int v107_0_10, .long v107_0_11, .int (ur81.1 4), .int (ur81.1 5), .int n0_14, .int n0_15, .ref a6, .ref a7, .ref a8, .ref a9, .ref a10, .ref a11, .ref a12, .ref a13, .int n0_24, .int n0_25, .int n0_26, .int n0_27, .ref a14, .int n0_29, .int n0_30])), (a5, .inl (ct 1, 900, .inl f5)), (a7, .inl (ct 0, 15, .inl f7)), (a8, .inl (ct 0, 200, .inl f8))] H → va_D A [(a0, .inr (11, [.int n0_0, .ref a1, .ref a2, .ref a3, .ref a4, .ref a5, .int n0_6, .int v107_0_7, .int v107_0_8, .int v107_0_9, .int v107_0_10, .long v107_0_11, .int (ur81.1 4), .int (ur81.1 5), .int n0_14, .int n0_15, .ref a6, .ref a7, .ref a8, .ref a9, .ref a10, .ref a11, .ref a12, .ref a13, .int n0_24, .int n0_25, .int n0_26, .int n0_27, .ref a14, .int n0_29, .int n0_30])), (a5, .inl (ct 1, 900, .inl f5)), (a7, .inl (ct 0, 15, .inl f7)), (a8, .inl (ct 0, 200, .inl f8))] → va_S A s.heap H locs → lv_has ls 4 [(0, .ref a0), (1, .int r61), (2, .int r81)] → W p l e (headSpec wsX11_cardLine ({ frames := 4, cells := 0, slots := 0, locals := 88 })).room s m ([.ref a0] : List Value).toArray below meth c H locs 0 0 (MQ below (va_Qv (fun u : SU => psI (u.2.1 0) ∧ rg 0 900 (u.1 0) ∧ rg 0 4 (u.1 1) ∧ rg 0 1000009 (u.1 3) ∧ (n0_7.toInt ≤ (u.1 0).toInt ∧ (u.1 0).toInt ≤ n0_6.toInt) ∧ True) (fun u t => va_P G vwCl ((fun u : SU => [(a0, .inr (11, [.int n0_0, .ref a1, .ref a2, .ref a3, .ref a4, .ref a5, .int n0_6, .int (u.1 0), .int (u.1 1), .int (u.1 2), .int (u.1 3), .long (u.2.2 0 0), .int (u.1 4), .int (u.1 5), .int n0_14, .int n0_15, .ref a6, .ref a7, .ref a8, .ref a9, .ref a10, .ref a11, .ref a12, .ref a13, .int n0_24, .int n0_25, .int n0_26, .int n0_27, .ref a14, .int n0_29, .int n0_30])), (a5, .inl (ct 1, 900, .inl f5)), (a7, .inl (ct 0, 15, .inl f7)), (a8, .inl (ct 0, 200, .inl (u.2.1 0)))]) u) t.heap) A) ([.ref a0] : List Value).toArray s 0 0 A) (F0 m 107 ls [.int y107_0]) := by
      intro y107_0 v107_0_7 v107_0_8 v107_0_9 v107_0_10 v107_0_11 H locs ls hy107_0 hv107_0_7 hv107_0_8 hv107_0_10 ha107 hb107 hP hD hS hl
      refine lv_istore_n (lv' := [(3, .int y107_0), (0, .ref a0), (1, .int r61), (2, .int r81)]) hx hb dX11_cardLine_107 rfl hl (by decide) rfl (fun ls hl => ?_)
      refine lv_aload_n hx hb dX11_cardLine_108 rfl (lv_at hl 1 rfl) ?_
      refine ro_calli (va_runV (As := []) (rest := []) ⟨hx, hb, hml, hown, hts⟩ (a_X11_isGood l G ct a0 n0_0 a1 a2 a3 a4 a5 n0_6 v107_0_7 v107_0_8 v107_0_9 v107_0_10 v107_0_11 (ur81.1 4) (ur81.1 5) n0_14 n0_15 a6 a7 a8 a9 a10 a11 a12 a13 n0_24 n0_25 n0_26 n0_27 a14 n0_29 n0_30 hp_n0_6) (cwV 0 hts gX11_cardLine_X11_isGood rfl rfl rfl (by decide +kernel) ⟨Nat.le_of_ble_eq_true rfl, Nat.le_of_ble_eq_true rfl⟩) (ro_preV 11 0 hK (hP.sub [0] rfl) rfl rfl) rfl rfl hl.1 rfl (lv_room (Nat.le_of_ble_eq_true rfl)) dX11_cardLine_109 ⟨Nat.zero_le _, Nat.zero_le _⟩) hS hP (fun r109 H locs wr109 hP hS => ?_)
      obtain ⟨p_20, p_21, p_22, -⟩ := wr109
      refine lv_if_ne (tgt := 116) hx hb dX11_cardLine_112 (by decide) (fun c112 => ?_) (fun c112 => ?_)
      · have h_23 : rg 1 1 r109 := r_ne_lo_i c112 p_20 (by decide) (by decide)
        have h_24 : rg 0 0 (ur81.1 4) := (p_21 (rne h_23 (y := 0) (c := 0) (by decide) (by decide)))
        refine lv_aload_n hx hb dX11_cardLine_116 rfl (lv_at hl 1 rfl) ?_
        refine va_get (D := G) (ci := 11) (v := .ref a8) (C := RX11) (T := TX11) (N := 31) hx hb hts (by decide +kernel) hown hK.1 hP 0 rfl rfl 18 (by decide) (hts (.fieldLink RX11 37 "CardHolderModel" "person" "[I") (by decide +kernel)) (fun _ h9 => h9) rfl dX11_cardLine_117 ?_
        refine lv_iconst (v := 5) hx hb dX11_cardLine_120 (by decide) ?_
        refine lv_bipush (v := 32) hx hb dX11_cardLine_121 (by decide) ?_
        refine lv_iload_n hx hb dX11_cardLine_123 rfl (lv_at hl 2 rfl) ?_
        refine lv_iadd hx hb dX11_cardLine_124 ?_
        refine nm_add (e1 := 32) (f := 39) (rgn 32 (x := 32) (by decide)) p_3 (by decide) (fun z124 hz124 ez124 => ?_)
        replace ez124 := eqc_l ez124 (c := 32) (by decide)
        refine lv_imul hx hb dX11_cardLine_125 ?_
        refine nm_mul (e1 := 160) (f := 195) (rgn 5 (x := 5) (by decide)) hz124 (by decide) (fun z125 hz125 ez125 => ?_)
        replace ez125 : z125.toInt = 5 * z124.toInt := by have : (5 : Int32).toInt = 5 := (by decide); rw [this] at ez125; exact ez125
        refine lv_iconst (v := 3) hx hb dX11_cardLine_126 (by decide) ?_
        refine lv_iadd hx hb dX11_cardLine_127 ?_
        refine nm_add (e1 := 163) (f := 198) hz125 (rgn 3 (x := 3) (by decide)) (by decide) (fun z127 hz127 ez127 => ?_)
        replace ez127 := eqc_r ez127 (c := 3) (by decide)
        refine lv_iload_n hx hb dX11_cardLine_128 rfl (lv_at hl 3 rfl) ?_
        refine va_iast hx hb hK.1 hP hD hS 3 0 rfl rfl (in_rg hz127 (by decide)) dX11_cardLine_129 (fun H locs hP hD hS => ?_)
        have h_25 : psI (upd f8 z127.toNatClampNeg r81) := ps_u3 hp_f8 (i := z127) (by have := ez127; have := ez125; omega) (rg_w (c := 0) (d := 2147483647) hz127 (by decide)) (rg_w (c := (-1)) (d := 7) p_15 (by decide))
        refine lv_aload_n hx hb dX11_cardLine_130 rfl (lv_at hl 1 rfl) ?_
        refine va_get (D := G) (ci := 11) (v := .ref a8) (C := RX11) (T := TX11) (N := 31) hx hb hts (by decide +kernel) hown hK.1 hP 0 rfl rfl 18 (by decide) (hts (.fieldLink RX11 37 "CardHolderModel" "person" "[I") (by decide +kernel)) (fun _ h9 => h9) rfl dX11_cardLine_131 ?_
        refine lv_iconst (v := 5) hx hb dX11_cardLine_134 (by decide) ?_
        refine lv_bipush (v := 32) hx hb dX11_cardLine_135 (by decide) ?_
        refine lv_iload_n hx hb dX11_cardLine_137 rfl (lv_at hl 2 rfl) ?_
        refine lv_iadd hx hb dX11_cardLine_138 ?_
        refine nm_add (e1 := 32) (f := 39) (rgn 32 (x := 32) (by decide)) p_3 (by decide) (fun z138 hz138 ez138 => ?_)
        replace ez138 := eqc_l ez138 (c := 32) (by decide)
        refine lv_imul hx hb dX11_cardLine_139 ?_
        refine nm_mul (e1 := 160) (f := 195) (rgn 5 (x := 5) (by decide)) hz138 (by decide) (fun z139 hz139 ez139 => ?_)
        replace ez139 : z139.toInt = 5 * z138.toInt := by have : (5 : Int32).toInt = 5 := (by decide); rw [this] at ez139; exact ez139
        refine lv_iconst (v := 4) hx hb dX11_cardLine_140 (by decide) ?_
        refine lv_iadd hx hb dX11_cardLine_141 ?_
        refine nm_add (e1 := 164) (f := 199) hz139 (rgn 4 (x := 4) (by decide)) (by decide) (fun z141 hz141 ez141 => ?_)
        replace ez141 := eqc_r ez141 (c := 4) (by decide)
        refine lv_iload_n hx hb dX11_cardLine_142 rfl (lv_at hl 0 rfl) ?_
        refine lv_if_eq (tgt := 150) hx hb dX11_cardLine_143 (by decide) (fun c143 => ?_) (fun c143 => ?_)
        · have h_26 : rg 0 0 y107_0 := r_eq_l_i (e := 0) (f := 0) c143 hy107_0 (rgn 0 (x := 0) (by decide)) (by decide)
          refine lv_iconst (v := 0) hx hb dX11_cardLine_150 (by decide) ?_
          refine va_iast hx hb hK.1 hP hD hS 3 0 rfl rfl (in_rg hz141 (by decide)) dX11_cardLine_151 (fun H locs hP hD hS => ?_)
          have h_27 : psI (upd (upd f8 z127.toNatClampNeg r81) z141.toNatClampNeg 0) := ps_u0 h_25 (i := z141) (c := 4) (by have := ez141; have := ez139; omega) (rg_w (c := 0) (d := 2147483647) hz141 (by decide)) (by decide)
          exact W.vret hx hb hr (fun t ht hW => ⟨⟨(fun k => ([v107_0_7, v107_0_8, v107_0_9, v107_0_10, ur81.1 4, ur81.1 5] : List Int32).getD k 0, fun k => ([upd (upd f8 z127.toNatClampNeg r81) z141.toNatClampNeg 0] : List (Nat → Int32)).getD k (fun _ => 0), fun k => ([fun _ => v107_0_11] : List (Nat → Int64)).getD k (fun _ => 0)), rfl, ⟨h_27, hv107_0_7, hv107_0_8, hv107_0_10, ⟨(show n0_7.toInt ≤ (v107_0_7).toInt from hb107), (show (v107_0_7).toInt ≤ n0_6.toInt from ha107)⟩, trivial⟩, hp_at ht hP⟩, hS.F ht⟩) hS.2.2 dX11_cardLine_152
        · have h_28 : rg 1 1 y107_0 := r_ne_lo_i c143 hy107_0 (by decide) (by decide)
          refine lv_iconst (v := 1) hx hb dX11_cardLine_146 (by decide) ?_
          refine lv_goto (tgt := 151) hx hb dX11_cardLine_147 (by decide) ?_
          refine va_iast hx hb hK.1 hP hD hS 3 0 rfl rfl (in_rg hz141 (by decide)) dX11_cardLine_151 (fun H locs hP hD hS => ?_)
          have h_29 : psI (upd (upd f8 z127.toNatClampNeg r81) z141.toNatClampNeg 1) := ps_u0 h_25 (i := z141) (c := 4) (by have := ez141; have := ez139; omega) (rg_w (c := 0) (d := 2147483647) hz141 (by decide)) (by decide)
          exact W.vret hx hb hr (fun t ht hW => ⟨⟨(fun k => ([v107_0_7, v107_0_8, v107_0_9, v107_0_10, ur81.1 4, ur81.1 5] : List Int32).getD k 0, fun k => ([upd (upd f8 z127.toNatClampNeg r81) z141.toNatClampNeg 1] : List (Nat → Int32)).getD k (fun _ => 0), fun k => ([fun _ => v107_0_11] : List (Nat → Int64)).getD k (fun _ => 0)), rfl, ⟨h_29, hv107_0_7, hv107_0_8, hv107_0_10, ⟨(show n0_7.toInt ≤ (v107_0_7).toInt from hb107), (show (v107_0_7).toInt ≤ n0_6.toInt from ha107)⟩, trivial⟩, hp_at ht hP⟩, hS.F ht⟩) hS.2.2 dX11_cardLine_152
      · have h_30 : rg 0 0 r109 := r_eq_l_i (e := 0) (f := 0) c112 p_20 (rgn 0 (x := 0) (by decide)) (by decide)
        exact W.vret hx hb hr (fun t ht hW => ⟨⟨(fun k => ([v107_0_7, v107_0_8, v107_0_9, v107_0_10, ur81.1 4, ur81.1 5] : List Int32).getD k 0, fun k => ([f8] : List (Nat → Int32)).getD k (fun _ => 0), fun k => ([fun _ => v107_0_11] : List (Nat → Int64)).getD k (fun _ => 0)), rfl, ⟨hp_f8, hv107_0_7, hv107_0_8, hv107_0_10, ⟨(show n0_7.toInt ≤ (v107_0_7).toInt from hb107), (show (v107_0_7).toInt ≤ n0_6.toInt from ha107)⟩, trivial⟩, hp_at ht hP⟩, hS.F ht⟩) hS.2.2 dX11_cardLine_115
    have j106 : ∀ (v106_0_7 : Int32) (v106_0_8 : Int32) (v106_0_9 : Int32) (v106_0_10 : Int32) (v106_0_11 : Int64) (H : Heap) (locs : List Loc) (ls : Array Slot), rg 0 900 v106_0_7 → rg 0 4 v106_0_8 → rg 0 1000009 v106_0_10 → v106_0_7.toInt ≤ n0_6.toInt → n0_7.toInt ≤ v106_0_7.toInt → va_P G vwCl [(a0, .inr (11, [.int n0_0, .ref a1, .ref a2, .ref a3, .ref a4, .ref a5, .int n0_6, .int v106_0_7, .int v106_0_8, .int v106_0_9, .int v106_0_10, .long v106_0_11, .int (ur81.1 4), .int (ur81.1 5), .int n0_14, .int n0_15, .ref a6, .ref a7, .ref a8, .ref a9, .ref a10, .ref a11, .ref a12, .ref a13, .int n0_24, .int n0_25, .int n0_26, .int n0_27, .ref a14, .int n0_29, .int n0_30])), (a5, .inl (ct 1, 900, .inl f5)), (a7, .inl (ct 0, 15, .inl f7)), (a8, .inl (ct 0, 200, .inl f8))] H → va_D A [(a0, .inr (11, [.int n0_0, .ref a1, .ref a2, .ref a3, .ref a4, .ref a5, .int n0_6, .int v106_0_7, .int v106_0_8, .int v106_0_9, .int v106_0_10, .long v106_0_11, .int (ur81.1 4), .int (ur81.1 5), .int n0_14, .int n0_15, .ref a6, .ref a7, .ref a8, .ref a9, .ref a10, .ref a11, .ref a12, .ref a13, .int n0_24, .int n0_25, .int n0_26, .int n0_27, .ref a14, .int n0_29, .int n0_30])), (a5, .inl (ct 1, 900, .inl f5)), (a7, .inl (ct 0, 15, .inl f7)), (a8, .inl (ct 0, 200, .inl f8))] → va_S A s.heap H locs → lv_has ls 4 [(0, .ref a0), (1, .int r61), (2, .int r81)] → W p l e (headSpec wsX11_cardLine ({ frames := 4, cells := 0, slots := 0, locals := 88 })).room s m ([.ref a0] : List Value).toArray below meth c H locs 0 0 (MQ below (va_Qv (fun u : SU => psI (u.2.1 0) ∧ rg 0 900 (u.1 0) ∧ rg 0 4 (u.1 1) ∧ rg 0 1000009 (u.1 3) ∧ (n0_7.toInt ≤ (u.1 0).toInt ∧ (u.1 0).toInt ≤ n0_6.toInt) ∧ True) (fun u t => va_P G vwCl ((fun u : SU => [(a0, .inr (11, [.int n0_0, .ref a1, .ref a2, .ref a3, .ref a4, .ref a5, .int n0_6, .int (u.1 0), .int (u.1 1), .int (u.1 2), .int (u.1 3), .long (u.2.2 0 0), .int (u.1 4), .int (u.1 5), .int n0_14, .int n0_15, .ref a6, .ref a7, .ref a8, .ref a9, .ref a10, .ref a11, .ref a12, .ref a13, .int n0_24, .int n0_25, .int n0_26, .int n0_27, .ref a14, .int n0_29, .int n0_30])), (a5, .inl (ct 1, 900, .inl f5)), (a7, .inl (ct 0, 15, .inl f7)), (a8, .inl (ct 0, 200, .inl (u.2.1 0)))]) u) t.heap) A) ([.ref a0] : List Value).toArray s 0 0 A) (F0 m 106 ls []) := by
      intro v106_0_7 v106_0_8 v106_0_9 v106_0_10 v106_0_11 H locs ls hv106_0_7 hv106_0_8 hv106_0_10 ha106 hb106 hP hD hS hl
      refine lv_iconst (v := 0) hx hb dX11_cardLine_106 (by decide) ?_
      exact j107 (0 : Int32) v106_0_7 v106_0_8 v106_0_9 v106_0_10 v106_0_11 _ _ ls (rg_w (c := 0) (d := 1) (rgn 0 (x := 0) (by decide)) (by decide)) hv106_0_7 hv106_0_8 hv106_0_10 ha106 hb106 hP hD hS (lv_sub hl [0, 1, 2] rfl)
    refine lv_if_ne (tgt := 106) hx hb dX11_cardLine_89 (by decide) (fun c89 => ?_) (fun c89 => ?_)
    · exact j106 (ur81.1 0) (ur81.1 1) (ur81.1 2) (ur81.1 3) (ur81.2.2 0 0) _ _ ls p_16 p_17 p_18 p_19.2.1 (Int.le_trans (Int.le_trans (Int.le_trans (Int.le_refl _) p_7.1) p_11.1) p_19.1) hP hD hS (lv_sub hl [2, 1, 0] rfl)
    · have h_31 : rg 0 0 (ur81.1 4) := r_eq_l_i (e := 0) (f := 0) c89 (rg_t (ur81.1 4)) (rgn 0 (x := 0) (by decide)) (by decide)
      refine lv_aload_n hx hb dX11_cardLine_92 rfl (lv_at hl 2 rfl) ?_
      refine lv_ldc2 (own := RX11) (v := 94424593) hx hb hown (hts (.constantLong RX11 168 (94424593)) (by decide +kernel)) dX11_cardLine_93 ?_
      refine wj_calli (wr := [(a7, .inl (ct 0, 15, .inl f7)), (a8, .inl (ct 0, 200, .inl f8))]) (w1 := (fun u : SU => [(a0, .inr (11, [.int n0_0, .ref a1, .ref a2, .ref a3, .ref a4, .ref a5, .int n0_6, .int (u.1 0), .int (u.1 1), .int (u.1 2), .int (u.1 3), .long (u.2.2 0 0), .int (ur81.1 4), .int (ur81.1 5), .int n0_14, .int n0_15, .ref a6, .ref a7, .ref a8, .ref a9, .ref a10, .ref a11, .ref a12, .ref a13, .int n0_24, .int n0_25, .int n0_26, .int n0_27, .ref a14, .int n0_29, .int n0_30])), (a5, .inl (ct 1, 900, .inl f5))])) (va_runV (As := [.long 94424593]) (rest := []) ⟨hx, hb, hml, hown, hts⟩ (a_X11_takes l G ct a0 n0_0 a1 a2 a3 a4 a5 n0_6 (ur81.1 0) (ur81.1 1) (ur81.1 2) (ur81.1 3) (ur81.2.2 0 0) (ur81.1 4) (ur81.1 5) n0_14 n0_15 a6 a7 a8 a9 a10 a11 a12 a13 n0_24 n0_25 n0_26 n0_27 a14 n0_29 n0_30 f5 (94424593 : Int64) hp_n0_6 p_16 p_17 p_18 p_19.2.1) (cwV 1 hts gX11_cardLine_X11_takes rfl rfl rfl (by decide +kernel) ⟨Nat.le_of_ble_eq_true rfl, Nat.le_of_ble_eq_true rfl⟩) (wr_preV 11 0 hK (hP.sub [0, 1] rfl) (hD.sub [0, 1] (by decide) rfl) rfl rfl) rfl rfl hl.1 rfl (lv_room (Nat.le_of_ble_eq_true rfl)) dX11_cardLine_96 ⟨Nat.zero_le _, Nat.zero_le _⟩) hS hP hD [0, 1] [2, 3] rfl rfl (by decide) (fun _ => rfl) (fun r96 ur96 H locs wr96 hP hD hS => ?_)
      have hP : va_P G vwCl [(a0, .inr (11, [.int n0_0, .ref a1, .ref a2, .ref a3, .ref a4, .ref a5, .int n0_6, .int (ur96.1 0), .int (ur96.1 1), .int (ur96.1 2), .int (ur96.1 3), .long (ur96.2.2 0 0), .int (ur81.1 4), .int (ur81.1 5), .int n0_14, .int n0_15, .ref a6, .ref a7, .ref a8, .ref a9, .ref a10, .ref a11, .ref a12, .ref a13, .int n0_24, .int n0_25, .int n0_26, .int n0_27, .ref a14, .int n0_29, .int n0_30])), (a5, .inl (ct 1, 900, .inl f5)), (a7, .inl (ct 0, 15, .inl f7)), (a8, .inl (ct 0, 200, .inl f8))] H := hP.sub [2, 3, 0, 1] rfl
      have hD : va_D A [(a0, .inr (11, [.int n0_0, .ref a1, .ref a2, .ref a3, .ref a4, .ref a5, .int n0_6, .int (ur96.1 0), .int (ur96.1 1), .int (ur96.1 2), .int (ur96.1 3), .long (ur96.2.2 0 0), .int (ur81.1 4), .int (ur81.1 5), .int n0_14, .int n0_15, .ref a6, .ref a7, .ref a8, .ref a9, .ref a10, .ref a11, .ref a12, .ref a13, .int n0_24, .int n0_25, .int n0_26, .int n0_27, .ref a14, .int n0_29, .int n0_30])), (a5, .inl (ct 1, 900, .inl f5)), (a7, .inl (ct 0, 15, .inl f7)), (a8, .inl (ct 0, 200, .inl f8))] := hD.sub [2, 3, 0, 1] (by decide) rfl
      obtain ⟨p_32, p_33, p_34, p_35, p_36, p_37, -⟩ := wr96
      refine lv_if_eq (tgt := 106) hx hb dX11_cardLine_99 (by decide) (fun c99 => ?_) (fun c99 => ?_)
      · have h_38 : rg 0 0 r96 := r_eq_l_i (e := 0) (f := 0) c99 p_32 (rgn 0 (x := 0) (by decide)) (by decide)
        exact j106 (ur96.1 0) (ur96.1 1) (ur96.1 2) (ur96.1 3) (ur96.2.2 0 0) _ _ ls p_34 p_35 p_36 p_37.2 (Int.le_trans (Int.le_trans (Int.le_trans (Int.le_trans (Int.le_refl _) p_7.1) p_11.1) p_19.1) p_37.1) hP hD hS (lv_sub hl [2, 1, 0] rfl)
      · have h_39 : rg 1 1 r96 := r_ne_lo_i c99 p_32 (by decide) (by decide)
        refine lv_iconst (v := 1) hx hb dX11_cardLine_102 (by decide) ?_
        refine lv_goto (tgt := 107) hx hb dX11_cardLine_103 (by decide) ?_
        exact j107 (1 : Int32) (ur96.1 0) (ur96.1 1) (ur96.1 2) (ur96.1 3) (ur96.2.2 0 0) _ _ ls (rg_w (c := 0) (d := 1) (rgn 1 (x := 1) (by decide)) (by decide)) p_34 p_35 p_36 p_37.2 (Int.le_trans (Int.le_trans (Int.le_trans (Int.le_trans (Int.le_refl _) p_7.1) p_11.1) p_19.1) p_37.1) hP hD hS (lv_sub hl [2, 1, 0] rfl)
  refine lv_if_ne (tgt := 52) hx hb dX11_cardLine_4 (by decide) (fun c4 => ?_) (fun c4 => ?_)
  · exact j52 n0_12 n0_13 _ _ ls hP hD hS (lv_sub hl [0] rfl)
  · have h_40 : rg 0 0 n0_12 := r_eq_l_i (e := 0) (f := 0) c4 (rg_t n0_12) (rgn 0 (x := 0) (by decide)) (by decide)
    refine lv_aload_n hx hb dX11_cardLine_7 rfl (lv_at hl 0 rfl) ?_
    refine va_get (D := G) (ci := 11) (v := .int n0_8) (C := RX11) (T := TX11) (N := 31) hx hb hts (by decide +kernel) hown hK.1 hP 0 rfl rfl 8 (by decide) (hts (.fieldLink RX11 100 "CardHolderModel" "token" "I") (by decide +kernel)) (fun _ h9 => h9) rfl dX11_cardLine_8 ?_
    refine lv_iconst (v := 2) hx hb dX11_cardLine_11 (by decide) ?_
    refine lv_icmp_ne (tgt := 52) hx hb dX11_cardLine_12 (by decide) (fun c12 => ?_) (fun c12 => ?_)
    · exact j52 n0_12 n0_13 _ _ ls hP hD hS (lv_sub hl [0] rfl)
    · have h_41 : rg 2 2 n0_8 := r_eq_l_i (e := 2) (f := 2) c12 hp_n0_8 (rgn 2 (x := 2) (by decide)) (by decide)
      refine lv_aload_n hx hb dX11_cardLine_15 rfl (lv_at hl 0 rfl) ?_
      refine va_get (D := G) (ci := 11) (v := .int n0_10) (C := RX11) (T := TX11) (N := 31) hx hb hts (by decide +kernel) hown hK.1 hP 0 rfl rfl 10 (by decide) (hts (.fieldLink RX11 93 "CardHolderModel" "value" "I") (by decide +kernel)) (fun _ h9 => h9) rfl dX11_cardLine_16 ?_
      refine lv_aload_n hx hb dX11_cardLine_19 rfl (lv_at hl 0 rfl) ?_
      refine lv_iconst (v := 1) hx hb dX11_cardLine_20 (by decide) ?_
      refine ro_calli (va_runV (As := [.int 1]) (rest := [.int n0_10]) ⟨hx, hb, hml, hown, hts⟩ (a_X11_hasRead1 l G ct a0 n0_0 a1 a2 a3 a4 a5 n0_6 n0_7 n0_8 n0_9 n0_10 l0_11 n0_12 n0_13 n0_14 n0_15 a6 a7 a8 a9 a10 a11 a12 a13 n0_24 n0_25 n0_26 n0_27 a14 n0_29 n0_30 f7 hp_n0_6 hp_f7) (cwV 1 hts gX11_cardLine_X11_hasRead rfl rfl rfl (by decide +kernel) ⟨Nat.le_of_ble_eq_true rfl, Nat.le_of_ble_eq_true rfl⟩) (ro_preV 11 0 hK (hP.sub [0, 2] rfl) rfl rfl) rfl rfl hl.1 rfl (lv_room (Nat.le_of_ble_eq_true rfl)) dX11_cardLine_21 ⟨Nat.zero_le _, Nat.zero_le _⟩) hS hP (fun r21 H locs wr21 hP hS => ?_)
      obtain ⟨p_42, p_43, -⟩ := wr21
      have gr21 := p_43
      refine lv_icmp_ge (tgt := 52) hx hb dX11_cardLine_24 (by decide) (fun c24 => ?_) (fun c24 => ?_)
      · exact j52 n0_12 n0_13 _ _ ls hP hD hS (lv_sub hl [0] rfl)
      · have h_44 : rg 0 7 n0_10 := r_lt_l_i (nle_i c24) hp_n0_10 p_42 (by decide)
        have h_45 : rg 1 8 r21 := r_lt_r_i (nle_i c24) hp_n0_10 p_42 (by decide)
        refine lv_aload_n hx hb dX11_cardLine_27 rfl (lv_at hl 0 rfl) ?_
        refine va_get (D := G) (ci := 11) (v := .ref a8) (C := RX11) (T := TX11) (N := 31) hx hb hts (by decide +kernel) hown hK.1 hP 0 rfl rfl 18 (by decide) (hts (.fieldLink RX11 37 "CardHolderModel" "person" "[I") (by decide +kernel)) (fun _ h9 => h9) rfl dX11_cardLine_28 ?_
        refine lv_iconst (v := 5) hx hb dX11_cardLine_31 (by decide) ?_
        refine lv_bipush (v := 32) hx hb dX11_cardLine_32 (by decide) ?_
        refine lv_aload_n hx hb dX11_cardLine_34 rfl (lv_at hl 0 rfl) ?_
        refine va_get (D := G) (ci := 11) (v := .int n0_10) (C := RX11) (T := TX11) (N := 31) hx hb hts (by decide +kernel) hown hK.1 hP 0 rfl rfl 10 (by decide) (hts (.fieldLink RX11 93 "CardHolderModel" "value" "I") (by decide +kernel)) (fun _ h9 => h9) rfl dX11_cardLine_35 ?_
        refine lv_iadd hx hb dX11_cardLine_38 ?_
        refine nm_add (e1 := 32) (f := 39) (rgn 32 (x := 32) (by decide)) h_44 (by decide) (fun z38 hz38 ez38 => ?_)
        replace ez38 := eqc_l ez38 (c := 32) (by decide)
        refine lv_imul hx hb dX11_cardLine_39 ?_
        refine nm_mul (e1 := 160) (f := 195) (rgn 5 (x := 5) (by decide)) hz38 (by decide) (fun z39 hz39 ez39 => ?_)
        replace ez39 : z39.toInt = 5 * z38.toInt := by have : (5 : Int32).toInt = 5 := (by decide); rw [this] at ez39; exact ez39
        refine lv_iconst (v := 3) hx hb dX11_cardLine_40 (by decide) ?_
        refine lv_iadd hx hb dX11_cardLine_41 ?_
        refine nm_add (e1 := 163) (f := 198) hz39 (rgn 3 (x := 3) (by decide)) (by decide) (fun z41 hz41 ez41 => ?_)
        replace ez41 := eqc_r ez41 (c := 3) (by decide)
        refine va_iald hx hb hK.1 hP 3 0 rfl rfl (in_rg hz41 (by decide)) dX11_cardLine_42 ?_
        refine lv_topi (fun z42 gz42 => ?_)
        have hz42 : rg (-1) 7 z42 := by rw [gz42]; exact (ps_l3 hp_f8 (i := z41) (by have := ez41; have := ez39; omega) (rg_w (c := 0) (d := 2147483647) hz41 (by decide)))
        refine lv_iconst (v := (-1)) hx hb dX11_cardLine_43 (by decide) ?_
        refine lv_icmp_eq (tgt := 52) hx hb dX11_cardLine_44 (by decide) (fun c44 => ?_) (fun c44 => ?_)
        · have h_46 : rg (-1) (-1) z42 := r_eq_l_i (e := (-1)) (f := (-1)) c44 hz42 (rgn (-1) (x := (-1)) (by decide)) (by decide)
          exact j52 n0_12 n0_13 _ _ ls hP hD hS (lv_sub hl [0] rfl)
        · have h_47 : rg 0 7 z42 := r_ne_lo_i c44 hz42 (by decide) (by decide)
          refine lv_aload_n hx hb dX11_cardLine_47 rfl (lv_at hl 0 rfl) ?_
          refine lv_iconst (v := 2) hx hb dX11_cardLine_48 (by decide) ?_
          refine wj_callv (wr := [(a5, .inl (ct 1, 900, .inl f5)), (a7, .inl (ct 0, 15, .inl f7)), (a8, .inl (ct 0, 200, .inl f8))]) (w1 := (fun u : SU => [(a0, .inr (11, [.int n0_0, .ref a1, .ref a2, .ref a3, .ref a4, .ref a5, .int n0_6, .int n0_7, .int n0_8, .int n0_9, .int n0_10, .long l0_11, .int (u.1 0), .int (u.1 1), .int n0_14, .int n0_15, .ref a6, .ref a7, .ref a8, .ref a9, .ref a10, .ref a11, .ref a12, .ref a13, .int n0_24, .int n0_25, .int n0_26, .int n0_27, .ref a14, .int n0_29, .int n0_30]))])) (va_runV (As := [.int 2]) (rest := []) ⟨hx, hb, hml, hown, hts⟩ (a_X11_fails2 l G ct a0 n0_0 a1 a2 a3 a4 a5 n0_6 n0_7 n0_8 n0_9 n0_10 l0_11 n0_12 n0_13 n0_14 n0_15 a6 a7 a8 a9 a10 a11 a12 a13 n0_24 n0_25 n0_26 n0_27 a14 n0_29 n0_30 hp_n0_6) (cwV 1 hts gX11_cardLine_X11_fails rfl rfl rfl (by decide +kernel) ⟨Nat.le_of_ble_eq_true rfl, Nat.le_of_ble_eq_true rfl⟩) (wr_preV 11 0 hK (hP.sub [0] rfl) (hD.sub [0] (by decide) rfl) rfl rfl) rfl rfl hl.1 rfl (lv_room (Nat.le_of_ble_eq_true rfl)) dX11_cardLine_49 ⟨Nat.zero_le _, Nat.zero_le _⟩) hS hP hD [0] [1, 2, 3] rfl rfl (by decide) (fun _ => rfl) (fun ur49 H locs wr49 hP hD hS => ?_)
          have hP : va_P G vwCl [(a0, .inr (11, [.int n0_0, .ref a1, .ref a2, .ref a3, .ref a4, .ref a5, .int n0_6, .int n0_7, .int n0_8, .int n0_9, .int n0_10, .long l0_11, .int (ur49.1 0), .int (ur49.1 1), .int n0_14, .int n0_15, .ref a6, .ref a7, .ref a8, .ref a9, .ref a10, .ref a11, .ref a12, .ref a13, .int n0_24, .int n0_25, .int n0_26, .int n0_27, .ref a14, .int n0_29, .int n0_30])), (a5, .inl (ct 1, 900, .inl f5)), (a7, .inl (ct 0, 15, .inl f7)), (a8, .inl (ct 0, 200, .inl f8))] H := hP.sub [3, 0, 1, 2] rfl
          have hD : va_D A [(a0, .inr (11, [.int n0_0, .ref a1, .ref a2, .ref a3, .ref a4, .ref a5, .int n0_6, .int n0_7, .int n0_8, .int n0_9, .int n0_10, .long l0_11, .int (ur49.1 0), .int (ur49.1 1), .int n0_14, .int n0_15, .ref a6, .ref a7, .ref a8, .ref a9, .ref a10, .ref a11, .ref a12, .ref a13, .int n0_24, .int n0_25, .int n0_26, .int n0_27, .ref a14, .int n0_29, .int n0_30])), (a5, .inl (ct 1, 900, .inl f5)), (a7, .inl (ct 0, 15, .inl f7)), (a8, .inl (ct 0, 200, .inl f8))] := hD.sub [3, 0, 1, 2] (by decide) rfl
          obtain ⟨p_48, -⟩ := wr49
          exact j52 (ur49.1 0) (ur49.1 1) _ _ ls hP hD hS (lv_sub hl [0] rfl)

set_option maxHeartbeats 4000000 in
set_option maxRecDepth 100000 in
theorem a_X11_line (l : Launch) (G : va_G) (ct : Nat → ClassId) (a0 : Nat) (n0_0 : Int32) (a1 : Nat) (a2 : Nat) (a3 : Nat) (a4 : Nat) (a5 : Nat) (n0_6 : Int32) (n0_7 : Int32) (n0_8 : Int32) (n0_9 : Int32) (n0_10 : Int32) (l0_11 : Int64) (n0_12 : Int32) (n0_13 : Int32) (n0_14 : Int32) (n0_15 : Int32) (a6 : Nat) (a7 : Nat) (a8 : Nat) (a9 : Nat) (a10 : Nat) (a11 : Nat) (a12 : Nat) (a13 : Nat) (n0_24 : Int32) (n0_25 : Int32) (n0_26 : Int32) (n0_27 : Int32) (a14 : Nat) (n0_29 : Int32) (n0_30 : Int32) (f5 : Nat → Int32) (f7 : Nat → Int32) (f8 : Nat → Int32) (hp_n0_6 : rg 0 900 n0_6) (hp_f7 : hsI f7) (hp_f8 : psI f8) (hp_n0_7 : rg 0 900 n0_7) (hp_n0_8 : rg 0 4 n0_8) (hp_n0_10 : rg 0 1000009 n0_10) (hat : n0_7.toInt ≤ n0_6.toInt) : Met l yX11_line wsX11_line ({ frames := 6, cells := 0, slots := 0, locals := 133 }) (va_Pc [.ref a0] (wrP G ct [(a0, .inr (11, [.int n0_0, .ref a1, .ref a2, .ref a3, .ref a4, .ref a5, .int n0_6, .int n0_7, .int n0_8, .int n0_9, .int n0_10, .long l0_11, .int n0_12, .int n0_13, .int n0_14, .int n0_15, .ref a6, .ref a7, .ref a8, .ref a9, .ref a10, .ref a11, .ref a12, .ref a13, .int n0_24, .int n0_25, .int n0_26, .int n0_27, .ref a14, .int n0_29, .int n0_30])), (a5, .inl (ct 1, 900, .inl f5)), (a7, .inl (ct 0, 15, .inl f7)), (a8, .inl (ct 0, 200, .inl f8))])) (va_Qv (fun u : SU => hsI (u.2.1 0) ∧ psI (u.2.1 1) ∧ rg 0 900 (u.1 0) ∧ rg 0 4 (u.1 1) ∧ rg 0 1000009 (u.1 3) ∧ (n0_7.toInt ≤ (u.1 0).toInt ∧ (u.1 0).toInt ≤ n0_6.toInt) ∧ True) (fun u t => va_P G vwCl ((fun u : SU => [(a0, .inr (11, [.int n0_0, .ref a1, .ref a2, .ref a3, .ref a4, .ref a5, .int n0_6, .int (u.1 0), .int (u.1 1), .int (u.1 2), .int (u.1 3), .long (u.2.2 0 0), .int (u.1 4), .int (u.1 5), .int n0_14, .int n0_15, .ref a6, .ref a7, .ref a8, .ref a9, .ref a10, .ref a11, .ref a12, .ref a13, .int n0_24, .int n0_25, .int n0_26, .int n0_27, .ref a14, .int n0_29, .int n0_30])), (a5, .inl (ct 1, 900, .inl f5)), (a7, .inl (ct 0, 15, .inl (u.2.1 0))), (a8, .inl (ct 0, 200, .inl (u.2.1 1)))]) u) t.heap) (aset [(a0, .inr (11, [.int n0_0, .ref a1, .ref a2, .ref a3, .ref a4, .ref a5, .int n0_6, .int n0_7, .int n0_8, .int n0_9, .int n0_10, .long l0_11, .int n0_12, .int n0_13, .int n0_14, .int n0_15, .ref a6, .ref a7, .ref a8, .ref a9, .ref a10, .ref a11, .ref a12, .ref a13, .int n0_24, .int n0_25, .int n0_26, .int n0_27, .ref a14, .int n0_29, .int n0_30])), (a5, .inl (ct 1, 900, .inl f5)), (a7, .inl (ct 0, 15, .inl f7)), (a8, .inl (ct 0, 200, .inl f8))])) 0 0 (aset [(a0, .inr (11, [.int n0_0, .ref a1, .ref a2, .ref a3, .ref a4, .ref a5, .int n0_6, .int n0_7, .int n0_8, .int n0_9, .int n0_10, .long l0_11, .int n0_12, .int n0_13, .int n0_14, .int n0_15, .ref a6, .ref a7, .ref a8, .ref a9, .ref a10, .ref a11, .ref a12, .ref a13, .int n0_24, .int n0_25, .int n0_26, .int n0_27, .ref a14, .int n0_29, .int n0_30])), (a5, .inl (ct 1, 900, .inl f5)), (a7, .inl (ct 0, 15, .inl f7)), (a8, .inl (ct 0, 200, .inl f8))]) := by
  refine Met.ofW (cc := cX11_line) (maxL := 1) (ret := none) (by decide) rfl ?_
  intro p e s m args below meth c s₁ B hml hv
  obtain ⟨rfl, hP, hK, hD0⟩ := hv
  have hx := B.exec
  have hb := B.bytes
  have hr := B.returns
  have hts := atoms_spec (ws := wsX11_line) B.pre
  have hown : s.vm.findClass RX11 = some m.cls := findClass_of_methodNamed B.named
  have hlocks := B.notSynchronized
  have hD := hD0.aself
  generalize hAe : aset [(a0, .inr (11, [.int n0_0, .ref a1, .ref a2, .ref a3, .ref a4, .ref a5, .int n0_6, .int n0_7, .int n0_8, .int n0_9, .int n0_10, .long l0_11, .int n0_12, .int n0_13, .int n0_14, .int n0_15, .ref a6, .ref a7, .ref a8, .ref a9, .ref a10, .ref a11, .ref a12, .ref a13, .int n0_24, .int n0_25, .int n0_26, .int n0_27, .ref a14, .int n0_29, .int n0_30])), (a5, .inl (ct 1, 900, .inl f5)), (a7, .inl (ct 0, 15, .inl f7)), (a8, .inl (ct 0, 200, .inl f8))] = A at hD ⊢
  have hS : va_S A s.heap s.heap [] := va_S.rf
  have hl := lv_entry ([.ref a0]) (n := 1) (Nat.le_of_ble_eq_true rfl)
  rw [lg_entry_eq]
  generalize (lg_sl ([.ref a0]) ++ List.replicate (1 - (lg_sl ([.ref a0])).length) Slot.unset).toArray = ls at hl ⊢
  have hl : lv_has ls 1 [(0, .ref a0)] := hl
  refine lv_aload_n hx hb dX11_line_0 rfl (lv_at hl 0 rfl) ?_
  refine lv_ldc2 (own := RX11) (v := 232608281) hx hb hown (hts (.constantLong RX11 170 (232608281)) (by decide +kernel)) dX11_line_1 ?_
  refine ro_calli (va_runV (As := [.long 232608281]) (rest := []) ⟨hx, hb, hml, hown, hts⟩ (a_X11_is l G ct a0 n0_0 a1 a2 a3 a4 a5 n0_6 n0_7 n0_8 n0_9 n0_10 l0_11 n0_12 n0_13 n0_14 n0_15 a6 a7 a8 a9 a10 a11 a12 a13 n0_24 n0_25 n0_26 n0_27 a14 n0_29 n0_30 (232608281 : Int64) hp_n0_6) (cwV 1 hts gX11_line_X11_is rfl rfl rfl (by decide +kernel) ⟨Nat.le_of_ble_eq_true rfl, Nat.le_of_ble_eq_true rfl⟩) (ro_preV 11 0 hK (hP.sub [0] rfl) rfl rfl) rfl rfl hl.1 rfl (lv_room (Nat.le_of_ble_eq_true rfl)) dX11_line_4 ⟨Nat.zero_le _, Nat.zero_le _⟩) hS hP (fun r4 H locs wr4 hP hS => ?_)
  obtain ⟨p_1, p_2, p_3, -⟩ := wr4
  refine lv_if_eq (tgt := 44) hx hb dX11_line_7 (by decide) (fun c7 => ?_) (fun c7 => ?_)
  · have h_4 : rg 0 0 r4 := r_eq_l_i (e := 0) (f := 0) c7 p_1 (rgn 0 (x := 0) (by decide)) (by decide)
    refine lv_aload_n hx hb dX11_line_44 rfl (lv_at hl 0 rfl) ?_
    refine lv_ldc2 (own := RX11) (v := 60268) hx hb hown (hts (.constantLong RX11 175 (60268)) (by decide +kernel)) dX11_line_45 ?_
    refine wj_callv (wr := [(a7, .inl (ct 0, 15, .inl f7)), (a8, .inl (ct 0, 200, .inl f8))]) (w1 := (fun u : SU => [(a0, .inr (11, [.int n0_0, .ref a1, .ref a2, .ref a3, .ref a4, .ref a5, .int n0_6, .int (u.1 0), .int (u.1 1), .int (u.1 2), .int (u.1 3), .long (u.2.2 0 0), .int (u.1 4), .int (u.1 5), .int n0_14, .int n0_15, .ref a6, .ref a7, .ref a8, .ref a9, .ref a10, .ref a11, .ref a12, .ref a13, .int n0_24, .int n0_25, .int n0_26, .int n0_27, .ref a14, .int n0_29, .int n0_30])), (a5, .inl (ct 1, 900, .inl f5))])) (va_runV (As := [.long 60268]) (rest := []) ⟨hx, hb, hml, hown, hts⟩ (a_X11_asks l G ct a0 n0_0 a1 a2 a3 a4 a5 n0_6 n0_7 n0_8 n0_9 n0_10 l0_11 n0_12 n0_13 n0_14 n0_15 a6 a7 a8 a9 a10 a11 a12 a13 n0_24 n0_25 n0_26 n0_27 a14 n0_29 n0_30 f5 (60268 : Int64) hp_n0_6 hp_n0_7 hp_n0_8 hp_n0_10 hat) (cwV 1 hts gX11_line_X11_asks rfl rfl rfl (by decide +kernel) ⟨Nat.le_of_ble_eq_true rfl, Nat.le_of_ble_eq_true rfl⟩) (wr_preV 11 0 hK (hP.sub [0, 1] rfl) (hD.sub [0, 1] (by decide) rfl) rfl rfl) rfl rfl hl.1 rfl (lv_room (Nat.le_of_ble_eq_true rfl)) dX11_line_48 ⟨Nat.zero_le _, Nat.zero_le _⟩) hS hP hD [0, 1] [2, 3] rfl rfl (by decide) (fun _ => rfl) (fun ur48 H locs wr48 hP hD hS => ?_)
    have hP : va_P G vwCl [(a0, .inr (11, [.int n0_0, .ref a1, .ref a2, .ref a3, .ref a4, .ref a5, .int n0_6, .int (ur48.1 0), .int (ur48.1 1), .int (ur48.1 2), .int (ur48.1 3), .long (ur48.2.2 0 0), .int (ur48.1 4), .int (ur48.1 5), .int n0_14, .int n0_15, .ref a6, .ref a7, .ref a8, .ref a9, .ref a10, .ref a11, .ref a12, .ref a13, .int n0_24, .int n0_25, .int n0_26, .int n0_27, .ref a14, .int n0_29, .int n0_30])), (a5, .inl (ct 1, 900, .inl f5)), (a7, .inl (ct 0, 15, .inl f7)), (a8, .inl (ct 0, 200, .inl f8))] H := hP.sub [2, 3, 0, 1] rfl
    have hD : va_D A [(a0, .inr (11, [.int n0_0, .ref a1, .ref a2, .ref a3, .ref a4, .ref a5, .int n0_6, .int (ur48.1 0), .int (ur48.1 1), .int (ur48.1 2), .int (ur48.1 3), .long (ur48.2.2 0 0), .int (ur48.1 4), .int (ur48.1 5), .int n0_14, .int n0_15, .ref a6, .ref a7, .ref a8, .ref a9, .ref a10, .ref a11, .ref a12, .ref a13, .int n0_24, .int n0_25, .int n0_26, .int n0_27, .ref a14, .int n0_29, .int n0_30])), (a5, .inl (ct 1, 900, .inl f5)), (a7, .inl (ct 0, 15, .inl f7)), (a8, .inl (ct 0, 200, .inl f8))] := hD.sub [2, 3, 0, 1] (by decide) rfl
    obtain ⟨p_5, p_6, p_7, p_8, -⟩ := wr48
    refine lv_aload_n hx hb dX11_line_51 rfl (lv_at hl 0 rfl) ?_
    refine wj_callv (wr := []) (w1 := (fun u : SU => [(a0, .inr (11, [.int n0_0, .ref a1, .ref a2, .ref a3, .ref a4, .ref a5, .int n0_6, .int (u.1 0), .int (u.1 1), .int (u.1 2), .int (u.1 3), .long (u.2.2 0 0), .int (u.1 4), .int (u.1 5), .int n0_14, .int n0_15, .ref a6, .ref a7, .ref a8, .ref a9, .ref a10, .ref a11, .ref a12, .ref a13, .int n0_24, .int n0_25, .int n0_26, .int n0_27, .ref a14, .int n0_29, .int n0_30])), (a5, .inl (ct 1, 900, .inl f5)), (a7, .inl (ct 0, 15, .inl f7)), (a8, .inl (ct 0, 200, .inl (u.2.1 0)))])) (va_runV (As := []) (rest := []) ⟨hx, hb, hml, hown, hts⟩ (a_X11_cardLine l G ct a0 n0_0 a1 a2 a3 a4 a5 n0_6 (ur48.1 0) (ur48.1 1) (ur48.1 2) (ur48.1 3) (ur48.2.2 0 0) (ur48.1 4) (ur48.1 5) n0_14 n0_15 a6 a7 a8 a9 a10 a11 a12 a13 n0_24 n0_25 n0_26 n0_27 a14 n0_29 n0_30 f5 f7 f8 hp_n0_6 hp_f7 hp_f8 p_5 p_6 p_7 p_8.2) (cwV 0 hts gX11_line_X11_cardLine rfl rfl rfl (by decide +kernel) ⟨Nat.le_of_ble_eq_true rfl, Nat.le_of_ble_eq_true rfl⟩) (wr_preV 11 0 hK (hP.sub [0, 1, 2, 3] rfl) (hD.sub [0, 1, 2, 3] (by decide) rfl) rfl rfl) rfl rfl hl.1 rfl (lv_room (Nat.le_of_ble_eq_true rfl)) dX11_line_52 ⟨Nat.zero_le _, Nat.zero_le _⟩) hS hP hD [0, 1, 2, 3] [] rfl rfl (by decide) (fun _ => rfl) (fun ur52 H locs wr52 hP hD hS => ?_)
    have hP : va_P G vwCl [(a0, .inr (11, [.int n0_0, .ref a1, .ref a2, .ref a3, .ref a4, .ref a5, .int n0_6, .int (ur52.1 0), .int (ur52.1 1), .int (ur52.1 2), .int (ur52.1 3), .long (ur52.2.2 0 0), .int (ur52.1 4), .int (ur52.1 5), .int n0_14, .int n0_15, .ref a6, .ref a7, .ref a8, .ref a9, .ref a10, .ref a11, .ref a12, .ref a13, .int n0_24, .int n0_25, .int n0_26, .int n0_27, .ref a14, .int n0_29, .int n0_30])), (a5, .inl (ct 1, 900, .inl f5)), (a7, .inl (ct 0, 15, .inl f7)), (a8, .inl (ct 0, 200, .inl (ur52.2.1 0)))] H := hP.sub [0, 1, 2, 3] rfl
    have hD : va_D A [(a0, .inr (11, [.int n0_0, .ref a1, .ref a2, .ref a3, .ref a4, .ref a5, .int n0_6, .int (ur52.1 0), .int (ur52.1 1), .int (ur52.1 2), .int (ur52.1 3), .long (ur52.2.2 0 0), .int (ur52.1 4), .int (ur52.1 5), .int n0_14, .int n0_15, .ref a6, .ref a7, .ref a8, .ref a9, .ref a10, .ref a11, .ref a12, .ref a13, .int n0_24, .int n0_25, .int n0_26, .int n0_27, .ref a14, .int n0_29, .int n0_30])), (a5, .inl (ct 1, 900, .inl f5)), (a7, .inl (ct 0, 15, .inl f7)), (a8, .inl (ct 0, 200, .inl (ur52.2.1 0)))] := hD.sub [0, 1, 2, 3] (by decide) rfl
    obtain ⟨p_9, p_10, p_11, p_12, p_13, -⟩ := wr52
    exact W.vret hx hb hr (fun t ht hW => ⟨⟨(fun k => ([ur52.1 0, ur52.1 1, ur52.1 2, ur52.1 3, ur52.1 4, ur52.1 5] : List Int32).getD k 0, fun k => ([f7, ur52.2.1 0] : List (Nat → Int32)).getD k (fun _ => 0), fun k => ([fun _ => ur52.2.2 0 0] : List (Nat → Int64)).getD k (fun _ => 0)), rfl, ⟨hp_f7, p_9, p_10, p_11, p_12, ⟨(show n0_7.toInt ≤ (ur52.1 0).toInt from (Int.le_trans (Int.le_trans (Int.le_refl _) p_8.1) p_13.1)), (show (ur52.1 0).toInt ≤ n0_6.toInt from p_13.2)⟩, trivial⟩, hp_at ht hP⟩, hS.F ht⟩) hS.2.2 dX11_line_55
  · have h_14 : rg 1 1 r4 := r_ne_lo_i c7 p_1 (by decide) (by decide)
    have h_15 : rg 1 1 n0_8 := (p_2 (rne h_14 (y := 0) (c := 0) (by decide) (by decide)))
    have h_16 : rg 0 0 n0_12 := (p_3 (rne h_14 (y := 0) (c := 0) (by decide) (by decide)))
    refine lv_aload_n hx hb dX11_line_10 rfl (lv_at hl 0 rfl) ?_
    refine lv_iconst (v := 1) hx hb dX11_line_11 (by decide) ?_
    refine ro_calli (va_runV (As := [.int 1]) (rest := []) ⟨hx, hb, hml, hown, hts⟩ (a_X11_hasRead1 l G ct a0 n0_0 a1 a2 a3 a4 a5 n0_6 n0_7 n0_8 n0_9 n0_10 l0_11 n0_12 n0_13 n0_14 n0_15 a6 a7 a8 a9 a10 a11 a12 a13 n0_24 n0_25 n0_26 n0_27 a14 n0_29 n0_30 f7 hp_n0_6 hp_f7) (cwV 1 hts gX11_line_X11_hasRead rfl rfl rfl (by decide +kernel) ⟨Nat.le_of_ble_eq_true rfl, Nat.le_of_ble_eq_true rfl⟩) (ro_preV 11 0 hK (hP.sub [0, 2] rfl) rfl rfl) rfl rfl hl.1 rfl (lv_room (Nat.le_of_ble_eq_true rfl)) dX11_line_12 ⟨Nat.zero_le _, Nat.zero_le _⟩) hS hP (fun r12 H locs wr12 hP hS => ?_)
    obtain ⟨p_17, p_18, -⟩ := wr12
    have gr12 := p_18
    refine lv_bipush (v := 8) hx hb dX11_line_15 (by decide) ?_
    refine lv_icmp_ne (tgt := 25) hx hb dX11_line_17 (by decide) (fun c17 => ?_) (fun c17 => ?_)
    · have h_19 : rg 0 7 r12 := r_ne_hi_i c17 p_17 (by decide) (by decide)
      refine lv_aload_n hx hb dX11_line_25 rfl (lv_at hl 0 rfl) ?_
      refine va_get (D := G) (ci := 11) (v := .int n0_12) (C := RX11) (T := TX11) (N := 31) hx hb hts (by decide +kernel) hown hK.1 hP 0 rfl rfl 12 (by decide) (hts (.fieldLink RX11 111 "CardHolderModel" "bad" "I") (by decide +kernel)) (fun _ h9 => h9) rfl dX11_line_26 ?_
      refine lv_if_eq (tgt := 33) hx hb dX11_line_29 (by decide) (fun c29 => ?_) (fun c29 => ?_)
      · refine lv_aload_n hx hb dX11_line_33 rfl (lv_at hl 0 rfl) ?_
        refine wj_callv (wr := [(a7, .inl (ct 0, 15, .inl f7)), (a8, .inl (ct 0, 200, .inl f8))]) (w1 := (fun u : SU => [(a0, .inr (11, [.int n0_0, .ref a1, .ref a2, .ref a3, .ref a4, .ref a5, .int n0_6, .int (u.1 0), .int (u.1 1), .int (u.1 2), .int (u.1 3), .long (u.2.2 0 0), .int n0_12, .int n0_13, .int n0_14, .int n0_15, .ref a6, .ref a7, .ref a8, .ref a9, .ref a10, .ref a11, .ref a12, .ref a13, .int n0_24, .int n0_25, .int n0_26, .int n0_27, .ref a14, .int n0_29, .int n0_30])), (a5, .inl (ct 1, 900, .inl f5))])) (va_runV (As := []) (rest := []) ⟨hx, hb, hml, hown, hts⟩ (a_X11_next l G ct a0 n0_0 a1 a2 a3 a4 a5 n0_6 n0_7 n0_8 n0_9 n0_10 l0_11 n0_12 n0_13 n0_14 n0_15 a6 a7 a8 a9 a10 a11 a12 a13 n0_24 n0_25 n0_26 n0_27 a14 n0_29 n0_30 f5 hp_n0_6 hp_n0_7 hat) (cwV 0 hts gX11_line_X11_next rfl rfl rfl (by decide +kernel) ⟨Nat.le_of_ble_eq_true rfl, Nat.le_of_ble_eq_true rfl⟩) (wr_preV 11 0 hK (hP.sub [0, 1] rfl) (hD.sub [0, 1] (by decide) rfl) rfl rfl) rfl rfl hl.1 rfl (lv_room (Nat.le_of_ble_eq_true rfl)) dX11_line_34 ⟨Nat.zero_le _, Nat.zero_le _⟩) hS hP hD [0, 1] [2, 3] rfl rfl (by decide) (fun _ => rfl) (fun ur34 H locs wr34 hP hD hS => ?_)
        have hP : va_P G vwCl [(a0, .inr (11, [.int n0_0, .ref a1, .ref a2, .ref a3, .ref a4, .ref a5, .int n0_6, .int (ur34.1 0), .int (ur34.1 1), .int (ur34.1 2), .int (ur34.1 3), .long (ur34.2.2 0 0), .int n0_12, .int n0_13, .int n0_14, .int n0_15, .ref a6, .ref a7, .ref a8, .ref a9, .ref a10, .ref a11, .ref a12, .ref a13, .int n0_24, .int n0_25, .int n0_26, .int n0_27, .ref a14, .int n0_29, .int n0_30])), (a5, .inl (ct 1, 900, .inl f5)), (a7, .inl (ct 0, 15, .inl f7)), (a8, .inl (ct 0, 200, .inl f8))] H := hP.sub [2, 3, 0, 1] rfl
        have hD : va_D A [(a0, .inr (11, [.int n0_0, .ref a1, .ref a2, .ref a3, .ref a4, .ref a5, .int n0_6, .int (ur34.1 0), .int (ur34.1 1), .int (ur34.1 2), .int (ur34.1 3), .long (ur34.2.2 0 0), .int n0_12, .int n0_13, .int n0_14, .int n0_15, .ref a6, .ref a7, .ref a8, .ref a9, .ref a10, .ref a11, .ref a12, .ref a13, .int n0_24, .int n0_25, .int n0_26, .int n0_27, .ref a14, .int n0_29, .int n0_30])), (a5, .inl (ct 1, 900, .inl f5)), (a7, .inl (ct 0, 15, .inl f7)), (a8, .inl (ct 0, 200, .inl f8))] := hD.sub [2, 3, 0, 1] (by decide) rfl
        obtain ⟨p_20, p_21, p_22, p_23, p_24, -⟩ := wr34
        refine lv_aload_n hx hb dX11_line_37 rfl (lv_at hl 0 rfl) ?_
        refine wj_callv (wr := []) (w1 := (fun u : SU => [(a0, .inr (11, [.int n0_0, .ref a1, .ref a2, .ref a3, .ref a4, .ref a5, .int n0_6, .int (u.1 0), .int (u.1 1), .int (u.1 2), .int (u.1 3), .long (u.2.2 0 0), .int (u.1 4), .int (u.1 5), .int n0_14, .int n0_15, .ref a6, .ref a7, .ref a8, .ref a9, .ref a10, .ref a11, .ref a12, .ref a13, .int n0_24, .int n0_25, .int n0_26, .int n0_27, .ref a14, .int n0_29, .int n0_30])), (a5, .inl (ct 1, 900, .inl f5)), (a7, .inl (ct 0, 15, .inl (u.2.1 0))), (a8, .inl (ct 0, 200, .inl (u.2.1 1)))])) (va_runV (As := []) (rest := []) ⟨hx, hb, hml, hown, hts⟩ (a_X11_personLine l G ct a0 n0_0 a1 a2 a3 a4 a5 n0_6 (ur34.1 0) (ur34.1 1) (ur34.1 2) (ur34.1 3) (ur34.2.2 0 0) n0_12 n0_13 n0_14 n0_15 a6 a7 a8 a9 a10 a11 a12 a13 n0_24 n0_25 n0_26 n0_27 a14 n0_29 n0_30 f5 f7 f8 hp_n0_6 hp_f7 hp_f8 p_20 p_21 p_23 p_24.2.1 (by rw [← gr12]; exact (rg_w (c := (-2147483648)) (d := 7) h_19 (by decide)).2)) (cwV 0 hts gX11_line_X11_personLine rfl rfl rfl (by decide +kernel) ⟨Nat.le_of_ble_eq_true rfl, Nat.le_of_ble_eq_true rfl⟩) (wr_preV 11 0 hK (hP.sub [0, 1, 2, 3] rfl) (hD.sub [0, 1, 2, 3] (by decide) rfl) rfl rfl) rfl rfl hl.1 rfl (lv_room (Nat.le_of_ble_eq_true rfl)) dX11_line_38 ⟨Nat.zero_le _, Nat.zero_le _⟩) hS hP hD [0, 1, 2, 3] [] rfl rfl (by decide) (fun _ => rfl) (fun ur38 H locs wr38 hP hD hS => ?_)
        have hP : va_P G vwCl [(a0, .inr (11, [.int n0_0, .ref a1, .ref a2, .ref a3, .ref a4, .ref a5, .int n0_6, .int (ur38.1 0), .int (ur38.1 1), .int (ur38.1 2), .int (ur38.1 3), .long (ur38.2.2 0 0), .int (ur38.1 4), .int (ur38.1 5), .int n0_14, .int n0_15, .ref a6, .ref a7, .ref a8, .ref a9, .ref a10, .ref a11, .ref a12, .ref a13, .int n0_24, .int n0_25, .int n0_26, .int n0_27, .ref a14, .int n0_29, .int n0_30])), (a5, .inl (ct 1, 900, .inl f5)), (a7, .inl (ct 0, 15, .inl (ur38.2.1 0))), (a8, .inl (ct 0, 200, .inl (ur38.2.1 1)))] H := hP.sub [0, 1, 2, 3] rfl
        have hD : va_D A [(a0, .inr (11, [.int n0_0, .ref a1, .ref a2, .ref a3, .ref a4, .ref a5, .int n0_6, .int (ur38.1 0), .int (ur38.1 1), .int (ur38.1 2), .int (ur38.1 3), .long (ur38.2.2 0 0), .int (ur38.1 4), .int (ur38.1 5), .int n0_14, .int n0_15, .ref a6, .ref a7, .ref a8, .ref a9, .ref a10, .ref a11, .ref a12, .ref a13, .int n0_24, .int n0_25, .int n0_26, .int n0_27, .ref a14, .int n0_29, .int n0_30])), (a5, .inl (ct 1, 900, .inl f5)), (a7, .inl (ct 0, 15, .inl (ur38.2.1 0))), (a8, .inl (ct 0, 200, .inl (ur38.2.1 1)))] := hD.sub [0, 1, 2, 3] (by decide) rfl
        obtain ⟨p_25, p_26, p_27, p_28, p_29, p_30, -⟩ := wr38
        refine lv_goto (tgt := 55) hx hb dX11_line_41 (by decide) ?_
        exact W.vret hx hb hr (fun t ht hW => ⟨⟨(fun k => ([ur38.1 0, ur38.1 1, ur38.1 2, ur38.1 3, ur38.1 4, ur38.1 5] : List Int32).getD k 0, fun k => ([ur38.2.1 0, ur38.2.1 1] : List (Nat → Int32)).getD k (fun _ => 0), fun k => ([fun _ => ur38.2.2 0 0] : List (Nat → Int64)).getD k (fun _ => 0)), rfl, ⟨p_25, p_26, p_27, p_28, p_29, ⟨(show n0_7.toInt ≤ (ur38.1 0).toInt from (Int.le_trans (Int.le_trans (Int.le_refl _) p_24.1) p_30.1)), (show (ur38.1 0).toInt ≤ n0_6.toInt from p_30.2)⟩, trivial⟩, hp_at ht hP⟩, hS.F ht⟩) hS.2.2 dX11_line_55
      · exact (dd_ne_i c29 h_16 (rgn 0 (x := 0) (by decide))).elim
    · have h_31 : rg 8 8 r12 := r_eq_l_i (e := 8) (f := 8) c17 p_17 (rgn 8 (x := 8) (by decide)) (by decide)
      refine lv_aload_n hx hb dX11_line_20 rfl (lv_at hl 0 rfl) ?_
      refine lv_iconst (v := 3) hx hb dX11_line_21 (by decide) ?_
      refine wj_callv (wr := [(a5, .inl (ct 1, 900, .inl f5)), (a7, .inl (ct 0, 15, .inl f7)), (a8, .inl (ct 0, 200, .inl f8))]) (w1 := (fun u : SU => [(a0, .inr (11, [.int n0_0, .ref a1, .ref a2, .ref a3, .ref a4, .ref a5, .int n0_6, .int n0_7, .int n0_8, .int n0_9, .int n0_10, .long l0_11, .int (u.1 0), .int (u.1 1), .int n0_14, .int n0_15, .ref a6, .ref a7, .ref a8, .ref a9, .ref a10, .ref a11, .ref a12, .ref a13, .int n0_24, .int n0_25, .int n0_26, .int n0_27, .ref a14, .int n0_29, .int n0_30]))])) (va_runV (As := [.int 3]) (rest := []) ⟨hx, hb, hml, hown, hts⟩ (a_X11_fails3 l G ct a0 n0_0 a1 a2 a3 a4 a5 n0_6 n0_7 n0_8 n0_9 n0_10 l0_11 n0_12 n0_13 n0_14 n0_15 a6 a7 a8 a9 a10 a11 a12 a13 n0_24 n0_25 n0_26 n0_27 a14 n0_29 n0_30 hp_n0_6) (cwV 1 hts gX11_line_X11_fails rfl rfl rfl (by decide +kernel) ⟨Nat.le_of_ble_eq_true rfl, Nat.le_of_ble_eq_true rfl⟩) (wr_preV 11 0 hK (hP.sub [0] rfl) (hD.sub [0] (by decide) rfl) rfl rfl) rfl rfl hl.1 rfl (lv_room (Nat.le_of_ble_eq_true rfl)) dX11_line_22 ⟨Nat.zero_le _, Nat.zero_le _⟩) hS hP hD [0] [1, 2, 3] rfl rfl (by decide) (fun _ => rfl) (fun ur22 H locs wr22 hP hD hS => ?_)
      have hP : va_P G vwCl [(a0, .inr (11, [.int n0_0, .ref a1, .ref a2, .ref a3, .ref a4, .ref a5, .int n0_6, .int n0_7, .int n0_8, .int n0_9, .int n0_10, .long l0_11, .int (ur22.1 0), .int (ur22.1 1), .int n0_14, .int n0_15, .ref a6, .ref a7, .ref a8, .ref a9, .ref a10, .ref a11, .ref a12, .ref a13, .int n0_24, .int n0_25, .int n0_26, .int n0_27, .ref a14, .int n0_29, .int n0_30])), (a5, .inl (ct 1, 900, .inl f5)), (a7, .inl (ct 0, 15, .inl f7)), (a8, .inl (ct 0, 200, .inl f8))] H := hP.sub [3, 0, 1, 2] rfl
      have hD : va_D A [(a0, .inr (11, [.int n0_0, .ref a1, .ref a2, .ref a3, .ref a4, .ref a5, .int n0_6, .int n0_7, .int n0_8, .int n0_9, .int n0_10, .long l0_11, .int (ur22.1 0), .int (ur22.1 1), .int n0_14, .int n0_15, .ref a6, .ref a7, .ref a8, .ref a9, .ref a10, .ref a11, .ref a12, .ref a13, .int n0_24, .int n0_25, .int n0_26, .int n0_27, .ref a14, .int n0_29, .int n0_30])), (a5, .inl (ct 1, 900, .inl f5)), (a7, .inl (ct 0, 15, .inl f7)), (a8, .inl (ct 0, 200, .inl f8))] := hD.sub [3, 0, 1, 2] (by decide) rfl
      obtain ⟨p_32, -⟩ := wr22
      refine lv_aload_n hx hb dX11_line_25 rfl (lv_at hl 0 rfl) ?_
      refine va_get (D := G) (ci := 11) (v := .int (ur22.1 0)) (C := RX11) (T := TX11) (N := 31) hx hb hts (by decide +kernel) hown hK.1 hP 0 rfl rfl 12 (by decide) (hts (.fieldLink RX11 111 "CardHolderModel" "bad" "I") (by decide +kernel)) (fun _ h9 => h9) rfl dX11_line_26 ?_
      refine lv_if_eq (tgt := 33) hx hb dX11_line_29 (by decide) (fun c29 => ?_) (fun c29 => ?_)
      · exact absurd c29 p_32
      · exact W.vret hx hb hr (fun t ht hW => ⟨⟨(fun k => ([n0_7, n0_8, n0_9, n0_10, ur22.1 0, ur22.1 1] : List Int32).getD k 0, fun k => ([f7, f8] : List (Nat → Int32)).getD k (fun _ => 0), fun k => ([fun _ => l0_11] : List (Nat → Int64)).getD k (fun _ => 0)), rfl, ⟨hp_f7, hp_f8, hp_n0_7, (rg_w (c := 0) (d := 4) h_15 (by decide)), hp_n0_10, ⟨(show n0_7.toInt ≤ (n0_7).toInt from (Int.le_refl _)), (show (n0_7).toInt ≤ n0_6.toInt from hat)⟩, trivial⟩, hp_at ht hP⟩, hS.F ht⟩) hS.2.2 dX11_line_32

set_option maxHeartbeats 4000000 in
set_option maxRecDepth 100000 in
theorem a_X11_tells (l : Launch) (G : va_G) (ct : Nat → ClassId) (a0 : Nat) (n0_0 : Int32) (a1 : Nat) (a2 : Nat) (a3 : Nat) (a4 : Nat) (a5 : Nat) (n0_6 : Int32) (n0_7 : Int32) (n0_8 : Int32) (n0_9 : Int32) (n0_10 : Int32) (l0_11 : Int64) (n0_12 : Int32) (n0_13 : Int32) (n0_14 : Int32) (n0_15 : Int32) (a6 : Nat) (a7 : Nat) (a8 : Nat) (a9 : Nat) (a10 : Nat) (a11 : Nat) (a12 : Nat) (a13 : Nat) (n0_24 : Int32) (n0_25 : Int32) (n0_26 : Int32) (n0_27 : Int32) (a14 : Nat) (n0_29 : Int32) (n0_30 : Int32) (f7 : Nat → Int32) (p0 : Int32) (p1 : Int32) (hp_n0_6 : rg 0 900 n0_6) (hp_f7 : hsI f7) (hp_p0 : rg 0 2 p0) (hp_p1 : rg 0 8 p1) : Met l yX11_tells wsX11_tells ({ frames := 0, cells := 0, slots := 0, locals := 0 }) (va_Pc [.ref a0, .int p0, .int p1] (wrP G ct [(a0, .inr (11, [.int n0_0, .ref a1, .ref a2, .ref a3, .ref a4, .ref a5, .int n0_6, .int n0_7, .int n0_8, .int n0_9, .int n0_10, .long l0_11, .int n0_12, .int n0_13, .int n0_14, .int n0_15, .ref a6, .ref a7, .ref a8, .ref a9, .ref a10, .ref a11, .ref a12, .ref a13, .int n0_24, .int n0_25, .int n0_26, .int n0_27, .ref a14, .int n0_29, .int n0_30])), (a7, .inl (ct 0, 15, .inl f7))])) (va_Qv (fun u : SU => hsI (u.2.1 0) ∧ True) (fun u t => va_P G vwCl ((fun u : SU => [(a0, .inr (11, [.int n0_0, .ref a1, .ref a2, .ref a3, .ref a4, .ref a5, .int n0_6, .int n0_7, .int n0_8, .int n0_9, .int n0_10, .long l0_11, .int n0_12, .int n0_13, .int n0_14, .int n0_15, .ref a6, .ref a7, .ref a8, .ref a9, .ref a10, .ref a11, .ref a12, .ref a13, .int n0_24, .int n0_25, .int n0_26, .int n0_27, .ref a14, .int n0_29, .int n0_30])), (a7, .inl (ct 0, 15, .inl (u.2.1 0)))]) u) t.heap) (aset [(a0, .inr (11, [.int n0_0, .ref a1, .ref a2, .ref a3, .ref a4, .ref a5, .int n0_6, .int n0_7, .int n0_8, .int n0_9, .int n0_10, .long l0_11, .int n0_12, .int n0_13, .int n0_14, .int n0_15, .ref a6, .ref a7, .ref a8, .ref a9, .ref a10, .ref a11, .ref a12, .ref a13, .int n0_24, .int n0_25, .int n0_26, .int n0_27, .ref a14, .int n0_29, .int n0_30])), (a7, .inl (ct 0, 15, .inl f7))])) 0 0 (aset [(a0, .inr (11, [.int n0_0, .ref a1, .ref a2, .ref a3, .ref a4, .ref a5, .int n0_6, .int n0_7, .int n0_8, .int n0_9, .int n0_10, .long l0_11, .int n0_12, .int n0_13, .int n0_14, .int n0_15, .ref a6, .ref a7, .ref a8, .ref a9, .ref a10, .ref a11, .ref a12, .ref a13, .int n0_24, .int n0_25, .int n0_26, .int n0_27, .ref a14, .int n0_29, .int n0_30])), (a7, .inl (ct 0, 15, .inl f7))]) := by
  refine Met.ofW (cc := cX11_tells) (maxL := 3) (ret := none) (by decide) rfl ?_
  intro p e s m args below meth c s₁ B hml hv
  obtain ⟨rfl, hP, hK, hD0⟩ := hv
  have hx := B.exec
  have hb := B.bytes
  have hr := B.returns
  have hts := atoms_spec (ws := wsX11_tells) B.pre
  have hown : s.vm.findClass RX11 = some m.cls := findClass_of_methodNamed B.named
  have hlocks := B.notSynchronized
  have hD := hD0.aself
  generalize hAe : aset [(a0, .inr (11, [.int n0_0, .ref a1, .ref a2, .ref a3, .ref a4, .ref a5, .int n0_6, .int n0_7, .int n0_8, .int n0_9, .int n0_10, .long l0_11, .int n0_12, .int n0_13, .int n0_14, .int n0_15, .ref a6, .ref a7, .ref a8, .ref a9, .ref a10, .ref a11, .ref a12, .ref a13, .int n0_24, .int n0_25, .int n0_26, .int n0_27, .ref a14, .int n0_29, .int n0_30])), (a7, .inl (ct 0, 15, .inl f7))] = A at hD ⊢
  have hS : va_S A s.heap s.heap [] := va_S.rf
  have hl := lv_entry ([.ref a0, .int p0, .int p1]) (n := 3) (Nat.le_of_ble_eq_true rfl)
  rw [lg_entry_eq]
  generalize (lg_sl ([.ref a0, .int p0, .int p1]) ++ List.replicate (3 - (lg_sl ([.ref a0, .int p0, .int p1])).length) Slot.unset).toArray = ls at hl ⊢
  have hl : lv_has ls 3 [(0, .ref a0), (1, .int p0), (2, .int p1)] := hl
  refine lv_aload_n hx hb dX11_tells_0 rfl (lv_at hl 0 rfl) ?_
  refine va_get (D := G) (ci := 11) (v := .ref a7) (C := RX11) (T := TX11) (N := 31) hx hb hts (by decide +kernel) hown hK.1 hP 0 rfl rfl 17 (by decide) (hts (.fieldLink RX11 34 "CardHolderModel" "has" "[I") (by decide +kernel)) (fun _ h9 => h9) rfl dX11_tells_1 ?_
  refine lv_bipush (v := 12) hx hb dX11_tells_4 (by decide) ?_
  refine lv_iload_n hx hb dX11_tells_6 rfl (lv_at hl 1 rfl) ?_
  refine lv_iadd hx hb dX11_tells_7 ?_
  refine nm_add (e1 := 12) (f := 14) (rgn 12 (x := 12) (by decide)) hp_p0 (by decide) (fun z7 hz7 ez7 => ?_)
  replace ez7 := eqc_l ez7 (c := 12) (by decide)
  refine lv_iload_n hx hb dX11_tells_8 rfl (lv_at hl 2 rfl) ?_
  refine va_iast hx hb hK.1 hP hD hS 1 0 rfl rfl (in_rg hz7 (by decide)) dX11_tells_9 (fun H locs hP hD hS => ?_)
  have h_1 : hsI (upd f7 z7.toNatClampNeg p1) := hs_u hp_f7 hp_p1
  exact W.vret hx hb hr (fun t ht hW => ⟨⟨(fun k => ([] : List Int32).getD k 0, fun k => ([upd f7 z7.toNatClampNeg p1] : List (Nat → Int32)).getD k (fun _ => 0), fun k => ([] : List (Nat → Int64)).getD k (fun _ => 0)), rfl, ⟨h_1, trivial⟩, hp_at ht hP⟩, hS.F ht⟩) hS.2.2 dX11_tells_10
