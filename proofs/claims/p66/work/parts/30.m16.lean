theorem dX11_count_0 : decode cX11_count 0 = .ok (.aload_n 0, 1) := by decide +kernel
theorem dX11_count_1 : decode cX11_count 1 = .ok (.iconst 0, 1) := by decide +kernel
theorem dX11_count_2 : decode cX11_count 2 = .ok (.putfield 59, 3) := by decide +kernel
theorem dX11_count_5 : decode cX11_count 5 = .ok (.iconst 0, 1) := by decide +kernel
theorem dX11_count_6 : decode cX11_count 6 = .ok (.istore_n 2, 1) := by decide +kernel
theorem dX11_count_7 : decode cX11_count 7 = .ok (.iload_n 1, 1) := by decide +kernel
theorem dX11_count_8 : decode cX11_count 8 = .ok (.tableswitch 162 0 7 #[48, 55, 62, 81, 110, 117, 124, 129], 48) := by decide +kernel
theorem dX11_count_56 : decode cX11_count 56 = .ok (.aload_n 0, 1) := by decide +kernel
theorem dX11_count_57 : decode cX11_count 57 = .ok (.getfield 34, 3) := by decide +kernel
theorem dX11_count_60 : decode cX11_count 60 = .ok (.iconst 1, 1) := by decide +kernel
theorem dX11_count_61 : decode cX11_count 61 = .ok (.iaload, 1) := by decide +kernel
theorem dX11_count_62 : decode cX11_count 62 = .ok (.ireturn, 1) := by decide +kernel
theorem dX11_count_63 : decode cX11_count 63 = .ok (.aload_n 0, 1) := by decide +kernel
theorem dX11_count_64 : decode cX11_count 64 = .ok (.getfield 34, 3) := by decide +kernel
theorem dX11_count_67 : decode cX11_count 67 = .ok (.iconst 0, 1) := by decide +kernel
theorem dX11_count_68 : decode cX11_count 68 = .ok (.iaload, 1) := by decide +kernel
theorem dX11_count_69 : decode cX11_count 69 = .ok (.ireturn, 1) := by decide +kernel
theorem dX11_count_70 : decode cX11_count 70 = .ok (.aload_n 0, 1) := by decide +kernel
set_option maxRecDepth 20000 in
theorem ggX11_count_X11_laysNow : GoodIn wsX11_count wsX11_laysNow := goodIn_r _ [10, 2, 11, 12, 13, 14, 9, 15, 16, 17, 18, 19, 20, 21, 22, 23, 24, 25, 26, 27, 28, 29, 30, 31, 32, 33, 34, 35, 36, 37, 38, 39, 40, 41, 42, 43, 44, 45, 46, 54, 55, 56, 57, 58, 59, 60, 61, 62, 63, 64, 65, 66, 67, 68, 69, 70, 71, 72, 73, 74, 75, 76, 77, 78, 79, 80, 81, 82, 83, 84] (by rfl) (by decide +kernel)
set_option maxRecDepth 20000 in
theorem gX11_count_X11_laysNow : GoodIn wsX11_count (wsV RX11 251 RX11 yX11_laysNow wsX11_laysNow) := goodIn_app (goodIn_r _ [6, 7, 8, 9] (by rfl) (by decide +kernel)) ggX11_count_X11_laysNow
theorem dX11_count_71 : decode cX11_count 71 = .ok (.invokevirtual 251, 3) := by decide +kernel
theorem dX11_count_74 : decode cX11_count 74 = .ok (.aload_n 0, 1) := by decide +kernel
theorem dX11_count_75 : decode cX11_count 75 = .ok (.getfield 34, 3) := by decide +kernel
theorem dX11_count_78 : decode cX11_count 78 = .ok (.iconst 1, 1) := by decide +kernel
theorem dX11_count_79 : decode cX11_count 79 = .ok (.iaload, 1) := by decide +kernel
theorem dX11_count_80 : decode cX11_count 80 = .ok (.aload_n 0, 1) := by decide +kernel
set_option maxRecDepth 20000 in
theorem ggX11_count_X11_freeNow : GoodIn wsX11_count wsX11_freeNow := goodIn_r _ [50, 2, 16, 54, 55, 56, 57, 58, 59, 60, 61, 62, 63, 64, 65, 66, 67, 68, 69, 70, 71, 72, 73, 74, 75, 76, 77, 78, 79, 80, 81, 82, 83, 84] (by rfl) (by decide +kernel)
set_option maxRecDepth 20000 in
theorem gX11_count_X11_freeNow : GoodIn wsX11_count (wsV RX11 260 RX11 yX11_freeNow wsX11_freeNow) := goodIn_app (goodIn_r _ [47, 48, 49, 9] (by rfl) (by decide +kernel)) ggX11_count_X11_freeNow
theorem dX11_count_81 : decode cX11_count 81 = .ok (.invokevirtual 260, 3) := by decide +kernel
set_option maxRecDepth 20000 in
theorem ggX11_count_X11_sizeOf : GoodIn wsX11_count wsX11_sizeOf := goodIn_r _ [53] (by rfl) (by decide +kernel)
set_option maxRecDepth 20000 in
theorem gX11_count_X11_sizeOf : GoodIn wsX11_count (va_wsS RX11 297 yX11_sizeOf wsX11_sizeOf) := goodIn_app (goodIn_r _ [51, 52, 9] (by rfl) (by decide +kernel)) ggX11_count_X11_sizeOf
theorem dX11_count_84 : decode cX11_count 84 = .ok (.invokestatic 297, 3) := by decide +kernel
theorem dX11_count_87 : decode cX11_count 87 = .ok (.isub, 1) := by decide +kernel
theorem dX11_count_88 : decode cX11_count 88 = .ok (.ireturn, 1) := by decide +kernel
theorem dX11_count_89 : decode cX11_count 89 = .ok (.iconst 0, 1) := by decide +kernel
theorem dX11_count_90 : decode cX11_count 90 = .ok (.istore_n 3, 1) := by decide +kernel
theorem dX11_count_91 : decode cX11_count 91 = .ok (.iload_n 3, 1) := by decide +kernel
theorem dX11_count_92 : decode cX11_count 92 = .ok (.aload_n 0, 1) := by decide +kernel
theorem dX11_count_93 : decode cX11_count 93 = .ok (.getfield 34, 3) := by decide +kernel
theorem dX11_count_96 : decode cX11_count 96 = .ok (.iconst 1, 1) := by decide +kernel
theorem dX11_count_97 : decode cX11_count 97 = .ok (.iaload, 1) := by decide +kernel
theorem dX11_count_98 : decode cX11_count 98 = .ok (.if_icmp .ge 18, 3) := by decide +kernel
theorem dX11_count_116 : decode cX11_count 116 = .ok (.iload_n 2, 1) := by decide +kernel
theorem dX11_count_117 : decode cX11_count 117 = .ok (.ireturn, 1) := by decide +kernel
theorem dX11_count_101 : decode cX11_count 101 = .ok (.iload_n 2, 1) := by decide +kernel
theorem dX11_count_102 : decode cX11_count 102 = .ok (.aload_n 0, 1) := by decide +kernel
theorem dX11_count_103 : decode cX11_count 103 = .ok (.iload_n 3, 1) := by decide +kernel
theorem dX11_count_104 : decode cX11_count 104 = .ok (.iconst 4, 1) := by decide +kernel
set_option maxRecDepth 20000 in
theorem ggX11_count_X11_of : GoodIn wsX11_count wsX11_of := goodIn_r _ [26, 27, 54, 55, 56, 57, 58, 59, 60, 61, 62, 63, 64, 65, 66, 67, 68, 69, 70, 71, 72, 73, 74, 75, 76, 77, 78, 79, 80, 81, 82, 83, 84] (by rfl) (by decide +kernel)
set_option maxRecDepth 20000 in
theorem gX11_count_X11_of : GoodIn wsX11_count (wsV RX11 214 RX11 yX11_of wsX11_of) := goodIn_app (goodIn_r _ [23, 24, 25, 9] (by rfl) (by decide +kernel)) ggX11_count_X11_of
theorem dX11_count_105 : decode cX11_count 105 = .ok (.invokevirtual 214, 3) := by decide +kernel
theorem dX11_count_108 : decode cX11_count 108 = .ok (.iadd, 1) := by decide +kernel
theorem dX11_count_109 : decode cX11_count 109 = .ok (.istore_n 2, 1) := by decide +kernel
theorem dX11_count_110 : decode cX11_count 110 = .ok (.iinc 3 1, 3) := by decide +kernel
theorem dX11_count_113 : decode cX11_count 113 = .ok (.goto (-22), 3) := by decide +kernel
theorem dX11_count_118 : decode cX11_count 118 = .ok (.aload_n 0, 1) := by decide +kernel
theorem dX11_count_119 : decode cX11_count 119 = .ok (.getfield 34, 3) := by decide +kernel
theorem dX11_count_122 : decode cX11_count 122 = .ok (.iconst 2, 1) := by decide +kernel
theorem dX11_count_123 : decode cX11_count 123 = .ok (.iaload, 1) := by decide +kernel
theorem dX11_count_124 : decode cX11_count 124 = .ok (.ireturn, 1) := by decide +kernel
theorem dX11_count_125 : decode cX11_count 125 = .ok (.aload_n 0, 1) := by decide +kernel
theorem dX11_count_126 : decode cX11_count 126 = .ok (.getfield 31, 3) := by decide +kernel
theorem dX11_count_129 : decode cX11_count 129 = .ok (.iconst 0, 1) := by decide +kernel
theorem dX11_count_130 : decode cX11_count 130 = .ok (.iaload, 1) := by decide +kernel
theorem dX11_count_131 : decode cX11_count 131 = .ok (.ireturn, 1) := by decide +kernel
theorem dX11_count_132 : decode cX11_count 132 = .ok (.aload_n 0, 1) := by decide +kernel
theorem dX11_count_133 : decode cX11_count 133 = .ok (.getfield 76, 3) := by decide +kernel
theorem dX11_count_136 : decode cX11_count 136 = .ok (.ireturn, 1) := by decide +kernel
theorem dX11_count_137 : decode cX11_count 137 = .ok (.iconst 0, 1) := by decide +kernel
theorem dX11_count_138 : decode cX11_count 138 = .ok (.istore_n 3, 1) := by decide +kernel
theorem dX11_count_139 : decode cX11_count 139 = .ok (.iload_n 3, 1) := by decide +kernel
theorem dX11_count_140 : decode cX11_count 140 = .ok (.iconst 4, 1) := by decide +kernel
theorem dX11_count_141 : decode cX11_count 141 = .ok (.if_icmp .ge 27, 3) := by decide +kernel
theorem dX11_count_168 : decode cX11_count 168 = .ok (.iload_n 2, 1) := by decide +kernel
theorem dX11_count_169 : decode cX11_count 169 = .ok (.ireturn, 1) := by decide +kernel
theorem dX11_count_144 : decode cX11_count 144 = .ok (.iload_n 2, 1) := by decide +kernel
theorem dX11_count_145 : decode cX11_count 145 = .ok (.aload_n 0, 1) := by decide +kernel
theorem dX11_count_146 : decode cX11_count 146 = .ok (.getfield 7, 3) := by decide +kernel
theorem dX11_count_149 : decode cX11_count 149 = .ok (.iload_n 3, 1) := by decide +kernel
theorem dX11_count_150 : decode cX11_count 150 = .ok (.iaload, 1) := by decide +kernel
theorem dX11_count_151 : decode cX11_count 151 = .ok (.iconst (-1), 1) := by decide +kernel
theorem dX11_count_160 : decode cX11_count 160 = .ok (.iadd, 1) := by decide +kernel
theorem dX11_count_161 : decode cX11_count 161 = .ok (.istore_n 2, 1) := by decide +kernel
theorem dX11_count_162 : decode cX11_count 162 = .ok (.iinc 3 1, 3) := by decide +kernel
theorem dX11_count_165 : decode cX11_count 165 = .ok (.goto (-26), 3) := by decide +kernel
theorem dX11_count_152 : decode cX11_count 152 = .ok (.if_icmp .ne 7, 3) := by decide +kernel
theorem dX11_count_159 : decode cX11_count 159 = .ok (.iconst 1, 1) := by decide +kernel
theorem dX11_count_155 : decode cX11_count 155 = .ok (.iconst 0, 1) := by decide +kernel
theorem dX11_count_156 : decode cX11_count 156 = .ok (.goto 4, 3) := by decide +kernel
theorem dX11_count_170 : decode cX11_count 170 = .ok (.iconst (-1), 1) := by decide +kernel
theorem dX11_count_171 : decode cX11_count 171 = .ok (.ireturn, 1) := by decide +kernel
theorem dX11_copyRow_0 : decode cX11_copyRow 0 = .ok (.iconst 0, 1) := by decide +kernel
theorem dX11_copyRow_1 : decode cX11_copyRow 1 = .ok (.istore 4, 2) := by decide +kernel
theorem dX11_copyRow_3 : decode cX11_copyRow 3 = .ok (.iload 4, 2) := by decide +kernel
theorem dX11_copyRow_5 : decode cX11_copyRow 5 = .ok (.iload_n 1, 1) := by decide +kernel
theorem dX11_copyRow_6 : decode cX11_copyRow 6 = .ok (.if_icmp .ge 25, 3) := by decide +kernel
theorem dX11_copyRow_31 : decode cX11_copyRow 31 = .ok (.return_, 1) := by decide +kernel
theorem dX11_copyRow_9 : decode cX11_copyRow 9 = .ok (.aload_n 0, 1) := by decide +kernel
theorem dX11_copyRow_10 : decode cX11_copyRow 10 = .ok (.iload_n 1, 1) := by decide +kernel
theorem dX11_copyRow_11 : decode cX11_copyRow 11 = .ok (.iload_n 3, 1) := by decide +kernel
theorem dX11_copyRow_12 : decode cX11_copyRow 12 = .ok (.imul, 1) := by decide +kernel
theorem dX11_copyRow_13 : decode cX11_copyRow 13 = .ok (.iload 4, 2) := by decide +kernel
theorem dX11_copyRow_15 : decode cX11_copyRow 15 = .ok (.iadd, 1) := by decide +kernel
theorem dX11_copyRow_16 : decode cX11_copyRow 16 = .ok (.aload_n 0, 1) := by decide +kernel
theorem dX11_copyRow_17 : decode cX11_copyRow 17 = .ok (.iload_n 1, 1) := by decide +kernel
theorem dX11_copyRow_18 : decode cX11_copyRow 18 = .ok (.iload_n 2, 1) := by decide +kernel
theorem dX11_copyRow_19 : decode cX11_copyRow 19 = .ok (.imul, 1) := by decide +kernel
theorem dX11_copyRow_20 : decode cX11_copyRow 20 = .ok (.iload 4, 2) := by decide +kernel
theorem dX11_copyRow_22 : decode cX11_copyRow 22 = .ok (.iadd, 1) := by decide +kernel
theorem dX11_copyRow_23 : decode cX11_copyRow 23 = .ok (.iaload, 1) := by decide +kernel
theorem dX11_copyRow_24 : decode cX11_copyRow 24 = .ok (.iastore, 1) := by decide +kernel
theorem dX11_copyRow_25 : decode cX11_copyRow 25 = .ok (.iinc 4 1, 3) := by decide +kernel
theorem dX11_copyRow_28 : decode cX11_copyRow 28 = .ok (.goto (-25), 3) := by decide +kernel
theorem dX11_copyCity_0 : decode cX11_copyCity 0 = .ok (.aload_n 0, 1) := by decide +kernel
theorem dX11_copyCity_1 : decode cX11_copyCity 1 = .ok (.getfield 31, 3) := by decide +kernel
theorem dX11_copyCity_4 : decode cX11_copyCity 4 = .ok (.iconst 1, 1) := by decide +kernel
theorem dX11_copyCity_5 : decode cX11_copyCity 5 = .ok (.iload_n 1, 1) := by decide +kernel
theorem dX11_copyCity_6 : decode cX11_copyCity 6 = .ok (.iload_n 2, 1) := by decide +kernel
set_option maxRecDepth 20000 in
theorem ggX11_copyCity_X11_copyRow : GoodIn wsX11_copyCity wsX11_copyRow := goodIn_r _ [8] (by rfl) (by decide +kernel)
set_option maxRecDepth 20000 in
theorem gX11_copyCity_X11_copyRow : GoodIn wsX11_copyCity (va_wsS RX11 202 yX11_copyRow wsX11_copyRow) := goodIn_app (goodIn_r _ [5, 6, 7] (by rfl) (by decide +kernel)) ggX11_copyCity_X11_copyRow
theorem dX11_copyCity_7 : decode cX11_copyCity 7 = .ok (.invokestatic 202, 3) := by decide +kernel
theorem dX11_copyCity_10 : decode cX11_copyCity 10 = .ok (.aload_n 0, 1) := by decide +kernel
theorem dX11_copyCity_11 : decode cX11_copyCity 11 = .ok (.getfield 34, 3) := by decide +kernel
theorem dX11_copyCity_14 : decode cX11_copyCity 14 = .ok (.iconst 3, 1) := by decide +kernel
theorem dX11_copyCity_15 : decode cX11_copyCity 15 = .ok (.iload_n 1, 1) := by decide +kernel
theorem dX11_copyCity_16 : decode cX11_copyCity 16 = .ok (.iload_n 2, 1) := by decide +kernel
theorem dX11_copyCity_17 : decode cX11_copyCity 17 = .ok (.invokestatic 202, 3) := by decide +kernel
theorem dX11_copyCity_20 : decode cX11_copyCity 20 = .ok (.aload_n 0, 1) := by decide +kernel
theorem dX11_copyCity_21 : decode cX11_copyCity 21 = .ok (.getfield 37, 3) := by decide +kernel
theorem dX11_copyCity_24 : decode cX11_copyCity 24 = .ok (.bipush 40, 2) := by decide +kernel
theorem dX11_copyCity_26 : decode cX11_copyCity 26 = .ok (.iload_n 1, 1) := by decide +kernel
theorem dX11_copyCity_27 : decode cX11_copyCity 27 = .ok (.iload_n 2, 1) := by decide +kernel
theorem dX11_copyCity_28 : decode cX11_copyCity 28 = .ok (.invokestatic 202, 3) := by decide +kernel
theorem dX11_copyCity_31 : decode cX11_copyCity 31 = .ok (.aload_n 0, 1) := by decide +kernel
theorem dX11_copyCity_32 : decode cX11_copyCity 32 = .ok (.getfield 40, 3) := by decide +kernel
theorem dX11_copyCity_35 : decode cX11_copyCity 35 = .ok (.sipush 200, 3) := by decide +kernel
theorem dX11_copyCity_38 : decode cX11_copyCity 38 = .ok (.iload_n 1, 1) := by decide +kernel
theorem dX11_copyCity_39 : decode cX11_copyCity 39 = .ok (.iload_n 2, 1) := by decide +kernel
theorem dX11_copyCity_40 : decode cX11_copyCity 40 = .ok (.invokestatic 202, 3) := by decide +kernel
theorem dX11_copyCity_43 : decode cX11_copyCity 43 = .ok (.return_, 1) := by decide +kernel
theorem dX11_image_0 : decode cX11_image 0 = .ok (.aload_n 0, 1) := by decide +kernel
theorem dX11_image_1 : decode cX11_image 1 = .ok (.iconst 0, 1) := by decide +kernel
theorem dX11_image_2 : decode cX11_image 2 = .ok (.putfield 59, 3) := by decide +kernel
theorem dX11_image_5 : decode cX11_image 5 = .ok (.iload_n 1, 1) := by decide +kernel
theorem dX11_image_6 : decode cX11_image 6 = .ok (.i2l, 1) := by decide +kernel
theorem dX11_image_7 : decode cX11_image 7 = .ok (.lconst 0, 1) := by decide +kernel
theorem dX11_image_8 : decode cX11_image 8 = .ok (.ldc2_w 408, 3) := by decide +kernel
set_option maxRecDepth 20000 in
theorem ggX11_image_X11_in : GoodIn wsX11_image wsX11_in := goodIn_r _ [7] (by rfl) (by decide +kernel)
set_option maxRecDepth 20000 in
theorem gX11_image_X11_in : GoodIn wsX11_image (va_wsS RX11 64 yX11_in wsX11_in) := goodIn_app (goodIn_r _ [4, 5, 6] (by rfl) (by decide +kernel)) ggX11_image_X11_in
theorem dX11_image_11 : decode cX11_image 11 = .ok (.invokestatic 64, 3) := by decide +kernel
theorem dX11_image_14 : decode cX11_image 14 = .ok (.ifCond .ne 6, 3) := by decide +kernel
theorem dX11_image_20 : decode cX11_image 20 = .ok (.aload_n 0, 1) := by decide +kernel
theorem dX11_image_21 : decode cX11_image 21 = .ok (.iconst 0, 1) := by decide +kernel
theorem dX11_image_22 : decode cX11_image 22 = .ok (.iconst 1, 1) := by decide +kernel
theorem dX11_image_23 : decode cX11_image 23 = .ok (.iload_n 1, 1) := by decide +kernel
theorem dX11_image_24 : decode cX11_image 24 = .ok (.iadd, 1) := by decide +kernel
set_option maxRecDepth 20000 in
theorem ggX11_image_X11_copyCity : GoodIn wsX11_image wsX11_copyCity := goodIn_r _ [11, 12, 13, 14, 15, 16, 17, 6, 18, 19, 20, 21, 22, 23, 24, 25, 26, 27, 28, 29, 30, 31, 32, 33, 34, 35, 36, 37, 38, 39, 40, 41, 42, 43, 44, 45, 46, 47, 48, 49] (by rfl) (by decide +kernel)
set_option maxRecDepth 20000 in
theorem gX11_image_X11_copyCity : GoodIn wsX11_image (wsV RX11 199 RX11 yX11_copyCity wsX11_copyCity) := goodIn_app (goodIn_r _ [8, 9, 10, 6] (by rfl) (by decide +kernel)) ggX11_image_X11_copyCity
theorem dX11_image_25 : decode cX11_image 25 = .ok (.invokevirtual 199, 3) := by decide +kernel
theorem dX11_image_28 : decode cX11_image 28 = .ok (.aload_n 0, 1) := by decide +kernel
theorem dX11_image_29 : decode cX11_image 29 = .ok (.getfield 43, 3) := by decide +kernel
theorem dX11_image_32 : decode cX11_image 32 = .ok (.iload_n 1, 1) := by decide +kernel
theorem dX11_image_33 : decode cX11_image 33 = .ok (.iconst 1, 1) := by decide +kernel
theorem dX11_image_34 : decode cX11_image 34 = .ok (.bastore, 1) := by decide +kernel
theorem dX11_image_35 : decode cX11_image 35 = .ok (.iconst 0, 1) := by decide +kernel
theorem dX11_image_36 : decode cX11_image 36 = .ok (.ireturn, 1) := by decide +kernel
theorem dX11_image_17 : decode cX11_image 17 = .ok (.bipush (-2), 2) := by decide +kernel
theorem dX11_image_19 : decode cX11_image 19 = .ok (.ireturn, 1) := by decide +kernel
theorem dX11_back_0 : decode cX11_back 0 = .ok (.aload_n 0, 1) := by decide +kernel
theorem dX11_back_1 : decode cX11_back 1 = .ok (.iconst 0, 1) := by decide +kernel
theorem dX11_back_2 : decode cX11_back 2 = .ok (.putfield 59, 3) := by decide +kernel
theorem dX11_back_5 : decode cX11_back 5 = .ok (.iload_n 1, 1) := by decide +kernel
theorem dX11_back_6 : decode cX11_back 6 = .ok (.i2l, 1) := by decide +kernel
theorem dX11_back_7 : decode cX11_back 7 = .ok (.lconst 0, 1) := by decide +kernel
theorem dX11_back_8 : decode cX11_back 8 = .ok (.ldc2_w 408, 3) := by decide +kernel
set_option maxRecDepth 20000 in
theorem ggX11_back_X11_in : GoodIn wsX11_back wsX11_in := goodIn_r _ [7] (by rfl) (by decide +kernel)
set_option maxRecDepth 20000 in
theorem gX11_back_X11_in : GoodIn wsX11_back (va_wsS RX11 64 yX11_in wsX11_in) := goodIn_app (goodIn_r _ [4, 5, 6] (by rfl) (by decide +kernel)) ggX11_back_X11_in
theorem dX11_back_11 : decode cX11_back 11 = .ok (.invokestatic 64, 3) := by decide +kernel
theorem dX11_back_14 : decode cX11_back 14 = .ok (.ifCond .ne 6, 3) := by decide +kernel
theorem dX11_back_20 : decode cX11_back 20 = .ok (.aload_n 0, 1) := by decide +kernel
theorem dX11_back_21 : decode cX11_back 21 = .ok (.getfield 43, 3) := by decide +kernel
theorem dX11_back_24 : decode cX11_back 24 = .ok (.iload_n 1, 1) := by decide +kernel
theorem dX11_back_25 : decode cX11_back 25 = .ok (.baload, 1) := by decide +kernel
theorem dX11_back_26 : decode cX11_back 26 = .ok (.ifCond .ne 6, 3) := by decide +kernel
theorem dX11_back_32 : decode cX11_back 32 = .ok (.aload_n 0, 1) := by decide +kernel
theorem dX11_back_33 : decode cX11_back 33 = .ok (.iconst 1, 1) := by decide +kernel
theorem dX11_back_34 : decode cX11_back 34 = .ok (.iload_n 1, 1) := by decide +kernel
theorem dX11_back_35 : decode cX11_back 35 = .ok (.iadd, 1) := by decide +kernel
theorem dX11_back_36 : decode cX11_back 36 = .ok (.iconst 0, 1) := by decide +kernel
set_option maxRecDepth 20000 in
theorem ggX11_back_X11_copyCity : GoodIn wsX11_back wsX11_copyCity := goodIn_r _ [11, 12, 13, 14, 15, 16, 17, 6, 18, 19, 20, 21, 22, 23, 24, 25, 26, 27, 28, 29, 30, 31, 32, 33, 34, 35, 36, 37, 38, 39, 40, 41, 42, 43, 44, 45, 46, 47, 48, 49] (by rfl) (by decide +kernel)
set_option maxRecDepth 20000 in
theorem gX11_back_X11_copyCity : GoodIn wsX11_back (wsV RX11 199 RX11 yX11_copyCity wsX11_copyCity) := goodIn_app (goodIn_r _ [8, 9, 10, 6] (by rfl) (by decide +kernel)) ggX11_back_X11_copyCity
theorem dX11_back_37 : decode cX11_back 37 = .ok (.invokevirtual 199, 3) := by decide +kernel
theorem dX11_back_40 : decode cX11_back 40 = .ok (.iconst 0, 1) := by decide +kernel
theorem dX11_back_41 : decode cX11_back 41 = .ok (.ireturn, 1) := by decide +kernel
theorem dX11_back_29 : decode cX11_back 29 = .ok (.bipush (-6), 2) := by decide +kernel
theorem dX11_back_31 : decode cX11_back 31 = .ok (.ireturn, 1) := by decide +kernel
theorem dX11_back_17 : decode cX11_back 17 = .ok (.bipush (-2), 2) := by decide +kernel
theorem dX11_back_19 : decode cX11_back 19 = .ok (.ireturn, 1) := by decide +kernel
theorem dX11_four_0 : decode cX11_four 0 = .ok (.bipush 24, 2) := by decide +kernel
theorem dX11_four_2 : decode cX11_four 2 = .ok (.istore_n 2, 1) := by decide +kernel
theorem dX11_four_3 : decode cX11_four 3 = .ok (.iload_n 2, 1) := by decide +kernel
theorem dX11_four_4 : decode cX11_four 4 = .ok (.ifCond .lt 32, 3) := by decide +kernel
theorem dX11_four_7 : decode cX11_four 7 = .ok (.aload_n 0, 1) := by decide +kernel
theorem dX11_four_8 : decode cX11_four 8 = .ok (.getfield 23, 3) := by decide +kernel
theorem dX11_four_11 : decode cX11_four 11 = .ok (.aload_n 0, 1) := by decide +kernel
theorem dX11_four_12 : decode cX11_four 12 = .ok (.getfield 76, 3) := by decide +kernel
theorem dX11_four_15 : decode cX11_four 15 = .ok (.iload_n 1, 1) := by decide +kernel
theorem dX11_four_16 : decode cX11_four 16 = .ok (.iload_n 2, 1) := by decide +kernel
theorem dX11_four_17 : decode cX11_four 17 = .ok (.ishr, 1) := by decide +kernel
theorem dX11_four_18 : decode cX11_four 18 = .ok (.i2b, 1) := by decide +kernel
theorem dX11_four_19 : decode cX11_four 19 = .ok (.bastore, 1) := by decide +kernel
theorem dX11_four_20 : decode cX11_four 20 = .ok (.aload_n 0, 1) := by decide +kernel
theorem dX11_four_21 : decode cX11_four 21 = .ok (.dup, 1) := by decide +kernel
theorem dX11_four_22 : decode cX11_four 22 = .ok (.getfield 76, 3) := by decide +kernel
theorem dX11_four_25 : decode cX11_four 25 = .ok (.iconst 1, 1) := by decide +kernel
theorem dX11_four_26 : decode cX11_four 26 = .ok (.iadd, 1) := by decide +kernel
theorem dX11_four_27 : decode cX11_four 27 = .ok (.putfield 76, 3) := by decide +kernel
theorem dX11_four_30 : decode cX11_four 30 = .ok (.iinc 2 (-8), 3) := by decide +kernel
theorem dX11_four_33 : decode cX11_four 33 = .ok (.goto (-30), 3) := by decide +kernel
theorem dX11_four_36 : decode cX11_four 36 = .ok (.return_, 1) := by decide +kernel
set_option maxHeartbeats 4000000 in
set_option maxRecDepth 100000 in
theorem a_X11_count (l : Launch) (G : va_G) (ct : Nat → ClassId) (a0 : Nat) (n0_0 : Int32) (a1 : Nat) (a2 : Nat) (a3 : Nat) (a4 : Nat) (a5 : Nat) (n0_6 : Int32) (n0_7 : Int32) (n0_8 : Int32) (n0_9 : Int32) (n0_10 : Int32) (l0_11 : Int64) (n0_12 : Int32) (n0_13 : Int32) (n0_14 : Int32) (n0_15 : Int32) (a6 : Nat) (a7 : Nat) (a8 : Nat) (a9 : Nat) (a10 : Nat) (a11 : Nat) (a12 : Nat) (a13 : Nat) (n0_24 : Int32) (n0_25 : Int32) (n0_26 : Int32) (n0_27 : Int32) (a14 : Nat) (n0_29 : Int32) (n0_30 : Int32) (f1 : Nat → Int32) (f6 : Nat → Int32) (f7 : Nat → Int32) (f8 : Nat → Int32) (f9 : Nat → Int32) (f11 : Nat → Int32) (f12 : Nat → Int32) (f13 : Nat → Int32) (p0 : Int32) (hp_n0_6 : rg 0 900 n0_6) (hp_f7 : hsI f7) (hp_f8 : psI f8) (hp_f9 : ar 0 7 f9) (hp_f11 : ar (-1) 7 f11) (hp_f13 : ar (-1) 7 f13) : Met l yX11_count wsX11_count ({ frames := 5, cells := 0, slots := 0, locals := 111 }) (va_Pc [.ref a0, .int p0] (wrP G ct [(a0, .inr (11, [.int n0_0, .ref a1, .ref a2, .ref a3, .ref a4, .ref a5, .int n0_6, .int n0_7, .int n0_8, .int n0_9, .int n0_10, .long l0_11, .int n0_12, .int n0_13, .int n0_14, .int n0_15, .ref a6, .ref a7, .ref a8, .ref a9, .ref a10, .ref a11, .ref a12, .ref a13, .int n0_24, .int n0_25, .int n0_26, .int n0_27, .ref a14, .int n0_29, .int n0_30])), (a1, .inl (ct 0, 4, .inl f1)), (a6, .inl (ct 0, 5, .inl f6)), (a7, .inl (ct 0, 15, .inl f7)), (a8, .inl (ct 0, 200, .inl f8)), (a9, .inl (ct 0, 1000, .inl f9)), (a11, .inl (ct 0, 8, .inl f11)), (a12, .inl (ct 0, 8, .inl f12)), (a13, .inl (ct 0, 8, .inl f13))])) (va_Qi (fun (r : Int32) (u : SU) => (r = 0 → rg 0 7 p0) ∧ (¬ r = (-1) → rg 0 7 p0) ∧ ar (-1) 7 (u.2.1 0) ∧ ar (-1) 7 (u.2.1 2) ∧ rg 0 0 (u.1 0) ∧ True) (fun u t => va_P G vwCl ((fun u : SU => [(a0, .inr (11, [.int (u.1 0), .ref a1, .ref a2, .ref a3, .ref a4, .ref a5, .int n0_6, .int n0_7, .int n0_8, .int n0_9, .int n0_10, .long l0_11, .int n0_12, .int n0_13, .int n0_14, .int n0_15, .ref a6, .ref a7, .ref a8, .ref a9, .ref a10, .ref a11, .ref a12, .ref a13, .int (u.1 1), .int (u.1 2), .int (u.1 3), .int (u.1 4), .ref a14, .int n0_29, .int n0_30])), (a1, .inl (ct 0, 4, .inl f1)), (a6, .inl (ct 0, 5, .inl f6)), (a7, .inl (ct 0, 15, .inl f7)), (a8, .inl (ct 0, 200, .inl f8)), (a9, .inl (ct 0, 1000, .inl f9)), (a11, .inl (ct 0, 8, .inl (u.2.1 0))), (a12, .inl (ct 0, 8, .inl (u.2.1 1))), (a13, .inl (ct 0, 8, .inl (u.2.1 2)))]) u) t.heap) (aset [(a0, .inr (11, [.int n0_0, .ref a1, .ref a2, .ref a3, .ref a4, .ref a5, .int n0_6, .int n0_7, .int n0_8, .int n0_9, .int n0_10, .long l0_11, .int n0_12, .int n0_13, .int n0_14, .int n0_15, .ref a6, .ref a7, .ref a8, .ref a9, .ref a10, .ref a11, .ref a12, .ref a13, .int n0_24, .int n0_25, .int n0_26, .int n0_27, .ref a14, .int n0_29, .int n0_30])), (a1, .inl (ct 0, 4, .inl f1)), (a6, .inl (ct 0, 5, .inl f6)), (a7, .inl (ct 0, 15, .inl f7)), (a8, .inl (ct 0, 200, .inl f8)), (a9, .inl (ct 0, 1000, .inl f9)), (a11, .inl (ct 0, 8, .inl f11)), (a12, .inl (ct 0, 8, .inl f12)), (a13, .inl (ct 0, 8, .inl f13))])) 0 0 (aset [(a0, .inr (11, [.int n0_0, .ref a1, .ref a2, .ref a3, .ref a4, .ref a5, .int n0_6, .int n0_7, .int n0_8, .int n0_9, .int n0_10, .long l0_11, .int n0_12, .int n0_13, .int n0_14, .int n0_15, .ref a6, .ref a7, .ref a8, .ref a9, .ref a10, .ref a11, .ref a12, .ref a13, .int n0_24, .int n0_25, .int n0_26, .int n0_27, .ref a14, .int n0_29, .int n0_30])), (a1, .inl (ct 0, 4, .inl f1)), (a6, .inl (ct 0, 5, .inl f6)), (a7, .inl (ct 0, 15, .inl f7)), (a8, .inl (ct 0, 200, .inl f8)), (a9, .inl (ct 0, 1000, .inl f9)), (a11, .inl (ct 0, 8, .inl f11)), (a12, .inl (ct 0, 8, .inl f12)), (a13, .inl (ct 0, 8, .inl f13))]) := by
  refine Met.ofW (cc := cX11_count) (maxL := 4) (ret := (some .int)) (by decide) rfl ?_
  intro p e s m args below meth c s₁ B hml hv
  obtain ⟨rfl, hP, hK, hD0⟩ := hv
  have hx := B.exec
  have hb := B.bytes
  have hr := B.returns
  have hts := atoms_spec (ws := wsX11_count) B.pre
  have hown : s.vm.findClass RX11 = some m.cls := findClass_of_methodNamed B.named
  have hlocks := B.notSynchronized
  have hD := hD0.aself
  generalize hAe : aset [(a0, .inr (11, [.int n0_0, .ref a1, .ref a2, .ref a3, .ref a4, .ref a5, .int n0_6, .int n0_7, .int n0_8, .int n0_9, .int n0_10, .long l0_11, .int n0_12, .int n0_13, .int n0_14, .int n0_15, .ref a6, .ref a7, .ref a8, .ref a9, .ref a10, .ref a11, .ref a12, .ref a13, .int n0_24, .int n0_25, .int n0_26, .int n0_27, .ref a14, .int n0_29, .int n0_30])), (a1, .inl (ct 0, 4, .inl f1)), (a6, .inl (ct 0, 5, .inl f6)), (a7, .inl (ct 0, 15, .inl f7)), (a8, .inl (ct 0, 200, .inl f8)), (a9, .inl (ct 0, 1000, .inl f9)), (a11, .inl (ct 0, 8, .inl f11)), (a12, .inl (ct 0, 8, .inl f12)), (a13, .inl (ct 0, 8, .inl f13))] = A at hD ⊢
  have hS : va_S A s.heap s.heap [] := va_S.rf
  have hl := lv_entry ([.ref a0, .int p0]) (n := 4) (Nat.le_of_ble_eq_true rfl)
  rw [lg_entry_eq]
  generalize (lg_sl ([.ref a0, .int p0]) ++ List.replicate (4 - (lg_sl ([.ref a0, .int p0])).length) Slot.unset).toArray = ls at hl ⊢
  have hl : lv_has ls 4 [(0, .ref a0), (1, .int p0)] := hl
  refine lv_aload_n hx hb dX11_count_0 rfl (lv_at hl 0 rfl) ?_
  refine lv_iconst (v := 0) hx hb dX11_count_1 (by decide) ?_
  refine va_put (D := G) (ci := 11) (v := .int 0) (ty := .int) (C := RX11) (T := TX11) (N := 31) hx hb hts (by decide +kernel) tyX11 tyX11_ok nmX11 hown hK.1 hP hD hS 0 rfl rfl 0 (by decide) (hts (.fieldLink RX11 59 "CardHolderModel" "thrown" "I") (by decide +kernel)) (fun _ h9 => h9) rfl (by decide +kernel) rfl rfl (Nat.le_of_ble_eq_true rfl) dX11_count_2 (fun H locs hP hD hS => ?_)
  refine lv_iconst (v := 0) hx hb dX11_count_5 (by decide) ?_
  refine lv_istore_n (lv' := [(2, .int 0), (0, .ref a0), (1, .int p0)]) hx hb dX11_count_6 rfl hl (by decide) rfl (fun ls hl => ?_)
  refine lv_iload_n hx hb dX11_count_7 rfl (lv_at hl 2 rfl) ?_
  by_cases c8 : p0 = 0 ∨ p0 = 1 ∨ p0 = 2 ∨ p0 = 3 ∨ p0 = 4 ∨ p0 = 5 ∨ p0 = 6 ∨ p0 = 7
  · rcases c8 with c8 | c8 | c8 | c8 | c8 | c8 | c8 | c8
    · refine lv_tableIn (tgt := 56) hx hb dX11_count_8 (by rw [c8]; decide) (by rw [c8]; decide) (by rw [c8]; rfl) (by decide) ?_
      have h_1 : rg 0 0 p0 := r_eq_l_i (e := 0) (f := 0) c8 (rg_t p0) (rgn 0 (x := 0) (by decide)) (by decide)
      refine lv_aload_n hx hb dX11_count_56 rfl (lv_at hl 1 rfl) ?_
      refine va_get (D := G) (ci := 11) (v := .ref a7) (C := RX11) (T := TX11) (N := 31) hx hb hts (by decide +kernel) hown hK.1 hP 0 rfl rfl 17 (by decide) (hts (.fieldLink RX11 34 "CardHolderModel" "has" "[I") (by decide +kernel)) (fun _ h9 => h9) rfl dX11_count_57 ?_
      refine lv_iconst (v := 1) hx hb dX11_count_60 (by decide) ?_
      refine va_iald hx hb hK.1 hP 3 0 rfl rfl (in_lit (by decide)) dX11_count_61 ?_
      refine lv_topi (fun z61 gz61 => ?_)
      have hz61 : rg 0 8 z61 := by rw [gz61]; exact (hp_f7.1 0)
      exact W.iret (v := z61) hx hb hr (fun t ht hW => ⟨⟨z61, (fun k => ([0, n0_24, n0_25, n0_26, n0_27] : List Int32).getD k 0, fun k => ([f11, f12, f13] : List (Nat → Int32)).getD k (fun _ => 0), fun k => ([] : List (Nat → Int64)).getD k (fun _ => 0)), rfl, ⟨(fun _ => (rg_w (c := 0) (d := 7) h_1 (by decide))), (fun _ => (rg_w (c := 0) (d := 7) h_1 (by decide))), hp_f11, hp_f13, (rgn 0 (x := 0) (by decide)), trivial⟩, hp_at ht hP⟩, hS.F ht⟩) hS.2.2 dX11_count_62
    · refine lv_tableIn (tgt := 63) hx hb dX11_count_8 (by rw [c8]; decide) (by rw [c8]; decide) (by rw [c8]; rfl) (by decide) ?_
      have h_2 : rg 1 1 p0 := r_eq_l_i (e := 1) (f := 1) c8 (rg_t p0) (rgn 1 (x := 1) (by decide)) (by decide)
      refine lv_aload_n hx hb dX11_count_63 rfl (lv_at hl 1 rfl) ?_
      refine va_get (D := G) (ci := 11) (v := .ref a7) (C := RX11) (T := TX11) (N := 31) hx hb hts (by decide +kernel) hown hK.1 hP 0 rfl rfl 17 (by decide) (hts (.fieldLink RX11 34 "CardHolderModel" "has" "[I") (by decide +kernel)) (fun _ h9 => h9) rfl dX11_count_64 ?_
      refine lv_iconst (v := 0) hx hb dX11_count_67 (by decide) ?_
      refine va_iald hx hb hK.1 hP 3 0 rfl rfl (in_lit (by decide)) dX11_count_68 ?_
      refine lv_topi (fun z68 gz68 => ?_)
      exact W.iret (v := z68) hx hb hr (fun t ht hW => ⟨⟨z68, (fun k => ([0, n0_24, n0_25, n0_26, n0_27] : List Int32).getD k 0, fun k => ([f11, f12, f13] : List (Nat → Int32)).getD k (fun _ => 0), fun k => ([] : List (Nat → Int64)).getD k (fun _ => 0)), rfl, ⟨(fun _ => (rg_w (c := 0) (d := 7) h_2 (by decide))), (fun _ => (rg_w (c := 0) (d := 7) h_2 (by decide))), hp_f11, hp_f13, (rgn 0 (x := 0) (by decide)), trivial⟩, hp_at ht hP⟩, hS.F ht⟩) hS.2.2 dX11_count_69
    · refine lv_tableIn (tgt := 70) hx hb dX11_count_8 (by rw [c8]; decide) (by rw [c8]; decide) (by rw [c8]; rfl) (by decide) ?_
      have h_3 : rg 2 2 p0 := r_eq_l_i (e := 2) (f := 2) c8 (rg_t p0) (rgn 2 (x := 2) (by decide)) (by decide)
      refine lv_aload_n hx hb dX11_count_70 rfl (lv_at hl 1 rfl) ?_
      refine wj_callv (wr := [(a1, .inl (ct 0, 4, .inl f1)), (a6, .inl (ct 0, 5, .inl f6))]) (w1 := (fun u : SU => [(a0, .inr (11, [.int 0, .ref a1, .ref a2, .ref a3, .ref a4, .ref a5, .int n0_6, .int n0_7, .int n0_8, .int n0_9, .int n0_10, .long l0_11, .int n0_12, .int n0_13, .int n0_14, .int n0_15, .ref a6, .ref a7, .ref a8, .ref a9, .ref a10, .ref a11, .ref a12, .ref a13, .int (u.1 0), .int (u.1 1), .int (u.1 2), .int (u.1 3), .ref a14, .int n0_29, .int n0_30])), (a7, .inl (ct 0, 15, .inl f7)), (a8, .inl (ct 0, 200, .inl f8)), (a9, .inl (ct 0, 1000, .inl f9)), (a11, .inl (ct 0, 8, .inl (u.2.1 0))), (a12, .inl (ct 0, 8, .inl (u.2.1 1))), (a13, .inl (ct 0, 8, .inl (u.2.1 2)))])) (va_runV (As := []) (rest := []) ⟨hx, hb, hml, hown, hts⟩ (a_X11_laysNow l G ct a0 (0 : Int32) a1 a2 a3 a4 a5 n0_6 n0_7 n0_8 n0_9 n0_10 l0_11 n0_12 n0_13 n0_14 n0_15 a6 a7 a8 a9 a10 a11 a12 a13 n0_24 n0_25 n0_26 n0_27 a14 n0_29 n0_30 f7 f8 f9 f11 f12 f13 hp_n0_6 hp_f7 hp_f8 hp_f9 hp_f11 hp_f13) (cwV 0 hts gX11_count_X11_laysNow rfl rfl rfl (by decide +kernel) ⟨Nat.le_of_ble_eq_true rfl, Nat.le_of_ble_eq_true rfl⟩) (wr_preV 11 0 hK (hP.sub [0, 3, 4, 5, 6, 7, 8] rfl) (hD.sub [0, 3, 4, 5, 6, 7, 8] (by decide) rfl) rfl rfl) rfl rfl hl.1 rfl (lv_room (Nat.le_of_ble_eq_true rfl)) dX11_count_71 ⟨Nat.zero_le _, Nat.zero_le _⟩) hS hP hD [0, 3, 4, 5, 6, 7, 8] [1, 2] rfl rfl (by decide) (fun _ => rfl) (fun ur71 H locs wr71 hP hD hS => ?_)
      have hP : va_P G vwCl [(a0, .inr (11, [.int 0, .ref a1, .ref a2, .ref a3, .ref a4, .ref a5, .int n0_6, .int n0_7, .int n0_8, .int n0_9, .int n0_10, .long l0_11, .int n0_12, .int n0_13, .int n0_14, .int n0_15, .ref a6, .ref a7, .ref a8, .ref a9, .ref a10, .ref a11, .ref a12, .ref a13, .int (ur71.1 0), .int (ur71.1 1), .int (ur71.1 2), .int (ur71.1 3), .ref a14, .int n0_29, .int n0_30])), (a1, .inl (ct 0, 4, .inl f1)), (a6, .inl (ct 0, 5, .inl f6)), (a7, .inl (ct 0, 15, .inl f7)), (a8, .inl (ct 0, 200, .inl f8)), (a9, .inl (ct 0, 1000, .inl f9)), (a11, .inl (ct 0, 8, .inl (ur71.2.1 0))), (a12, .inl (ct 0, 8, .inl (ur71.2.1 1))), (a13, .inl (ct 0, 8, .inl (ur71.2.1 2)))] H := hP.sub [2, 0, 1, 3, 4, 5, 6, 7, 8] rfl
      have hD : va_D A [(a0, .inr (11, [.int 0, .ref a1, .ref a2, .ref a3, .ref a4, .ref a5, .int n0_6, .int n0_7, .int n0_8, .int n0_9, .int n0_10, .long l0_11, .int n0_12, .int n0_13, .int n0_14, .int n0_15, .ref a6, .ref a7, .ref a8, .ref a9, .ref a10, .ref a11, .ref a12, .ref a13, .int (ur71.1 0), .int (ur71.1 1), .int (ur71.1 2), .int (ur71.1 3), .ref a14, .int n0_29, .int n0_30])), (a1, .inl (ct 0, 4, .inl f1)), (a6, .inl (ct 0, 5, .inl f6)), (a7, .inl (ct 0, 15, .inl f7)), (a8, .inl (ct 0, 200, .inl f8)), (a9, .inl (ct 0, 1000, .inl f9)), (a11, .inl (ct 0, 8, .inl (ur71.2.1 0))), (a12, .inl (ct 0, 8, .inl (ur71.2.1 1))), (a13, .inl (ct 0, 8, .inl (ur71.2.1 2)))] := hD.sub [2, 0, 1, 3, 4, 5, 6, 7, 8] (by decide) rfl
      obtain ⟨p_4, p_5, -⟩ := wr71
      refine lv_aload_n hx hb dX11_count_74 rfl (lv_at hl 1 rfl) ?_
      refine va_get (D := G) (ci := 11) (v := .ref a7) (C := RX11) (T := TX11) (N := 31) hx hb hts (by decide +kernel) hown hK.1 hP 0 rfl rfl 17 (by decide) (hts (.fieldLink RX11 34 "CardHolderModel" "has" "[I") (by decide +kernel)) (fun _ h9 => h9) rfl dX11_count_75 ?_
      refine lv_iconst (v := 1) hx hb dX11_count_78 (by decide) ?_
      refine va_iald hx hb hK.1 hP 3 0 rfl rfl (in_lit (by decide)) dX11_count_79 ?_
      refine lv_topi (fun z79 gz79 => ?_)
      have hz79 : rg 0 8 z79 := by rw [gz79]; exact (hp_f7.1 0)
      refine lv_aload_n hx hb dX11_count_80 rfl (lv_at hl 1 rfl) ?_
      refine ro_calli (va_runV (As := []) (rest := [.int z79]) ⟨hx, hb, hml, hown, hts⟩ (a_X11_freeNow l G ct a0 (0 : Int32) a1 a2 a3 a4 a5 n0_6 n0_7 n0_8 n0_9 n0_10 l0_11 n0_12 n0_13 n0_14 n0_15 a6 a7 a8 a9 a10 a11 a12 a13 (ur71.1 0) (ur71.1 1) (ur71.1 2) (ur71.1 3) a14 n0_29 n0_30 f7 (ur71.2.1 0) hp_n0_6 hp_f7 p_4) (cwV 0 hts gX11_count_X11_freeNow rfl rfl rfl (by decide +kernel) ⟨Nat.le_of_ble_eq_true rfl, Nat.le_of_ble_eq_true rfl⟩) (ro_preV 11 0 hK (hP.sub [0, 3, 6] rfl) rfl rfl) rfl rfl hl.1 rfl (lv_room (Nat.le_of_ble_eq_true rfl)) dX11_count_81 ⟨Nat.zero_le _, Nat.zero_le _⟩) hS hP (fun r81 H locs wr81 hP hS => ?_)
      obtain ⟨p_6, -⟩ := wr81
      refine ro_calli (va_runS (As := [.int r81]) (rest := [.int z79]) ⟨hx, hb, hml, hown, hts⟩ (a_X11_sizeOf l G ct r81) (va_cwS 1 hts gX11_count_X11_sizeOf rfl rfl rfl (by decide +kernel) ⟨Nat.le_of_ble_eq_true rfl, Nat.le_of_ble_eq_true rfl⟩) (ro_pre hK (hP.sub [] rfl)) rfl rfl hl.1 rfl (lv_room (Nat.le_of_ble_eq_true rfl)) dX11_count_84 ⟨Nat.zero_le _, Nat.zero_le _⟩) hS hP (fun r84 H locs wr84 hP hS => ?_)
      refine lv_isub hx hb dX11_count_87 ?_
      refine nm_0 (fun z87 => ?_)
      exact W.iret (v := z87) hx hb hr (fun t ht hW => ⟨⟨z87, (fun k => ([0, ur71.1 0, ur71.1 1, ur71.1 2, ur71.1 3] : List Int32).getD k 0, fun k => ([ur71.2.1 0, ur71.2.1 1, ur71.2.1 2] : List (Nat → Int32)).getD k (fun _ => 0), fun k => ([] : List (Nat → Int64)).getD k (fun _ => 0)), rfl, ⟨(fun _ => (rg_w (c := 0) (d := 7) h_3 (by decide))), (fun _ => (rg_w (c := 0) (d := 7) h_3 (by decide))), p_4, p_5, (rgn 0 (x := 0) (by decide)), trivial⟩, hp_at ht hP⟩, hS.F ht⟩) hS.2.2 dX11_count_88
    · refine lv_tableIn (tgt := 89) hx hb dX11_count_8 (by rw [c8]; decide) (by rw [c8]; decide) (by rw [c8]; rfl) (by decide) ?_
      have h_7 : rg 3 3 p0 := r_eq_l_i (e := 3) (f := 3) c8 (rg_t p0) (rgn 3 (x := 3) (by decide)) (by decide)
      refine lv_iconst (v := 0) hx hb dX11_count_89 (by decide) ?_
      refine lv_istore_n (lv' := [(3, .int 0), (2, .int 0), (0, .ref a0), (1, .int p0)]) hx hb dX11_count_90 rfl hl (by decide) rfl (fun ls hl => ?_)
      have j91 : ∀ (n : Nat) (x91_2 : Int32) (x91_3 : Int32) (H : Heap) (locs : List Loc) (ls : Array Slot), 2147483648 ≤ x91_3.toInt + (n : Int) → rg 0 8 x91_3 → va_P G vwCl [(a0, .inr (11, [.int 0, .ref a1, .ref a2, .ref a3, .ref a4, .ref a5, .int n0_6, .int n0_7, .int n0_8, .int n0_9, .int n0_10, .long l0_11, .int n0_12, .int n0_13, .int n0_14, .int n0_15, .ref a6, .ref a7, .ref a8, .ref a9, .ref a10, .ref a11, .ref a12, .ref a13, .int n0_24, .int n0_25, .int n0_26, .int n0_27, .ref a14, .int n0_29, .int n0_30])), (a1, .inl (ct 0, 4, .inl f1)), (a6, .inl (ct 0, 5, .inl f6)), (a7, .inl (ct 0, 15, .inl f7)), (a8, .inl (ct 0, 200, .inl f8)), (a9, .inl (ct 0, 1000, .inl f9)), (a11, .inl (ct 0, 8, .inl f11)), (a12, .inl (ct 0, 8, .inl f12)), (a13, .inl (ct 0, 8, .inl f13))] H → va_D A [(a0, .inr (11, [.int 0, .ref a1, .ref a2, .ref a3, .ref a4, .ref a5, .int n0_6, .int n0_7, .int n0_8, .int n0_9, .int n0_10, .long l0_11, .int n0_12, .int n0_13, .int n0_14, .int n0_15, .ref a6, .ref a7, .ref a8, .ref a9, .ref a10, .ref a11, .ref a12, .ref a13, .int n0_24, .int n0_25, .int n0_26, .int n0_27, .ref a14, .int n0_29, .int n0_30])), (a1, .inl (ct 0, 4, .inl f1)), (a6, .inl (ct 0, 5, .inl f6)), (a7, .inl (ct 0, 15, .inl f7)), (a8, .inl (ct 0, 200, .inl f8)), (a9, .inl (ct 0, 1000, .inl f9)), (a11, .inl (ct 0, 8, .inl f11)), (a12, .inl (ct 0, 8, .inl f12)), (a13, .inl (ct 0, 8, .inl f13))] → va_S A s.heap H locs → lv_has ls 4 [(0, .ref a0), (1, .int p0), (2, .int x91_2), (3, .int x91_3)] → W p l e (headSpec wsX11_count ({ frames := 5, cells := 0, slots := 0, locals := 111 })).room s m ([.ref a0, .int p0] : List Value).toArray below meth c H locs 0 0 (MQ below (va_Qi (fun (r : Int32) (u : SU) => (r = 0 → rg 0 7 p0) ∧ (¬ r = (-1) → rg 0 7 p0) ∧ ar (-1) 7 (u.2.1 0) ∧ ar (-1) 7 (u.2.1 2) ∧ rg 0 0 (u.1 0) ∧ True) (fun u t => va_P G vwCl ((fun u : SU => [(a0, .inr (11, [.int (u.1 0), .ref a1, .ref a2, .ref a3, .ref a4, .ref a5, .int n0_6, .int n0_7, .int n0_8, .int n0_9, .int n0_10, .long l0_11, .int n0_12, .int n0_13, .int n0_14, .int n0_15, .ref a6, .ref a7, .ref a8, .ref a9, .ref a10, .ref a11, .ref a12, .ref a13, .int (u.1 1), .int (u.1 2), .int (u.1 3), .int (u.1 4), .ref a14, .int n0_29, .int n0_30])), (a1, .inl (ct 0, 4, .inl f1)), (a6, .inl (ct 0, 5, .inl f6)), (a7, .inl (ct 0, 15, .inl f7)), (a8, .inl (ct 0, 200, .inl f8)), (a9, .inl (ct 0, 1000, .inl f9)), (a11, .inl (ct 0, 8, .inl (u.2.1 0))), (a12, .inl (ct 0, 8, .inl (u.2.1 1))), (a13, .inl (ct 0, 8, .inl (u.2.1 2)))]) u) t.heap) A) ([.ref a0, .int p0] : List Value).toArray s 0 0 A) (F0 m 91 ls []) := by
        intro n
        induction n with
        | zero => intro x91_2 x91_3 H locs ls hn91 hx91_3 hP hD hS hl; exact absurd hn91 (by have := Int32.toInt_lt x91_3; have := Int32.le_toInt x91_3; omega)
        | succ n ih91 =>
          intro x91_2 x91_3 H locs ls hn91 hx91_3 hP hD hS hl
          refine lv_iload_n hx hb dX11_count_91 rfl (lv_at hl 3 rfl) ?_
          refine lv_aload_n hx hb dX11_count_92 rfl (lv_at hl 0 rfl) ?_
          refine va_get (D := G) (ci := 11) (v := .ref a7) (C := RX11) (T := TX11) (N := 31) hx hb hts (by decide +kernel) hown hK.1 hP 0 rfl rfl 17 (by decide) (hts (.fieldLink RX11 34 "CardHolderModel" "has" "[I") (by decide +kernel)) (fun _ h9 => h9) rfl dX11_count_93 ?_
          refine lv_iconst (v := 1) hx hb dX11_count_96 (by decide) ?_
          refine va_iald hx hb hK.1 hP 3 0 rfl rfl (in_lit (by decide)) dX11_count_97 ?_
          refine lv_topi (fun z97 gz97 => ?_)
          have hz97 : rg 0 8 z97 := by rw [gz97]; exact (hp_f7.1 0)
          refine lv_icmp_ge (tgt := 116) hx hb dX11_count_98 (by decide) (fun c98 => ?_) (fun c98 => ?_)
          · refine lv_iload_n hx hb dX11_count_116 rfl (lv_at hl 2 rfl) ?_
            exact W.iret (v := x91_2) hx hb hr (fun t ht hW => ⟨⟨x91_2, (fun k => ([0, n0_24, n0_25, n0_26, n0_27] : List Int32).getD k 0, fun k => ([f11, f12, f13] : List (Nat → Int32)).getD k (fun _ => 0), fun k => ([] : List (Nat → Int64)).getD k (fun _ => 0)), rfl, ⟨(fun _ => (rg_w (c := 0) (d := 7) h_7 (by decide))), (fun _ => (rg_w (c := 0) (d := 7) h_7 (by decide))), hp_f11, hp_f13, (rgn 0 (x := 0) (by decide)), trivial⟩, hp_at ht hP⟩, hS.F ht⟩) hS.2.2 dX11_count_117
          · have h_8 : rg 0 7 x91_3 := r_lt_l_i (nle_i c98) hx91_3 hz97 (by decide)
            have h_9 : rg 1 8 z97 := r_lt_r_i (nle_i c98) hx91_3 hz97 (by decide)
            refine lv_iload_n hx hb dX11_count_101 rfl (lv_at hl 2 rfl) ?_
            refine lv_aload_n hx hb dX11_count_102 rfl (lv_at hl 0 rfl) ?_
            refine lv_iload_n hx hb dX11_count_103 rfl (lv_at hl 3 rfl) ?_
            refine lv_iconst (v := 4) hx hb dX11_count_104 (by decide) ?_
            refine ro_calli (va_runV (As := [.int x91_3, .int 4]) (rest := [.int x91_2]) ⟨hx, hb, hml, hown, hts⟩ (a_X11_of4 l G ct a0 (0 : Int32) a1 a2 a3 a4 a5 n0_6 n0_7 n0_8 n0_9 n0_10 l0_11 n0_12 n0_13 n0_14 n0_15 a6 a7 a8 a9 a10 a11 a12 a13 n0_24 n0_25 n0_26 n0_27 a14 n0_29 n0_30 f8 x91_3 hp_n0_6 hp_f8 h_8) (cwV 2 hts gX11_count_X11_of rfl rfl rfl (by decide +kernel) ⟨Nat.le_of_ble_eq_true rfl, Nat.le_of_ble_eq_true rfl⟩) (ro_preV 11 0 hK (hP.sub [0, 4] rfl) rfl rfl) rfl rfl hl.1 rfl (lv_room (Nat.le_of_ble_eq_true rfl)) dX11_count_105 ⟨Nat.zero_le _, Nat.zero_le _⟩) hS hP (fun r105 H locs wr105 hP hS => ?_)
            refine lv_iadd hx hb dX11_count_108 ?_
            refine nm_0 (fun z108 => ?_)
            refine lv_istore_n (lv' := [(2, .int z108), (0, .ref a0), (1, .int p0), (3, .int x91_3)]) hx hb dX11_count_109 rfl hl (by decide) rfl (fun ls hl => ?_)
            obtain ⟨z110, qz110⟩ : ∃ y : Int32, y = x91_3 + Int32.ofInt 1 := ⟨_, rfl⟩
            obtain ⟨hz110, ez110⟩ := inc_z (e := 1) (f := 8) h_8 qz110 (by decide)
            refine lv_iinc (v := z110) (lv' := [(3, .int z110), (2, .int z108), (0, .ref a0), (1, .int p0)]) hx hb dX11_count_110 hl (k := 3) rfl (qz110.symm) (by decide) rfl (fun ls hl => ?_)
            refine lv_goto (tgt := 91) hx hb dX11_count_113 (by decide) ?_
            exact ih91 z108 z110 _ _ ls (by have q := hn91; have := ez110; omega) (rg_w (c := 0) (d := 8) hz110 (by decide)) hP hD hS (lv_sub hl [2, 3, 1, 0] rfl)
      exact j91 4294967296 (0 : Int32) (0 : Int32) _ _ ls (ms_e (0 : Int32)) (rg_w (c := 0) (d := 8) (rgn 0 (x := 0) (by decide)) (by decide)) hP hD hS (lv_sub hl [2, 3, 1, 0] rfl)
    · refine lv_tableIn (tgt := 118) hx hb dX11_count_8 (by rw [c8]; decide) (by rw [c8]; decide) (by rw [c8]; rfl) (by decide) ?_
      have h_10 : rg 4 4 p0 := r_eq_l_i (e := 4) (f := 4) c8 (rg_t p0) (rgn 4 (x := 4) (by decide)) (by decide)
      refine lv_aload_n hx hb dX11_count_118 rfl (lv_at hl 1 rfl) ?_
      refine va_get (D := G) (ci := 11) (v := .ref a7) (C := RX11) (T := TX11) (N := 31) hx hb hts (by decide +kernel) hown hK.1 hP 0 rfl rfl 17 (by decide) (hts (.fieldLink RX11 34 "CardHolderModel" "has" "[I") (by decide +kernel)) (fun _ h9 => h9) rfl dX11_count_119 ?_
      refine lv_iconst (v := 2) hx hb dX11_count_122 (by decide) ?_
      refine va_iald hx hb hK.1 hP 3 0 rfl rfl (in_lit (by decide)) dX11_count_123 ?_
      refine lv_topi (fun z123 gz123 => ?_)
      have hz123 : rg 0 40 z123 := by rw [gz123]; exact (hp_f7.2 0)
      exact W.iret (v := z123) hx hb hr (fun t ht hW => ⟨⟨z123, (fun k => ([0, n0_24, n0_25, n0_26, n0_27] : List Int32).getD k 0, fun k => ([f11, f12, f13] : List (Nat → Int32)).getD k (fun _ => 0), fun k => ([] : List (Nat → Int64)).getD k (fun _ => 0)), rfl, ⟨(fun _ => (rg_w (c := 0) (d := 7) h_10 (by decide))), (fun _ => (rg_w (c := 0) (d := 7) h_10 (by decide))), hp_f11, hp_f13, (rgn 0 (x := 0) (by decide)), trivial⟩, hp_at ht hP⟩, hS.F ht⟩) hS.2.2 dX11_count_124
    · refine lv_tableIn (tgt := 125) hx hb dX11_count_8 (by rw [c8]; decide) (by rw [c8]; decide) (by rw [c8]; rfl) (by decide) ?_
      have h_11 : rg 5 5 p0 := r_eq_l_i (e := 5) (f := 5) c8 (rg_t p0) (rgn 5 (x := 5) (by decide)) (by decide)
      refine lv_aload_n hx hb dX11_count_125 rfl (lv_at hl 1 rfl) ?_
      refine va_get (D := G) (ci := 11) (v := .ref a6) (C := RX11) (T := TX11) (N := 31) hx hb hts (by decide +kernel) hown hK.1 hP 0 rfl rfl 16 (by decide) (hts (.fieldLink RX11 31 "CardHolderModel" "lines" "[I") (by decide +kernel)) (fun _ h9 => h9) rfl dX11_count_126 ?_
      refine lv_iconst (v := 0) hx hb dX11_count_129 (by decide) ?_
      refine va_iald hx hb hK.1 hP 2 0 rfl rfl (in_lit (by decide)) dX11_count_130 ?_
      refine lv_topi (fun z130 gz130 => ?_)
      exact W.iret (v := z130) hx hb hr (fun t ht hW => ⟨⟨z130, (fun k => ([0, n0_24, n0_25, n0_26, n0_27] : List Int32).getD k 0, fun k => ([f11, f12, f13] : List (Nat → Int32)).getD k (fun _ => 0), fun k => ([] : List (Nat → Int64)).getD k (fun _ => 0)), rfl, ⟨(fun _ => (rg_w (c := 0) (d := 7) h_11 (by decide))), (fun _ => (rg_w (c := 0) (d := 7) h_11 (by decide))), hp_f11, hp_f13, (rgn 0 (x := 0) (by decide)), trivial⟩, hp_at ht hP⟩, hS.F ht⟩) hS.2.2 dX11_count_131
    · refine lv_tableIn (tgt := 132) hx hb dX11_count_8 (by rw [c8]; decide) (by rw [c8]; decide) (by rw [c8]; rfl) (by decide) ?_
      have h_12 : rg 6 6 p0 := r_eq_l_i (e := 6) (f := 6) c8 (rg_t p0) (rgn 6 (x := 6) (by decide)) (by decide)
      refine lv_aload_n hx hb dX11_count_132 rfl (lv_at hl 1 rfl) ?_
      refine va_get (D := G) (ci := 11) (v := .int n0_6) (C := RX11) (T := TX11) (N := 31) hx hb hts (by decide +kernel) hown hK.1 hP 0 rfl rfl 6 (by decide) (hts (.fieldLink RX11 76 "CardHolderModel" "taped" "I") (by decide +kernel)) (fun _ h9 => h9) rfl dX11_count_133 ?_
      exact W.iret (v := n0_6) hx hb hr (fun t ht hW => ⟨⟨n0_6, (fun k => ([0, n0_24, n0_25, n0_26, n0_27] : List Int32).getD k 0, fun k => ([f11, f12, f13] : List (Nat → Int32)).getD k (fun _ => 0), fun k => ([] : List (Nat → Int64)).getD k (fun _ => 0)), rfl, ⟨(fun _ => (rg_w (c := 0) (d := 7) h_12 (by decide))), (fun _ => (rg_w (c := 0) (d := 7) h_12 (by decide))), hp_f11, hp_f13, (rgn 0 (x := 0) (by decide)), trivial⟩, hp_at ht hP⟩, hS.F ht⟩) hS.2.2 dX11_count_136
    · refine lv_tableIn (tgt := 137) hx hb dX11_count_8 (by rw [c8]; decide) (by rw [c8]; decide) (by rw [c8]; rfl) (by decide) ?_
      have h_13 : rg 7 7 p0 := r_eq_l_i (e := 7) (f := 7) c8 (rg_t p0) (rgn 7 (x := 7) (by decide)) (by decide)
      refine lv_iconst (v := 0) hx hb dX11_count_137 (by decide) ?_
      refine lv_istore_n (lv' := [(3, .int 0), (2, .int 0), (0, .ref a0), (1, .int p0)]) hx hb dX11_count_138 rfl hl (by decide) rfl (fun ls hl => ?_)
      have j139 : ∀ (n : Nat) (x139_2 : Int32) (x139_3 : Int32) (H : Heap) (locs : List Loc) (ls : Array Slot), 2147483648 ≤ x139_3.toInt + (n : Int) → rg 0 4 x139_3 → va_P G vwCl [(a0, .inr (11, [.int 0, .ref a1, .ref a2, .ref a3, .ref a4, .ref a5, .int n0_6, .int n0_7, .int n0_8, .int n0_9, .int n0_10, .long l0_11, .int n0_12, .int n0_13, .int n0_14, .int n0_15, .ref a6, .ref a7, .ref a8, .ref a9, .ref a10, .ref a11, .ref a12, .ref a13, .int n0_24, .int n0_25, .int n0_26, .int n0_27, .ref a14, .int n0_29, .int n0_30])), (a1, .inl (ct 0, 4, .inl f1)), (a6, .inl (ct 0, 5, .inl f6)), (a7, .inl (ct 0, 15, .inl f7)), (a8, .inl (ct 0, 200, .inl f8)), (a9, .inl (ct 0, 1000, .inl f9)), (a11, .inl (ct 0, 8, .inl f11)), (a12, .inl (ct 0, 8, .inl f12)), (a13, .inl (ct 0, 8, .inl f13))] H → va_D A [(a0, .inr (11, [.int 0, .ref a1, .ref a2, .ref a3, .ref a4, .ref a5, .int n0_6, .int n0_7, .int n0_8, .int n0_9, .int n0_10, .long l0_11, .int n0_12, .int n0_13, .int n0_14, .int n0_15, .ref a6, .ref a7, .ref a8, .ref a9, .ref a10, .ref a11, .ref a12, .ref a13, .int n0_24, .int n0_25, .int n0_26, .int n0_27, .ref a14, .int n0_29, .int n0_30])), (a1, .inl (ct 0, 4, .inl f1)), (a6, .inl (ct 0, 5, .inl f6)), (a7, .inl (ct 0, 15, .inl f7)), (a8, .inl (ct 0, 200, .inl f8)), (a9, .inl (ct 0, 1000, .inl f9)), (a11, .inl (ct 0, 8, .inl f11)), (a12, .inl (ct 0, 8, .inl f12)), (a13, .inl (ct 0, 8, .inl f13))] → va_S A s.heap H locs → lv_has ls 4 [(0, .ref a0), (1, .int p0), (2, .int x139_2), (3, .int x139_3)] → W p l e (headSpec wsX11_count ({ frames := 5, cells := 0, slots := 0, locals := 111 })).room s m ([.ref a0, .int p0] : List Value).toArray below meth c H locs 0 0 (MQ below (va_Qi (fun (r : Int32) (u : SU) => (r = 0 → rg 0 7 p0) ∧ (¬ r = (-1) → rg 0 7 p0) ∧ ar (-1) 7 (u.2.1 0) ∧ ar (-1) 7 (u.2.1 2) ∧ rg 0 0 (u.1 0) ∧ True) (fun u t => va_P G vwCl ((fun u : SU => [(a0, .inr (11, [.int (u.1 0), .ref a1, .ref a2, .ref a3, .ref a4, .ref a5, .int n0_6, .int n0_7, .int n0_8, .int n0_9, .int n0_10, .long l0_11, .int n0_12, .int n0_13, .int n0_14, .int n0_15, .ref a6, .ref a7, .ref a8, .ref a9, .ref a10, .ref a11, .ref a12, .ref a13, .int (u.1 1), .int (u.1 2), .int (u.1 3), .int (u.1 4), .ref a14, .int n0_29, .int n0_30])), (a1, .inl (ct 0, 4, .inl f1)), (a6, .inl (ct 0, 5, .inl f6)), (a7, .inl (ct 0, 15, .inl f7)), (a8, .inl (ct 0, 200, .inl f8)), (a9, .inl (ct 0, 1000, .inl f9)), (a11, .inl (ct 0, 8, .inl (u.2.1 0))), (a12, .inl (ct 0, 8, .inl (u.2.1 1))), (a13, .inl (ct 0, 8, .inl (u.2.1 2)))]) u) t.heap) A) ([.ref a0, .int p0] : List Value).toArray s 0 0 A) (F0 m 139 ls []) := by
        intro n
        induction n with
        | zero => intro x139_2 x139_3 H locs ls hn139 hx139_3 hP hD hS hl; exact absurd hn139 (by have := Int32.toInt_lt x139_3; have := Int32.le_toInt x139_3; omega)
        | succ n ih139 =>
          intro x139_2 x139_3 H locs ls hn139 hx139_3 hP hD hS hl
          refine lv_iload_n hx hb dX11_count_139 rfl (lv_at hl 3 rfl) ?_
          refine lv_iconst (v := 4) hx hb dX11_count_140 (by decide) ?_
          refine lv_icmp_ge (tgt := 168) hx hb dX11_count_141 (by decide) (fun c141 => ?_) (fun c141 => ?_)
          · have h_14 : rg 4 4 x139_3 := r_le_r_i c141 (rgn 4 (x := 4) (by decide)) hx139_3
            refine lv_iload_n hx hb dX11_count_168 rfl (lv_at hl 2 rfl) ?_
            exact W.iret (v := x139_2) hx hb hr (fun t ht hW => ⟨⟨x139_2, (fun k => ([0, n0_24, n0_25, n0_26, n0_27] : List Int32).getD k 0, fun k => ([f11, f12, f13] : List (Nat → Int32)).getD k (fun _ => 0), fun k => ([] : List (Nat → Int64)).getD k (fun _ => 0)), rfl, ⟨(fun _ => (rg_w (c := 0) (d := 7) h_13 (by decide))), (fun _ => (rg_w (c := 0) (d := 7) h_13 (by decide))), hp_f11, hp_f13, (rgn 0 (x := 0) (by decide)), trivial⟩, hp_at ht hP⟩, hS.F ht⟩) hS.2.2 dX11_count_169
          · have h_15 : rg 0 3 x139_3 := r_lt_l_i (nle_i c141) hx139_3 (rgn 4 (x := 4) (by decide)) (by decide)
            refine lv_iload_n hx hb dX11_count_144 rfl (lv_at hl 2 rfl) ?_
            refine lv_aload_n hx hb dX11_count_145 rfl (lv_at hl 0 rfl) ?_
            refine va_get (D := G) (ci := 11) (v := .ref a1) (C := RX11) (T := TX11) (N := 31) hx hb hts (by decide +kernel) hown hK.1 hP 0 rfl rfl 1 (by decide) (hts (.fieldLink RX11 7 "CardHolderModel" "width" "[I") (by decide +kernel)) (fun _ h9 => h9) rfl dX11_count_146 ?_
            refine lv_iload_n hx hb dX11_count_149 rfl (lv_at hl 3 rfl) ?_
            refine va_iald hx hb hK.1 hP 1 0 rfl rfl (in_rg h_15 (by decide)) dX11_count_150 ?_
            refine lv_topi (fun z150 gz150 => ?_)
            refine lv_iconst (v := (-1)) hx hb dX11_count_151 (by decide) ?_
            have j160 : ∀ (y160_0 : Int32) (H : Heap) (locs : List Loc) (ls : Array Slot), rg 0 1 y160_0 → va_P G vwCl [(a0, .inr (11, [.int 0, .ref a1, .ref a2, .ref a3, .ref a4, .ref a5, .int n0_6, .int n0_7, .int n0_8, .int n0_9, .int n0_10, .long l0_11, .int n0_12, .int n0_13, .int n0_14, .int n0_15, .ref a6, .ref a7, .ref a8, .ref a9, .ref a10, .ref a11, .ref a12, .ref a13, .int n0_24, .int n0_25, .int n0_26, .int n0_27, .ref a14, .int n0_29, .int n0_30])), (a1, .inl (ct 0, 4, .inl f1)), (a6, .inl (ct 0, 5, .inl f6)), (a7, .inl (ct 0, 15, .inl f7)), (a8, .inl (ct 0, 200, .inl f8)), (a9, .inl (ct 0, 1000, .inl f9)), (a11, .inl (ct 0, 8, .inl f11)), (a12, .inl (ct 0, 8, .inl f12)), (a13, .inl (ct 0, 8, .inl f13))] H → va_D A [(a0, .inr (11, [.int 0, .ref a1, .ref a2, .ref a3, .ref a4, .ref a5, .int n0_6, .int n0_7, .int n0_8, .int n0_9, .int n0_10, .long l0_11, .int n0_12, .int n0_13, .int n0_14, .int n0_15, .ref a6, .ref a7, .ref a8, .ref a9, .ref a10, .ref a11, .ref a12, .ref a13, .int n0_24, .int n0_25, .int n0_26, .int n0_27, .ref a14, .int n0_29, .int n0_30])), (a1, .inl (ct 0, 4, .inl f1)), (a6, .inl (ct 0, 5, .inl f6)), (a7, .inl (ct 0, 15, .inl f7)), (a8, .inl (ct 0, 200, .inl f8)), (a9, .inl (ct 0, 1000, .inl f9)), (a11, .inl (ct 0, 8, .inl f11)), (a12, .inl (ct 0, 8, .inl f12)), (a13, .inl (ct 0, 8, .inl f13))] → va_S A s.heap H locs → lv_has ls 4 [(0, .ref a0), (1, .int p0), (2, .int x139_2), (3, .int x139_3)] → W p l e (headSpec wsX11_count ({ frames := 5, cells := 0, slots := 0, locals := 111 })).room s m ([.ref a0, .int p0] : List Value).toArray below meth c H locs 0 0 (MQ below (va_Qi (fun (r : Int32) (u : SU) => (r = 0 → rg 0 7 p0) ∧ (¬ r = (-1) → rg 0 7 p0) ∧ ar (-1) 7 (u.2.1 0) ∧ ar (-1) 7 (u.2.1 2) ∧ rg 0 0 (u.1 0) ∧ True) (fun u t => va_P G vwCl ((fun u : SU => [(a0, .inr (11, [.int (u.1 0), .ref a1, .ref a2, .ref a3, .ref a4, .ref a5, .int n0_6, .int n0_7, .int n0_8, .int n0_9, .int n0_10, .long l0_11, .int n0_12, .int n0_13, .int n0_14, .int n0_15, .ref a6, .ref a7, .ref a8, .ref a9, .ref a10, .ref a11, .ref a12, .ref a13, .int (u.1 1), .int (u.1 2), .int (u.1 3), .int (u.1 4), .ref a14, .int n0_29, .int n0_30])), (a1, .inl (ct 0, 4, .inl f1)), (a6, .inl (ct 0, 5, .inl f6)), (a7, .inl (ct 0, 15, .inl f7)), (a8, .inl (ct 0, 200, .inl f8)), (a9, .inl (ct 0, 1000, .inl f9)), (a11, .inl (ct 0, 8, .inl (u.2.1 0))), (a12, .inl (ct 0, 8, .inl (u.2.1 1))), (a13, .inl (ct 0, 8, .inl (u.2.1 2)))]) u) t.heap) A) ([.ref a0, .int p0] : List Value).toArray s 0 0 A) (F0 m 160 ls [.int y160_0, .int x139_2]) := by
              intro y160_0 H locs ls hy160_0 hP hD hS hl
              refine lv_iadd hx hb dX11_count_160 ?_
              refine nm_0 (fun z160 => ?_)
              refine lv_istore_n (lv' := [(2, .int z160), (0, .ref a0), (1, .int p0), (3, .int x139_3)]) hx hb dX11_count_161 rfl hl (by decide) rfl (fun ls hl => ?_)
              obtain ⟨z162, qz162⟩ : ∃ y : Int32, y = x139_3 + Int32.ofInt 1 := ⟨_, rfl⟩
              obtain ⟨hz162, ez162⟩ := inc_z (e := 1) (f := 4) h_15 qz162 (by decide)
              refine lv_iinc (v := z162) (lv' := [(3, .int z162), (2, .int z160), (0, .ref a0), (1, .int p0)]) hx hb dX11_count_162 hl (k := 3) rfl (qz162.symm) (by decide) rfl (fun ls hl => ?_)
              refine lv_goto (tgt := 139) hx hb dX11_count_165 (by decide) ?_
              exact ih139 z160 z162 _ _ ls (by have q := hn139; have := ez162; omega) (rg_w (c := 0) (d := 4) hz162 (by decide)) hP hD hS (lv_sub hl [2, 3, 1, 0] rfl)
            refine lv_icmp_ne (tgt := 159) hx hb dX11_count_152 (by decide) (fun c152 => ?_) (fun c152 => ?_)
            · refine lv_iconst (v := 1) hx hb dX11_count_159 (by decide) ?_
              exact j160 (1 : Int32) _ _ ls (rg_w (c := 0) (d := 1) (rgn 1 (x := 1) (by decide)) (by decide)) hP hD hS (lv_sub hl [0, 1, 2, 3] rfl)
            · have h_16 : rg (-1) (-1) z150 := r_eq_l_i (e := (-1)) (f := (-1)) c152 (rg_t z150) (rgn (-1) (x := (-1)) (by decide)) (by decide)
              refine lv_iconst (v := 0) hx hb dX11_count_155 (by decide) ?_
              refine lv_goto (tgt := 160) hx hb dX11_count_156 (by decide) ?_
              exact j160 (0 : Int32) _ _ ls (rg_w (c := 0) (d := 1) (rgn 0 (x := 0) (by decide)) (by decide)) hP hD hS (lv_sub hl [0, 1, 2, 3] rfl)
      exact j139 4294967296 (0 : Int32) (0 : Int32) _ _ ls (ms_e (0 : Int32)) (rg_w (c := 0) (d := 4) (rgn 0 (x := 0) (by decide)) (by decide)) hP hD hS (lv_sub hl [2, 3, 1, 0] rfl)
  · obtain ⟨d8_0, c8⟩ := not_or.mp c8
    obtain ⟨d8_1, c8⟩ := not_or.mp c8
    obtain ⟨d8_2, c8⟩ := not_or.mp c8
    obtain ⟨d8_3, c8⟩ := not_or.mp c8
    obtain ⟨d8_4, c8⟩ := not_or.mp c8
    obtain ⟨d8_5, c8⟩ := not_or.mp c8
    obtain ⟨d8_6, c8⟩ := not_or.mp c8
    have d8_7 := c8
    refine lv_tableOut (tgt := 170) hx hb dX11_count_8 (by have := i_ne d8_0; have := i_ne d8_1; have := i_ne d8_2; have := i_ne d8_3; have := i_ne d8_4; have := i_ne d8_5; have := i_ne d8_6; have := i_ne d8_7; have : (0 : Int32).toInt = 0 := (by decide); have : (1 : Int32).toInt = 1 := (by decide); have : (2 : Int32).toInt = 2 := (by decide); have : (3 : Int32).toInt = 3 := (by decide); have : (4 : Int32).toInt = 4 := (by decide); have : (5 : Int32).toInt = 5 := (by decide); have : (6 : Int32).toInt = 6 := (by decide); have : (7 : Int32).toInt = 7 := (by decide); omega) (by decide) ?_
    refine lv_iconst (v := (-1)) hx hb dX11_count_170 (by decide) ?_
    exact W.iret (v := (-1)) hx hb hr (fun t ht hW => ⟨⟨(-1), (fun k => ([0, n0_24, n0_25, n0_26, n0_27] : List Int32).getD k 0, fun k => ([f11, f12, f13] : List (Nat → Int32)).getD k (fun _ => 0), fun k => ([] : List (Nat → Int64)).getD k (fun _ => 0)), rfl, ⟨(fun hq => absurd hq (rne (rgn (-1) (x := (-1)) (by decide)) (y := 0) (c := 0) (by decide) (by decide))), (fun hq => absurd (req (rgn (-1) (x := (-1)) (by decide)) (y := (-1)) (by decide)) hq), hp_f11, hp_f13, (rgn 0 (x := 0) (by decide)), trivial⟩, hp_at ht hP⟩, hS.F ht⟩) hS.2.2 dX11_count_171

set_option maxHeartbeats 4000000 in
set_option maxRecDepth 100000 in
theorem a_X11_copyRow1 (l : Launch) (G : va_G) (ct : Nat → ClassId) (a0 : Nat) (f0 : Nat → Int32) (p2 : Int32) (p3 : Int32) (hp_p2 : rg 0 4 p2) (hp_p3 : rg 0 4 p3) : Met l yX11_copyRow wsX11_copyRow ({ frames := 0, cells := 0, slots := 0, locals := 0 }) (va_Pc [.ref a0, .int 1, .int p2, .int p3] (wrP G ct [(a0, .inl (ct 0, 5, .inl f0))])) (va_Qv (fun u : SU => True) (fun u t => va_P G vwCl ((fun u : SU => [(a0, .inl (ct 0, 5, .inl (u.2.1 0)))]) u) t.heap) (aset [(a0, .inl (ct 0, 5, .inl f0))])) 0 0 (aset [(a0, .inl (ct 0, 5, .inl f0))]) := by
  refine Met.ofW (cc := cX11_copyRow) (maxL := 5) (ret := none) (by decide) rfl ?_
  intro p e s m args below meth c s₁ B hml hv
  obtain ⟨rfl, hP, hK, hD0⟩ := hv
  have hx := B.exec
  have hb := B.bytes
  have hr := B.returns
  have hts := atoms_spec (ws := wsX11_copyRow) B.pre
  have hown : s.vm.findClass RX11 = some m.cls := findClass_of_methodNamed B.named
  have hlocks := B.notSynchronized
  have hD := hD0.aself
  generalize hAe : aset [(a0, .inl (ct 0, 5, .inl f0))] = A at hD ⊢
  have hS : va_S A s.heap s.heap [] := va_S.rf
  have hl := lv_entry ([.ref a0, .int 1, .int p2, .int p3]) (n := 5) (Nat.le_of_ble_eq_true rfl)
  rw [lg_entry_eq]
  generalize (lg_sl ([.ref a0, .int 1, .int p2, .int p3]) ++ List.replicate (5 - (lg_sl ([.ref a0, .int 1, .int p2, .int p3])).length) Slot.unset).toArray = ls at hl ⊢
  have hl : lv_has ls 5 [(0, .ref a0), (1, .int 1), (2, .int p2), (3, .int p3)] := hl
  refine lv_iconst (v := 0) hx hb dX11_copyRow_0 (by decide) ?_
  refine lv_istore (lv' := [(4, .int 0), (0, .ref a0), (1, .int 1), (2, .int p2), (3, .int p3)]) hx hb dX11_copyRow_1 hl (by decide) rfl (fun ls hl => ?_)
  have j3 : ∀ (n : Nat) (x3_4 : Int32) (f3_0 : Nat → Int32) (H : Heap) (locs : List Loc) (ls : Array Slot), 2147483648 ≤ x3_4.toInt + (n : Int) → rg 0 1 x3_4 → va_P G vwCl [(a0, .inl (ct 0, 5, .inl f3_0))] H → va_D A [(a0, .inl (ct 0, 5, .inl f3_0))] → va_S A s.heap H locs → lv_has ls 5 [(0, .ref a0), (1, .int 1), (2, .int p2), (3, .int p3), (4, .int x3_4)] → W p l e (headSpec wsX11_copyRow ({ frames := 0, cells := 0, slots := 0, locals := 0 })).room s m ([.ref a0, .int 1, .int p2, .int p3] : List Value).toArray below meth c H locs 0 0 (MQ below (va_Qv (fun u : SU => True) (fun u t => va_P G vwCl ((fun u : SU => [(a0, .inl (ct 0, 5, .inl (u.2.1 0)))]) u) t.heap) A) ([.ref a0, .int 1, .int p2, .int p3] : List Value).toArray s 0 0 A) (F0 m 3 ls []) := by
    intro n
    induction n with
    | zero => intro x3_4 f3_0 H locs ls hn3 hx3_4 hP hD hS hl; exact absurd hn3 (by have := Int32.toInt_lt x3_4; have := Int32.le_toInt x3_4; omega)
    | succ n ih3 =>
      intro x3_4 f3_0 H locs ls hn3 hx3_4 hP hD hS hl
      refine lv_iload hx hb dX11_copyRow_3 (lv_at hl 4 rfl) ?_
      refine lv_iload_n hx hb dX11_copyRow_5 rfl (lv_at hl 1 rfl) ?_
      refine lv_icmp_ge (tgt := 31) hx hb dX11_copyRow_6 (by decide) (fun c6 => ?_) (fun c6 => ?_)
      · have h_1 : rg 1 1 x3_4 := r_le_r_i c6 (rgn 1 (x := 1) (by decide)) hx3_4
        exact W.vret hx hb hr (fun t ht hW => ⟨⟨(fun k => ([] : List Int32).getD k 0, fun k => ([f3_0] : List (Nat → Int32)).getD k (fun _ => 0), fun k => ([] : List (Nat → Int64)).getD k (fun _ => 0)), rfl, trivial, hp_at ht hP⟩, hS.F ht⟩) hS.2.2 dX11_copyRow_31
      · have h_2 : rg 0 0 x3_4 := r_lt_l_i (nle_i c6) hx3_4 (rgn 1 (x := 1) (by decide)) (by decide)
        refine lv_aload_n hx hb dX11_copyRow_9 rfl (lv_at hl 0 rfl) ?_
        refine lv_iload_n hx hb dX11_copyRow_10 rfl (lv_at hl 1 rfl) ?_
        refine lv_iload_n hx hb dX11_copyRow_11 rfl (lv_at hl 3 rfl) ?_
        refine lv_imul hx hb dX11_copyRow_12 ?_
        refine nm_mul (e1 := 0) (f := 4) (rgn 1 (x := 1) (by decide)) hp_p3 (by decide) (fun z12 hz12 ez12 => ?_)
        refine lv_iload hx hb dX11_copyRow_13 (lv_at hl 4 rfl) ?_
        refine lv_iadd hx hb dX11_copyRow_15 ?_
        refine nm_add (e1 := 0) (f := 4) hz12 h_2 (by decide) (fun z15 hz15 ez15 => ?_)
        refine lv_aload_n hx hb dX11_copyRow_16 rfl (lv_at hl 0 rfl) ?_
        refine lv_iload_n hx hb dX11_copyRow_17 rfl (lv_at hl 1 rfl) ?_
        refine lv_iload_n hx hb dX11_copyRow_18 rfl (lv_at hl 2 rfl) ?_
        refine lv_imul hx hb dX11_copyRow_19 ?_
        refine nm_mul (e1 := 0) (f := 4) (rgn 1 (x := 1) (by decide)) hp_p2 (by decide) (fun z19 hz19 ez19 => ?_)
        refine lv_iload hx hb dX11_copyRow_20 (lv_at hl 4 rfl) ?_
        refine lv_iadd hx hb dX11_copyRow_22 ?_
        refine nm_add (e1 := 0) (f := 4) hz19 h_2 (by decide) (fun z22 hz22 ez22 => ?_)
        refine va_iald hx hb hK.1 hP 0 0 rfl rfl (in_rg hz22 (by decide)) dX11_copyRow_23 ?_
        refine lv_topi (fun z23 gz23 => ?_)
        refine va_iast hx hb hK.1 hP hD hS 0 0 rfl rfl (in_rg hz15 (by decide)) dX11_copyRow_24 (fun H locs hP hD hS => ?_)
        obtain ⟨z25, qz25⟩ : ∃ y : Int32, y = x3_4 + Int32.ofInt 1 := ⟨_, rfl⟩
        obtain ⟨hz25, ez25⟩ := inc_z (e := 1) (f := 1) h_2 qz25 (by decide)
        refine lv_iinc (v := z25) (lv' := [(4, .int z25), (0, .ref a0), (1, .int 1), (2, .int p2), (3, .int p3)]) hx hb dX11_copyRow_25 hl (k := 4) rfl (qz25.symm) (by decide) rfl (fun ls hl => ?_)
        refine lv_goto (tgt := 3) hx hb dX11_copyRow_28 (by decide) ?_
        exact ih3 z25 (upd f3_0 z15.toNatClampNeg z23) _ _ ls (by have q := hn3; have := ez25; omega) (rg_w (c := 0) (d := 1) hz25 (by decide)) hP hD hS (lv_sub hl [1, 2, 3, 4, 0] rfl)
  exact j3 4294967296 (0 : Int32) f0 _ _ ls (ms_e (0 : Int32)) (rg_w (c := 0) (d := 1) (rgn 0 (x := 0) (by decide)) (by decide)) hP hD hS (lv_sub hl [1, 2, 3, 4, 0] rfl)

set_option maxHeartbeats 4000000 in
set_option maxRecDepth 100000 in
theorem a_X11_copyRow3 (l : Launch) (G : va_G) (ct : Nat → ClassId) (a0 : Nat) (f0 : Nat → Int32) (p2 : Int32) (p3 : Int32) (hp_p2 : rg 0 4 p2) (hp_p3 : rg 0 4 p3) (hp_f0 : hsI f0) : Met l yX11_copyRow wsX11_copyRow ({ frames := 0, cells := 0, slots := 0, locals := 0 }) (va_Pc [.ref a0, .int 3, .int p2, .int p3] (wrP G ct [(a0, .inl (ct 0, 15, .inl f0))])) (va_Qv (fun u : SU => hsI (u.2.1 0) ∧ True) (fun u t => va_P G vwCl ((fun u : SU => [(a0, .inl (ct 0, 15, .inl (u.2.1 0)))]) u) t.heap) (aset [(a0, .inl (ct 0, 15, .inl f0))])) 0 0 (aset [(a0, .inl (ct 0, 15, .inl f0))]) := by
  refine Met.ofW (cc := cX11_copyRow) (maxL := 5) (ret := none) (by decide) rfl ?_
  intro p e s m args below meth c s₁ B hml hv
  obtain ⟨rfl, hP, hK, hD0⟩ := hv
  have hx := B.exec
  have hb := B.bytes
  have hr := B.returns
  have hts := atoms_spec (ws := wsX11_copyRow) B.pre
  have hown : s.vm.findClass RX11 = some m.cls := findClass_of_methodNamed B.named
  have hlocks := B.notSynchronized
  have hD := hD0.aself
  generalize hAe : aset [(a0, .inl (ct 0, 15, .inl f0))] = A at hD ⊢
  have hS : va_S A s.heap s.heap [] := va_S.rf
  have hl := lv_entry ([.ref a0, .int 3, .int p2, .int p3]) (n := 5) (Nat.le_of_ble_eq_true rfl)
  rw [lg_entry_eq]
  generalize (lg_sl ([.ref a0, .int 3, .int p2, .int p3]) ++ List.replicate (5 - (lg_sl ([.ref a0, .int 3, .int p2, .int p3])).length) Slot.unset).toArray = ls at hl ⊢
  have hl : lv_has ls 5 [(0, .ref a0), (1, .int 3), (2, .int p2), (3, .int p3)] := hl
  refine lv_iconst (v := 0) hx hb dX11_copyRow_0 (by decide) ?_
  refine lv_istore (lv' := [(4, .int 0), (0, .ref a0), (1, .int 3), (2, .int p2), (3, .int p3)]) hx hb dX11_copyRow_1 hl (by decide) rfl (fun ls hl => ?_)
  have j3 : ∀ (n : Nat) (x3_4 : Int32) (f3_0 : Nat → Int32) (H : Heap) (locs : List Loc) (ls : Array Slot), 2147483648 ≤ x3_4.toInt + (n : Int) → rg 0 3 x3_4 → hsI f3_0 → va_P G vwCl [(a0, .inl (ct 0, 15, .inl f3_0))] H → va_D A [(a0, .inl (ct 0, 15, .inl f3_0))] → va_S A s.heap H locs → lv_has ls 5 [(0, .ref a0), (1, .int 3), (2, .int p2), (3, .int p3), (4, .int x3_4)] → W p l e (headSpec wsX11_copyRow ({ frames := 0, cells := 0, slots := 0, locals := 0 })).room s m ([.ref a0, .int 3, .int p2, .int p3] : List Value).toArray below meth c H locs 0 0 (MQ below (va_Qv (fun u : SU => hsI (u.2.1 0) ∧ True) (fun u t => va_P G vwCl ((fun u : SU => [(a0, .inl (ct 0, 15, .inl (u.2.1 0)))]) u) t.heap) A) ([.ref a0, .int 3, .int p2, .int p3] : List Value).toArray s 0 0 A) (F0 m 3 ls []) := by
    intro n
    induction n with
    | zero => intro x3_4 f3_0 H locs ls hn3 hx3_4 hf3_0 hP hD hS hl; exact absurd hn3 (by have := Int32.toInt_lt x3_4; have := Int32.le_toInt x3_4; omega)
    | succ n ih3 =>
      intro x3_4 f3_0 H locs ls hn3 hx3_4 hf3_0 hP hD hS hl
      refine lv_iload hx hb dX11_copyRow_3 (lv_at hl 4 rfl) ?_
      refine lv_iload_n hx hb dX11_copyRow_5 rfl (lv_at hl 1 rfl) ?_
      refine lv_icmp_ge (tgt := 31) hx hb dX11_copyRow_6 (by decide) (fun c6 => ?_) (fun c6 => ?_)
      · have h_1 : rg 3 3 x3_4 := r_le_r_i c6 (rgn 3 (x := 3) (by decide)) hx3_4
        exact W.vret hx hb hr (fun t ht hW => ⟨⟨(fun k => ([] : List Int32).getD k 0, fun k => ([f3_0] : List (Nat → Int32)).getD k (fun _ => 0), fun k => ([] : List (Nat → Int64)).getD k (fun _ => 0)), rfl, ⟨hf3_0, trivial⟩, hp_at ht hP⟩, hS.F ht⟩) hS.2.2 dX11_copyRow_31
      · have h_2 : rg 0 2 x3_4 := r_lt_l_i (nle_i c6) hx3_4 (rgn 3 (x := 3) (by decide)) (by decide)
        refine lv_aload_n hx hb dX11_copyRow_9 rfl (lv_at hl 0 rfl) ?_
        refine lv_iload_n hx hb dX11_copyRow_10 rfl (lv_at hl 1 rfl) ?_
        refine lv_iload_n hx hb dX11_copyRow_11 rfl (lv_at hl 3 rfl) ?_
        refine lv_imul hx hb dX11_copyRow_12 ?_
        refine nm_mul (e1 := 0) (f := 12) (rgn 3 (x := 3) (by decide)) hp_p3 (by decide) (fun z12 hz12 ez12 => ?_)
        refine lv_iload hx hb dX11_copyRow_13 (lv_at hl 4 rfl) ?_
        refine lv_iadd hx hb dX11_copyRow_15 ?_
        refine nm_add (e1 := 0) (f := 14) hz12 h_2 (by decide) (fun z15 hz15 ez15 => ?_)
        refine lv_aload_n hx hb dX11_copyRow_16 rfl (lv_at hl 0 rfl) ?_
        refine lv_iload_n hx hb dX11_copyRow_17 rfl (lv_at hl 1 rfl) ?_
        refine lv_iload_n hx hb dX11_copyRow_18 rfl (lv_at hl 2 rfl) ?_
        refine lv_imul hx hb dX11_copyRow_19 ?_
        refine nm_mul (e1 := 0) (f := 12) (rgn 3 (x := 3) (by decide)) hp_p2 (by decide) (fun z19 hz19 ez19 => ?_)
        refine lv_iload hx hb dX11_copyRow_20 (lv_at hl 4 rfl) ?_
        refine lv_iadd hx hb dX11_copyRow_22 ?_
        refine nm_add (e1 := 0) (f := 14) hz19 h_2 (by decide) (fun z22 hz22 ez22 => ?_)
        refine va_iald hx hb hK.1 hP 0 0 rfl rfl (in_rg hz22 (by decide)) dX11_copyRow_23 ?_
        refine lv_topi (fun z23 gz23 => ?_)
        refine va_iast hx hb hK.1 hP hD hS 0 0 rfl rfl (in_rg hz15 (by decide)) dX11_copyRow_24 (fun H locs hP hD hS => ?_)
        have h_3 : hsI (upd f3_0 z15.toNatClampNeg z23) := hsI_mv hf3_0 gz23 (i := z15) (j := z22) (rg_w (c := 0) (d := 2147483647) hz15 (by decide)) (rg_w (c := 0) (d := 2147483647) hz22 (by decide)) (mv_3 ez15 ez22 ez12 ez19)
        obtain ⟨z25, qz25⟩ : ∃ y : Int32, y = x3_4 + Int32.ofInt 1 := ⟨_, rfl⟩
        obtain ⟨hz25, ez25⟩ := inc_z (e := 1) (f := 3) h_2 qz25 (by decide)
        refine lv_iinc (v := z25) (lv' := [(4, .int z25), (0, .ref a0), (1, .int 3), (2, .int p2), (3, .int p3)]) hx hb dX11_copyRow_25 hl (k := 4) rfl (qz25.symm) (by decide) rfl (fun ls hl => ?_)
        refine lv_goto (tgt := 3) hx hb dX11_copyRow_28 (by decide) ?_
        exact ih3 z25 (upd f3_0 z15.toNatClampNeg z23) _ _ ls (by have q := hn3; have := ez25; omega) (rg_w (c := 0) (d := 3) hz25 (by decide)) h_3 hP hD hS (lv_sub hl [1, 2, 3, 4, 0] rfl)
  exact j3 4294967296 (0 : Int32) f0 _ _ ls (ms_e (0 : Int32)) (rg_w (c := 0) (d := 3) (rgn 0 (x := 0) (by decide)) (by decide)) hp_f0 hP hD hS (lv_sub hl [1, 2, 3, 4, 0] rfl)

set_option maxHeartbeats 4000000 in
set_option maxRecDepth 100000 in
theorem a_X11_copyRow40 (l : Launch) (G : va_G) (ct : Nat → ClassId) (a0 : Nat) (f0 : Nat → Int32) (p2 : Int32) (p3 : Int32) (hp_p2 : rg 0 4 p2) (hp_p3 : rg 0 4 p3) (hp_f0 : psI f0) : Met l yX11_copyRow wsX11_copyRow ({ frames := 0, cells := 0, slots := 0, locals := 0 }) (va_Pc [.ref a0, .int 40, .int p2, .int p3] (wrP G ct [(a0, .inl (ct 0, 200, .inl f0))])) (va_Qv (fun u : SU => psI (u.2.1 0) ∧ True) (fun u t => va_P G vwCl ((fun u : SU => [(a0, .inl (ct 0, 200, .inl (u.2.1 0)))]) u) t.heap) (aset [(a0, .inl (ct 0, 200, .inl f0))])) 0 0 (aset [(a0, .inl (ct 0, 200, .inl f0))]) := by
  refine Met.ofW (cc := cX11_copyRow) (maxL := 5) (ret := none) (by decide) rfl ?_
  intro p e s m args below meth c s₁ B hml hv
  obtain ⟨rfl, hP, hK, hD0⟩ := hv
  have hx := B.exec
  have hb := B.bytes
  have hr := B.returns
  have hts := atoms_spec (ws := wsX11_copyRow) B.pre
  have hown : s.vm.findClass RX11 = some m.cls := findClass_of_methodNamed B.named
  have hlocks := B.notSynchronized
  have hD := hD0.aself
  generalize hAe : aset [(a0, .inl (ct 0, 200, .inl f0))] = A at hD ⊢
  have hS : va_S A s.heap s.heap [] := va_S.rf
  have hl := lv_entry ([.ref a0, .int 40, .int p2, .int p3]) (n := 5) (Nat.le_of_ble_eq_true rfl)
  rw [lg_entry_eq]
  generalize (lg_sl ([.ref a0, .int 40, .int p2, .int p3]) ++ List.replicate (5 - (lg_sl ([.ref a0, .int 40, .int p2, .int p3])).length) Slot.unset).toArray = ls at hl ⊢
  have hl : lv_has ls 5 [(0, .ref a0), (1, .int 40), (2, .int p2), (3, .int p3)] := hl
  refine lv_iconst (v := 0) hx hb dX11_copyRow_0 (by decide) ?_
  refine lv_istore (lv' := [(4, .int 0), (0, .ref a0), (1, .int 40), (2, .int p2), (3, .int p3)]) hx hb dX11_copyRow_1 hl (by decide) rfl (fun ls hl => ?_)
  have j3 : ∀ (n : Nat) (x3_4 : Int32) (f3_0 : Nat → Int32) (H : Heap) (locs : List Loc) (ls : Array Slot), 2147483648 ≤ x3_4.toInt + (n : Int) → rg 0 40 x3_4 → psI f3_0 → va_P G vwCl [(a0, .inl (ct 0, 200, .inl f3_0))] H → va_D A [(a0, .inl (ct 0, 200, .inl f3_0))] → va_S A s.heap H locs → lv_has ls 5 [(0, .ref a0), (1, .int 40), (2, .int p2), (3, .int p3), (4, .int x3_4)] → W p l e (headSpec wsX11_copyRow ({ frames := 0, cells := 0, slots := 0, locals := 0 })).room s m ([.ref a0, .int 40, .int p2, .int p3] : List Value).toArray below meth c H locs 0 0 (MQ below (va_Qv (fun u : SU => psI (u.2.1 0) ∧ True) (fun u t => va_P G vwCl ((fun u : SU => [(a0, .inl (ct 0, 200, .inl (u.2.1 0)))]) u) t.heap) A) ([.ref a0, .int 40, .int p2, .int p3] : List Value).toArray s 0 0 A) (F0 m 3 ls []) := by
    intro n
    induction n with
    | zero => intro x3_4 f3_0 H locs ls hn3 hx3_4 hf3_0 hP hD hS hl; exact absurd hn3 (by have := Int32.toInt_lt x3_4; have := Int32.le_toInt x3_4; omega)
    | succ n ih3 =>
      intro x3_4 f3_0 H locs ls hn3 hx3_4 hf3_0 hP hD hS hl
      refine lv_iload hx hb dX11_copyRow_3 (lv_at hl 4 rfl) ?_
      refine lv_iload_n hx hb dX11_copyRow_5 rfl (lv_at hl 1 rfl) ?_
      refine lv_icmp_ge (tgt := 31) hx hb dX11_copyRow_6 (by decide) (fun c6 => ?_) (fun c6 => ?_)
      · have h_1 : rg 40 40 x3_4 := r_le_r_i c6 (rgn 40 (x := 40) (by decide)) hx3_4
        exact W.vret hx hb hr (fun t ht hW => ⟨⟨(fun k => ([] : List Int32).getD k 0, fun k => ([f3_0] : List (Nat → Int32)).getD k (fun _ => 0), fun k => ([] : List (Nat → Int64)).getD k (fun _ => 0)), rfl, ⟨hf3_0, trivial⟩, hp_at ht hP⟩, hS.F ht⟩) hS.2.2 dX11_copyRow_31
      · have h_2 : rg 0 39 x3_4 := r_lt_l_i (nle_i c6) hx3_4 (rgn 40 (x := 40) (by decide)) (by decide)
        refine lv_aload_n hx hb dX11_copyRow_9 rfl (lv_at hl 0 rfl) ?_
        refine lv_iload_n hx hb dX11_copyRow_10 rfl (lv_at hl 1 rfl) ?_
        refine lv_iload_n hx hb dX11_copyRow_11 rfl (lv_at hl 3 rfl) ?_
        refine lv_imul hx hb dX11_copyRow_12 ?_
        refine nm_mul (e1 := 0) (f := 160) (rgn 40 (x := 40) (by decide)) hp_p3 (by decide) (fun z12 hz12 ez12 => ?_)
        refine lv_iload hx hb dX11_copyRow_13 (lv_at hl 4 rfl) ?_
        refine lv_iadd hx hb dX11_copyRow_15 ?_
        refine nm_add (e1 := 0) (f := 199) hz12 h_2 (by decide) (fun z15 hz15 ez15 => ?_)
        refine lv_aload_n hx hb dX11_copyRow_16 rfl (lv_at hl 0 rfl) ?_
        refine lv_iload_n hx hb dX11_copyRow_17 rfl (lv_at hl 1 rfl) ?_
        refine lv_iload_n hx hb dX11_copyRow_18 rfl (lv_at hl 2 rfl) ?_
        refine lv_imul hx hb dX11_copyRow_19 ?_
        refine nm_mul (e1 := 0) (f := 160) (rgn 40 (x := 40) (by decide)) hp_p2 (by decide) (fun z19 hz19 ez19 => ?_)
        refine lv_iload hx hb dX11_copyRow_20 (lv_at hl 4 rfl) ?_
        refine lv_iadd hx hb dX11_copyRow_22 ?_
        refine nm_add (e1 := 0) (f := 199) hz19 h_2 (by decide) (fun z22 hz22 ez22 => ?_)
        refine va_iald hx hb hK.1 hP 0 0 rfl rfl (in_rg hz22 (by decide)) dX11_copyRow_23 ?_
        refine lv_topi (fun z23 gz23 => ?_)
        refine va_iast hx hb hK.1 hP hD hS 0 0 rfl rfl (in_rg hz15 (by decide)) dX11_copyRow_24 (fun H locs hP hD hS => ?_)
        have h_3 : psI (upd f3_0 z15.toNatClampNeg z23) := psI_mv hf3_0 gz23 (i := z15) (j := z22) (rg_w (c := 0) (d := 2147483647) hz15 (by decide)) (rg_w (c := 0) (d := 2147483647) hz22 (by decide)) (mv_40 ez15 ez22 ez12 ez19)
        obtain ⟨z25, qz25⟩ : ∃ y : Int32, y = x3_4 + Int32.ofInt 1 := ⟨_, rfl⟩
        obtain ⟨hz25, ez25⟩ := inc_z (e := 1) (f := 40) h_2 qz25 (by decide)
        refine lv_iinc (v := z25) (lv' := [(4, .int z25), (0, .ref a0), (1, .int 40), (2, .int p2), (3, .int p3)]) hx hb dX11_copyRow_25 hl (k := 4) rfl (qz25.symm) (by decide) rfl (fun ls hl => ?_)
        refine lv_goto (tgt := 3) hx hb dX11_copyRow_28 (by decide) ?_
        exact ih3 z25 (upd f3_0 z15.toNatClampNeg z23) _ _ ls (by have q := hn3; have := ez25; omega) (rg_w (c := 0) (d := 40) hz25 (by decide)) h_3 hP hD hS (lv_sub hl [1, 2, 3, 4, 0] rfl)
  exact j3 4294967296 (0 : Int32) f0 _ _ ls (ms_e (0 : Int32)) (rg_w (c := 0) (d := 40) (rgn 0 (x := 0) (by decide)) (by decide)) hp_f0 hP hD hS (lv_sub hl [1, 2, 3, 4, 0] rfl)

set_option maxHeartbeats 4000000 in
set_option maxRecDepth 100000 in
theorem a_X11_copyRow200 (l : Launch) (G : va_G) (ct : Nat → ClassId) (a0 : Nat) (f0 : Nat → Int32) (p2 : Int32) (p3 : Int32) (hp_p2 : rg 0 4 p2) (hp_p3 : rg 0 4 p3) (hp_f0 : ar 0 7 f0) : Met l yX11_copyRow wsX11_copyRow ({ frames := 0, cells := 0, slots := 0, locals := 0 }) (va_Pc [.ref a0, .int 200, .int p2, .int p3] (wrP G ct [(a0, .inl (ct 0, 1000, .inl f0))])) (va_Qv (fun u : SU => ar 0 7 (u.2.1 0) ∧ True) (fun u t => va_P G vwCl ((fun u : SU => [(a0, .inl (ct 0, 1000, .inl (u.2.1 0)))]) u) t.heap) (aset [(a0, .inl (ct 0, 1000, .inl f0))])) 0 0 (aset [(a0, .inl (ct 0, 1000, .inl f0))]) := by
  refine Met.ofW (cc := cX11_copyRow) (maxL := 5) (ret := none) (by decide) rfl ?_
  intro p e s m args below meth c s₁ B hml hv
  obtain ⟨rfl, hP, hK, hD0⟩ := hv
  have hx := B.exec
  have hb := B.bytes
  have hr := B.returns
  have hts := atoms_spec (ws := wsX11_copyRow) B.pre
  have hown : s.vm.findClass RX11 = some m.cls := findClass_of_methodNamed B.named
  have hlocks := B.notSynchronized
  have hD := hD0.aself
  generalize hAe : aset [(a0, .inl (ct 0, 1000, .inl f0))] = A at hD ⊢
  have hS : va_S A s.heap s.heap [] := va_S.rf
  have hl := lv_entry ([.ref a0, .int 200, .int p2, .int p3]) (n := 5) (Nat.le_of_ble_eq_true rfl)
  rw [lg_entry_eq]
  generalize (lg_sl ([.ref a0, .int 200, .int p2, .int p3]) ++ List.replicate (5 - (lg_sl ([.ref a0, .int 200, .int p2, .int p3])).length) Slot.unset).toArray = ls at hl ⊢
  have hl : lv_has ls 5 [(0, .ref a0), (1, .int 200), (2, .int p2), (3, .int p3)] := hl
  refine lv_iconst (v := 0) hx hb dX11_copyRow_0 (by decide) ?_
  refine lv_istore (lv' := [(4, .int 0), (0, .ref a0), (1, .int 200), (2, .int p2), (3, .int p3)]) hx hb dX11_copyRow_1 hl (by decide) rfl (fun ls hl => ?_)
  have j3 : ∀ (n : Nat) (x3_4 : Int32) (f3_0 : Nat → Int32) (H : Heap) (locs : List Loc) (ls : Array Slot), 2147483648 ≤ x3_4.toInt + (n : Int) → rg 0 200 x3_4 → ar 0 7 f3_0 → va_P G vwCl [(a0, .inl (ct 0, 1000, .inl f3_0))] H → va_D A [(a0, .inl (ct 0, 1000, .inl f3_0))] → va_S A s.heap H locs → lv_has ls 5 [(0, .ref a0), (1, .int 200), (2, .int p2), (3, .int p3), (4, .int x3_4)] → W p l e (headSpec wsX11_copyRow ({ frames := 0, cells := 0, slots := 0, locals := 0 })).room s m ([.ref a0, .int 200, .int p2, .int p3] : List Value).toArray below meth c H locs 0 0 (MQ below (va_Qv (fun u : SU => ar 0 7 (u.2.1 0) ∧ True) (fun u t => va_P G vwCl ((fun u : SU => [(a0, .inl (ct 0, 1000, .inl (u.2.1 0)))]) u) t.heap) A) ([.ref a0, .int 200, .int p2, .int p3] : List Value).toArray s 0 0 A) (F0 m 3 ls []) := by
    intro n
    induction n with
    | zero => intro x3_4 f3_0 H locs ls hn3 hx3_4 hf3_0 hP hD hS hl; exact absurd hn3 (by have := Int32.toInt_lt x3_4; have := Int32.le_toInt x3_4; omega)
    | succ n ih3 =>
      intro x3_4 f3_0 H locs ls hn3 hx3_4 hf3_0 hP hD hS hl
      refine lv_iload hx hb dX11_copyRow_3 (lv_at hl 4 rfl) ?_
      refine lv_iload_n hx hb dX11_copyRow_5 rfl (lv_at hl 1 rfl) ?_
      refine lv_icmp_ge (tgt := 31) hx hb dX11_copyRow_6 (by decide) (fun c6 => ?_) (fun c6 => ?_)
      · have h_1 : rg 200 200 x3_4 := r_le_r_i c6 (rgn 200 (x := 200) (by decide)) hx3_4
        exact W.vret hx hb hr (fun t ht hW => ⟨⟨(fun k => ([] : List Int32).getD k 0, fun k => ([f3_0] : List (Nat → Int32)).getD k (fun _ => 0), fun k => ([] : List (Nat → Int64)).getD k (fun _ => 0)), rfl, ⟨hf3_0, trivial⟩, hp_at ht hP⟩, hS.F ht⟩) hS.2.2 dX11_copyRow_31
      · have h_2 : rg 0 199 x3_4 := r_lt_l_i (nle_i c6) hx3_4 (rgn 200 (x := 200) (by decide)) (by decide)
        refine lv_aload_n hx hb dX11_copyRow_9 rfl (lv_at hl 0 rfl) ?_
        refine lv_iload_n hx hb dX11_copyRow_10 rfl (lv_at hl 1 rfl) ?_
        refine lv_iload_n hx hb dX11_copyRow_11 rfl (lv_at hl 3 rfl) ?_
        refine lv_imul hx hb dX11_copyRow_12 ?_
        refine nm_mul (e1 := 0) (f := 800) (rgn 200 (x := 200) (by decide)) hp_p3 (by decide) (fun z12 hz12 ez12 => ?_)
        refine lv_iload hx hb dX11_copyRow_13 (lv_at hl 4 rfl) ?_
        refine lv_iadd hx hb dX11_copyRow_15 ?_
        refine nm_add (e1 := 0) (f := 999) hz12 h_2 (by decide) (fun z15 hz15 ez15 => ?_)
        refine lv_aload_n hx hb dX11_copyRow_16 rfl (lv_at hl 0 rfl) ?_
        refine lv_iload_n hx hb dX11_copyRow_17 rfl (lv_at hl 1 rfl) ?_
        refine lv_iload_n hx hb dX11_copyRow_18 rfl (lv_at hl 2 rfl) ?_
        refine lv_imul hx hb dX11_copyRow_19 ?_
        refine nm_mul (e1 := 0) (f := 800) (rgn 200 (x := 200) (by decide)) hp_p2 (by decide) (fun z19 hz19 ez19 => ?_)
        refine lv_iload hx hb dX11_copyRow_20 (lv_at hl 4 rfl) ?_
        refine lv_iadd hx hb dX11_copyRow_22 ?_
        refine nm_add (e1 := 0) (f := 999) hz19 h_2 (by decide) (fun z22 hz22 ez22 => ?_)
        refine va_iald hx hb hK.1 hP 0 0 rfl rfl (in_rg hz22 (by decide)) dX11_copyRow_23 ?_
        refine lv_topi (fun z23 gz23 => ?_)
        have hz23 : rg 0 7 z23 := by rw [gz23]; exact hf3_0 _
        refine va_iast hx hb hK.1 hP hD hS 0 0 rfl rfl (in_rg hz15 (by decide)) dX11_copyRow_24 (fun H locs hP hD hS => ?_)
        have h_3 : ar 0 7 (upd f3_0 z15.toNatClampNeg z23) := ar_u hf3_0 hz23
        obtain ⟨z25, qz25⟩ : ∃ y : Int32, y = x3_4 + Int32.ofInt 1 := ⟨_, rfl⟩
        obtain ⟨hz25, ez25⟩ := inc_z (e := 1) (f := 200) h_2 qz25 (by decide)
        refine lv_iinc (v := z25) (lv' := [(4, .int z25), (0, .ref a0), (1, .int 200), (2, .int p2), (3, .int p3)]) hx hb dX11_copyRow_25 hl (k := 4) rfl (qz25.symm) (by decide) rfl (fun ls hl => ?_)
        refine lv_goto (tgt := 3) hx hb dX11_copyRow_28 (by decide) ?_
        exact ih3 z25 (upd f3_0 z15.toNatClampNeg z23) _ _ ls (by have q := hn3; have := ez25; omega) (rg_w (c := 0) (d := 200) hz25 (by decide)) h_3 hP hD hS (lv_sub hl [1, 2, 3, 4, 0] rfl)
  exact j3 4294967296 (0 : Int32) f0 _ _ ls (ms_e (0 : Int32)) (rg_w (c := 0) (d := 200) (rgn 0 (x := 0) (by decide)) (by decide)) hp_f0 hP hD hS (lv_sub hl [1, 2, 3, 4, 0] rfl)

set_option maxHeartbeats 4000000 in
set_option maxRecDepth 100000 in
theorem a_X11_copyCity (l : Launch) (G : va_G) (ct : Nat → ClassId) (a0 : Nat) (n0_0 : Int32) (a1 : Nat) (a2 : Nat) (a3 : Nat) (a4 : Nat) (a5 : Nat) (n0_6 : Int32) (n0_7 : Int32) (n0_8 : Int32) (n0_9 : Int32) (n0_10 : Int32) (l0_11 : Int64) (n0_12 : Int32) (n0_13 : Int32) (n0_14 : Int32) (n0_15 : Int32) (a6 : Nat) (a7 : Nat) (a8 : Nat) (a9 : Nat) (a10 : Nat) (a11 : Nat) (a12 : Nat) (a13 : Nat) (n0_24 : Int32) (n0_25 : Int32) (n0_26 : Int32) (n0_27 : Int32) (a14 : Nat) (n0_29 : Int32) (n0_30 : Int32) (f6 : Nat → Int32) (f7 : Nat → Int32) (f8 : Nat → Int32) (f9 : Nat → Int32) (p0 : Int32) (p1 : Int32) (hp_n0_6 : rg 0 900 n0_6) (hp_f7 : hsI f7) (hp_f8 : psI f8) (hp_f9 : ar 0 7 f9) (hp_p0 : rg 0 4 p0) (hp_p1 : rg 0 4 p1) : Met l yX11_copyCity wsX11_copyCity ({ frames := 1, cells := 0, slots := 0, locals := 24 }) (va_Pc [.ref a0, .int p0, .int p1] (wrP G ct [(a0, .inr (11, [.int n0_0, .ref a1, .ref a2, .ref a3, .ref a4, .ref a5, .int n0_6, .int n0_7, .int n0_8, .int n0_9, .int n0_10, .long l0_11, .int n0_12, .int n0_13, .int n0_14, .int n0_15, .ref a6, .ref a7, .ref a8, .ref a9, .ref a10, .ref a11, .ref a12, .ref a13, .int n0_24, .int n0_25, .int n0_26, .int n0_27, .ref a14, .int n0_29, .int n0_30])), (a6, .inl (ct 0, 5, .inl f6)), (a7, .inl (ct 0, 15, .inl f7)), (a8, .inl (ct 0, 200, .inl f8)), (a9, .inl (ct 0, 1000, .inl f9))])) (va_Qv (fun u : SU => hsI (u.2.1 1) ∧ psI (u.2.1 2) ∧ ar 0 7 (u.2.1 3) ∧ True) (fun u t => va_P G vwCl ((fun u : SU => [(a0, .inr (11, [.int n0_0, .ref a1, .ref a2, .ref a3, .ref a4, .ref a5, .int n0_6, .int n0_7, .int n0_8, .int n0_9, .int n0_10, .long l0_11, .int n0_12, .int n0_13, .int n0_14, .int n0_15, .ref a6, .ref a7, .ref a8, .ref a9, .ref a10, .ref a11, .ref a12, .ref a13, .int n0_24, .int n0_25, .int n0_26, .int n0_27, .ref a14, .int n0_29, .int n0_30])), (a6, .inl (ct 0, 5, .inl (u.2.1 0))), (a7, .inl (ct 0, 15, .inl (u.2.1 1))), (a8, .inl (ct 0, 200, .inl (u.2.1 2))), (a9, .inl (ct 0, 1000, .inl (u.2.1 3)))]) u) t.heap) (aset [(a0, .inr (11, [.int n0_0, .ref a1, .ref a2, .ref a3, .ref a4, .ref a5, .int n0_6, .int n0_7, .int n0_8, .int n0_9, .int n0_10, .long l0_11, .int n0_12, .int n0_13, .int n0_14, .int n0_15, .ref a6, .ref a7, .ref a8, .ref a9, .ref a10, .ref a11, .ref a12, .ref a13, .int n0_24, .int n0_25, .int n0_26, .int n0_27, .ref a14, .int n0_29, .int n0_30])), (a6, .inl (ct 0, 5, .inl f6)), (a7, .inl (ct 0, 15, .inl f7)), (a8, .inl (ct 0, 200, .inl f8)), (a9, .inl (ct 0, 1000, .inl f9))])) 0 0 (aset [(a0, .inr (11, [.int n0_0, .ref a1, .ref a2, .ref a3, .ref a4, .ref a5, .int n0_6, .int n0_7, .int n0_8, .int n0_9, .int n0_10, .long l0_11, .int n0_12, .int n0_13, .int n0_14, .int n0_15, .ref a6, .ref a7, .ref a8, .ref a9, .ref a10, .ref a11, .ref a12, .ref a13, .int n0_24, .int n0_25, .int n0_26, .int n0_27, .ref a14, .int n0_29, .int n0_30])), (a6, .inl (ct 0, 5, .inl f6)), (a7, .inl (ct 0, 15, .inl f7)), (a8, .inl (ct 0, 200, .inl f8)), (a9, .inl (ct 0, 1000, .inl f9))]) := by
  refine Met.ofW (cc := cX11_copyCity) (maxL := 3) (ret := none) (by decide) rfl ?_
  intro p e s m args below meth c s₁ B hml hv
  obtain ⟨rfl, hP, hK, hD0⟩ := hv
  have hx := B.exec
  have hb := B.bytes
  have hr := B.returns
  have hts := atoms_spec (ws := wsX11_copyCity) B.pre
  have hown : s.vm.findClass RX11 = some m.cls := findClass_of_methodNamed B.named
  have hlocks := B.notSynchronized
  have hD := hD0.aself
  generalize hAe : aset [(a0, .inr (11, [.int n0_0, .ref a1, .ref a2, .ref a3, .ref a4, .ref a5, .int n0_6, .int n0_7, .int n0_8, .int n0_9, .int n0_10, .long l0_11, .int n0_12, .int n0_13, .int n0_14, .int n0_15, .ref a6, .ref a7, .ref a8, .ref a9, .ref a10, .ref a11, .ref a12, .ref a13, .int n0_24, .int n0_25, .int n0_26, .int n0_27, .ref a14, .int n0_29, .int n0_30])), (a6, .inl (ct 0, 5, .inl f6)), (a7, .inl (ct 0, 15, .inl f7)), (a8, .inl (ct 0, 200, .inl f8)), (a9, .inl (ct 0, 1000, .inl f9))] = A at hD ⊢
  have hS : va_S A s.heap s.heap [] := va_S.rf
  have hl := lv_entry ([.ref a0, .int p0, .int p1]) (n := 3) (Nat.le_of_ble_eq_true rfl)
  rw [lg_entry_eq]
  generalize (lg_sl ([.ref a0, .int p0, .int p1]) ++ List.replicate (3 - (lg_sl ([.ref a0, .int p0, .int p1])).length) Slot.unset).toArray = ls at hl ⊢
  have hl : lv_has ls 3 [(0, .ref a0), (1, .int p0), (2, .int p1)] := hl
  refine lv_aload_n hx hb dX11_copyCity_0 rfl (lv_at hl 0 rfl) ?_
  refine va_get (D := G) (ci := 11) (v := .ref a6) (C := RX11) (T := TX11) (N := 31) hx hb hts (by decide +kernel) hown hK.1 hP 0 rfl rfl 16 (by decide) (hts (.fieldLink RX11 31 "CardHolderModel" "lines" "[I") (by decide +kernel)) (fun _ h9 => h9) rfl dX11_copyCity_1 ?_
  refine lv_iconst (v := 1) hx hb dX11_copyCity_4 (by decide) ?_
  refine lv_iload_n hx hb dX11_copyCity_5 rfl (lv_at hl 1 rfl) ?_
  refine lv_iload_n hx hb dX11_copyCity_6 rfl (lv_at hl 2 rfl) ?_
  refine wj_callv (wr := [(a0, .inr (11, [.int n0_0, .ref a1, .ref a2, .ref a3, .ref a4, .ref a5, .int n0_6, .int n0_7, .int n0_8, .int n0_9, .int n0_10, .long l0_11, .int n0_12, .int n0_13, .int n0_14, .int n0_15, .ref a6, .ref a7, .ref a8, .ref a9, .ref a10, .ref a11, .ref a12, .ref a13, .int n0_24, .int n0_25, .int n0_26, .int n0_27, .ref a14, .int n0_29, .int n0_30])), (a7, .inl (ct 0, 15, .inl f7)), (a8, .inl (ct 0, 200, .inl f8)), (a9, .inl (ct 0, 1000, .inl f9))]) (w1 := (fun u : SU => [(a6, .inl (ct 0, 5, .inl (u.2.1 0)))])) (va_runS (As := [.ref a6, .int 1, .int p0, .int p1]) (rest := []) ⟨hx, hb, hml, hown, hts⟩ (a_X11_copyRow1 l G ct a6 f6 p0 p1 hp_p0 hp_p1) (va_cwS 4 hts gX11_copyCity_X11_copyRow rfl rfl rfl (by decide +kernel) ⟨Nat.le_of_ble_eq_true rfl, Nat.le_of_ble_eq_true rfl⟩) (wr_pre hK (hP.sub [1] rfl) (hD.sub [1] (by decide) rfl)) rfl rfl hl.1 rfl (lv_room (Nat.le_of_ble_eq_true rfl)) dX11_copyCity_7 ⟨Nat.zero_le _, Nat.zero_le _⟩) hS hP hD [1] [0, 2, 3, 4] rfl rfl (by decide) (fun _ => rfl) (fun ur7 H locs wr7 hP hD hS => ?_)
  have hP : va_P G vwCl [(a0, .inr (11, [.int n0_0, .ref a1, .ref a2, .ref a3, .ref a4, .ref a5, .int n0_6, .int n0_7, .int n0_8, .int n0_9, .int n0_10, .long l0_11, .int n0_12, .int n0_13, .int n0_14, .int n0_15, .ref a6, .ref a7, .ref a8, .ref a9, .ref a10, .ref a11, .ref a12, .ref a13, .int n0_24, .int n0_25, .int n0_26, .int n0_27, .ref a14, .int n0_29, .int n0_30])), (a6, .inl (ct 0, 5, .inl (ur7.2.1 0))), (a7, .inl (ct 0, 15, .inl f7)), (a8, .inl (ct 0, 200, .inl f8)), (a9, .inl (ct 0, 1000, .inl f9))] H := hP.sub [0, 4, 1, 2, 3] rfl
  have hD : va_D A [(a0, .inr (11, [.int n0_0, .ref a1, .ref a2, .ref a3, .ref a4, .ref a5, .int n0_6, .int n0_7, .int n0_8, .int n0_9, .int n0_10, .long l0_11, .int n0_12, .int n0_13, .int n0_14, .int n0_15, .ref a6, .ref a7, .ref a8, .ref a9, .ref a10, .ref a11, .ref a12, .ref a13, .int n0_24, .int n0_25, .int n0_26, .int n0_27, .ref a14, .int n0_29, .int n0_30])), (a6, .inl (ct 0, 5, .inl (ur7.2.1 0))), (a7, .inl (ct 0, 15, .inl f7)), (a8, .inl (ct 0, 200, .inl f8)), (a9, .inl (ct 0, 1000, .inl f9))] := hD.sub [0, 4, 1, 2, 3] (by decide) rfl
  refine lv_aload_n hx hb dX11_copyCity_10 rfl (lv_at hl 0 rfl) ?_
  refine va_get (D := G) (ci := 11) (v := .ref a7) (C := RX11) (T := TX11) (N := 31) hx hb hts (by decide +kernel) hown hK.1 hP 0 rfl rfl 17 (by decide) (hts (.fieldLink RX11 34 "CardHolderModel" "has" "[I") (by decide +kernel)) (fun _ h9 => h9) rfl dX11_copyCity_11 ?_
  refine lv_iconst (v := 3) hx hb dX11_copyCity_14 (by decide) ?_
  refine lv_iload_n hx hb dX11_copyCity_15 rfl (lv_at hl 1 rfl) ?_
  refine lv_iload_n hx hb dX11_copyCity_16 rfl (lv_at hl 2 rfl) ?_
  refine wj_callv (wr := [(a0, .inr (11, [.int n0_0, .ref a1, .ref a2, .ref a3, .ref a4, .ref a5, .int n0_6, .int n0_7, .int n0_8, .int n0_9, .int n0_10, .long l0_11, .int n0_12, .int n0_13, .int n0_14, .int n0_15, .ref a6, .ref a7, .ref a8, .ref a9, .ref a10, .ref a11, .ref a12, .ref a13, .int n0_24, .int n0_25, .int n0_26, .int n0_27, .ref a14, .int n0_29, .int n0_30])), (a6, .inl (ct 0, 5, .inl (ur7.2.1 0))), (a8, .inl (ct 0, 200, .inl f8)), (a9, .inl (ct 0, 1000, .inl f9))]) (w1 := (fun u : SU => [(a7, .inl (ct 0, 15, .inl (u.2.1 0)))])) (va_runS (As := [.ref a7, .int 3, .int p0, .int p1]) (rest := []) ⟨hx, hb, hml, hown, hts⟩ (a_X11_copyRow3 l G ct a7 f7 p0 p1 hp_p0 hp_p1 hp_f7) (va_cwS 4 hts gX11_copyCity_X11_copyRow rfl rfl rfl (by decide +kernel) ⟨Nat.le_of_ble_eq_true rfl, Nat.le_of_ble_eq_true rfl⟩) (wr_pre hK (hP.sub [2] rfl) (hD.sub [2] (by decide) rfl)) rfl rfl hl.1 rfl (lv_room (Nat.le_of_ble_eq_true rfl)) dX11_copyCity_17 ⟨Nat.zero_le _, Nat.zero_le _⟩) hS hP hD [2] [0, 1, 3, 4] rfl rfl (by decide) (fun _ => rfl) (fun ur17 H locs wr17 hP hD hS => ?_)
  have hP : va_P G vwCl [(a0, .inr (11, [.int n0_0, .ref a1, .ref a2, .ref a3, .ref a4, .ref a5, .int n0_6, .int n0_7, .int n0_8, .int n0_9, .int n0_10, .long l0_11, .int n0_12, .int n0_13, .int n0_14, .int n0_15, .ref a6, .ref a7, .ref a8, .ref a9, .ref a10, .ref a11, .ref a12, .ref a13, .int n0_24, .int n0_25, .int n0_26, .int n0_27, .ref a14, .int n0_29, .int n0_30])), (a6, .inl (ct 0, 5, .inl (ur7.2.1 0))), (a7, .inl (ct 0, 15, .inl (ur17.2.1 0))), (a8, .inl (ct 0, 200, .inl f8)), (a9, .inl (ct 0, 1000, .inl f9))] H := hP.sub [0, 1, 4, 2, 3] rfl
  have hD : va_D A [(a0, .inr (11, [.int n0_0, .ref a1, .ref a2, .ref a3, .ref a4, .ref a5, .int n0_6, .int n0_7, .int n0_8, .int n0_9, .int n0_10, .long l0_11, .int n0_12, .int n0_13, .int n0_14, .int n0_15, .ref a6, .ref a7, .ref a8, .ref a9, .ref a10, .ref a11, .ref a12, .ref a13, .int n0_24, .int n0_25, .int n0_26, .int n0_27, .ref a14, .int n0_29, .int n0_30])), (a6, .inl (ct 0, 5, .inl (ur7.2.1 0))), (a7, .inl (ct 0, 15, .inl (ur17.2.1 0))), (a8, .inl (ct 0, 200, .inl f8)), (a9, .inl (ct 0, 1000, .inl f9))] := hD.sub [0, 1, 4, 2, 3] (by decide) rfl
  obtain ⟨p_1, -⟩ := wr17
  refine lv_aload_n hx hb dX11_copyCity_20 rfl (lv_at hl 0 rfl) ?_
  refine va_get (D := G) (ci := 11) (v := .ref a8) (C := RX11) (T := TX11) (N := 31) hx hb hts (by decide +kernel) hown hK.1 hP 0 rfl rfl 18 (by decide) (hts (.fieldLink RX11 37 "CardHolderModel" "person" "[I") (by decide +kernel)) (fun _ h9 => h9) rfl dX11_copyCity_21 ?_
  refine lv_bipush (v := 40) hx hb dX11_copyCity_24 (by decide) ?_
  refine lv_iload_n hx hb dX11_copyCity_26 rfl (lv_at hl 1 rfl) ?_
  refine lv_iload_n hx hb dX11_copyCity_27 rfl (lv_at hl 2 rfl) ?_
  refine wj_callv (wr := [(a0, .inr (11, [.int n0_0, .ref a1, .ref a2, .ref a3, .ref a4, .ref a5, .int n0_6, .int n0_7, .int n0_8, .int n0_9, .int n0_10, .long l0_11, .int n0_12, .int n0_13, .int n0_14, .int n0_15, .ref a6, .ref a7, .ref a8, .ref a9, .ref a10, .ref a11, .ref a12, .ref a13, .int n0_24, .int n0_25, .int n0_26, .int n0_27, .ref a14, .int n0_29, .int n0_30])), (a6, .inl (ct 0, 5, .inl (ur7.2.1 0))), (a7, .inl (ct 0, 15, .inl (ur17.2.1 0))), (a9, .inl (ct 0, 1000, .inl f9))]) (w1 := (fun u : SU => [(a8, .inl (ct 0, 200, .inl (u.2.1 0)))])) (va_runS (As := [.ref a8, .int 40, .int p0, .int p1]) (rest := []) ⟨hx, hb, hml, hown, hts⟩ (a_X11_copyRow40 l G ct a8 f8 p0 p1 hp_p0 hp_p1 hp_f8) (va_cwS 4 hts gX11_copyCity_X11_copyRow rfl rfl rfl (by decide +kernel) ⟨Nat.le_of_ble_eq_true rfl, Nat.le_of_ble_eq_true rfl⟩) (wr_pre hK (hP.sub [3] rfl) (hD.sub [3] (by decide) rfl)) rfl rfl hl.1 rfl (lv_room (Nat.le_of_ble_eq_true rfl)) dX11_copyCity_28 ⟨Nat.zero_le _, Nat.zero_le _⟩) hS hP hD [3] [0, 1, 2, 4] rfl rfl (by decide) (fun _ => rfl) (fun ur28 H locs wr28 hP hD hS => ?_)
  have hP : va_P G vwCl [(a0, .inr (11, [.int n0_0, .ref a1, .ref a2, .ref a3, .ref a4, .ref a5, .int n0_6, .int n0_7, .int n0_8, .int n0_9, .int n0_10, .long l0_11, .int n0_12, .int n0_13, .int n0_14, .int n0_15, .ref a6, .ref a7, .ref a8, .ref a9, .ref a10, .ref a11, .ref a12, .ref a13, .int n0_24, .int n0_25, .int n0_26, .int n0_27, .ref a14, .int n0_29, .int n0_30])), (a6, .inl (ct 0, 5, .inl (ur7.2.1 0))), (a7, .inl (ct 0, 15, .inl (ur17.2.1 0))), (a8, .inl (ct 0, 200, .inl (ur28.2.1 0))), (a9, .inl (ct 0, 1000, .inl f9))] H := hP.sub [0, 1, 2, 4, 3] rfl
  have hD : va_D A [(a0, .inr (11, [.int n0_0, .ref a1, .ref a2, .ref a3, .ref a4, .ref a5, .int n0_6, .int n0_7, .int n0_8, .int n0_9, .int n0_10, .long l0_11, .int n0_12, .int n0_13, .int n0_14, .int n0_15, .ref a6, .ref a7, .ref a8, .ref a9, .ref a10, .ref a11, .ref a12, .ref a13, .int n0_24, .int n0_25, .int n0_26, .int n0_27, .ref a14, .int n0_29, .int n0_30])), (a6, .inl (ct 0, 5, .inl (ur7.2.1 0))), (a7, .inl (ct 0, 15, .inl (ur17.2.1 0))), (a8, .inl (ct 0, 200, .inl (ur28.2.1 0))), (a9, .inl (ct 0, 1000, .inl f9))] := hD.sub [0, 1, 2, 4, 3] (by decide) rfl
  obtain ⟨p_2, -⟩ := wr28
  refine lv_aload_n hx hb dX11_copyCity_31 rfl (lv_at hl 0 rfl) ?_
  refine va_get (D := G) (ci := 11) (v := .ref a9) (C := RX11) (T := TX11) (N := 31) hx hb hts (by decide +kernel) hown hK.1 hP 0 rfl rfl 19 (by decide) (hts (.fieldLink RX11 40 "CardHolderModel" "act" "[I") (by decide +kernel)) (fun _ h9 => h9) rfl dX11_copyCity_32 ?_
  refine lv_sipush (v := 200) hx hb dX11_copyCity_35 (by decide) ?_
  refine lv_iload_n hx hb dX11_copyCity_38 rfl (lv_at hl 1 rfl) ?_
  refine lv_iload_n hx hb dX11_copyCity_39 rfl (lv_at hl 2 rfl) ?_
  refine wj_callv (wr := [(a0, .inr (11, [.int n0_0, .ref a1, .ref a2, .ref a3, .ref a4, .ref a5, .int n0_6, .int n0_7, .int n0_8, .int n0_9, .int n0_10, .long l0_11, .int n0_12, .int n0_13, .int n0_14, .int n0_15, .ref a6, .ref a7, .ref a8, .ref a9, .ref a10, .ref a11, .ref a12, .ref a13, .int n0_24, .int n0_25, .int n0_26, .int n0_27, .ref a14, .int n0_29, .int n0_30])), (a6, .inl (ct 0, 5, .inl (ur7.2.1 0))), (a7, .inl (ct 0, 15, .inl (ur17.2.1 0))), (a8, .inl (ct 0, 200, .inl (ur28.2.1 0)))]) (w1 := (fun u : SU => [(a9, .inl (ct 0, 1000, .inl (u.2.1 0)))])) (va_runS (As := [.ref a9, .int 200, .int p0, .int p1]) (rest := []) ⟨hx, hb, hml, hown, hts⟩ (a_X11_copyRow200 l G ct a9 f9 p0 p1 hp_p0 hp_p1 hp_f9) (va_cwS 4 hts gX11_copyCity_X11_copyRow rfl rfl rfl (by decide +kernel) ⟨Nat.le_of_ble_eq_true rfl, Nat.le_of_ble_eq_true rfl⟩) (wr_pre hK (hP.sub [4] rfl) (hD.sub [4] (by decide) rfl)) rfl rfl hl.1 rfl (lv_room (Nat.le_of_ble_eq_true rfl)) dX11_copyCity_40 ⟨Nat.zero_le _, Nat.zero_le _⟩) hS hP hD [4] [0, 1, 2, 3] rfl rfl (by decide) (fun _ => rfl) (fun ur40 H locs wr40 hP hD hS => ?_)
  have hP : va_P G vwCl [(a0, .inr (11, [.int n0_0, .ref a1, .ref a2, .ref a3, .ref a4, .ref a5, .int n0_6, .int n0_7, .int n0_8, .int n0_9, .int n0_10, .long l0_11, .int n0_12, .int n0_13, .int n0_14, .int n0_15, .ref a6, .ref a7, .ref a8, .ref a9, .ref a10, .ref a11, .ref a12, .ref a13, .int n0_24, .int n0_25, .int n0_26, .int n0_27, .ref a14, .int n0_29, .int n0_30])), (a6, .inl (ct 0, 5, .inl (ur7.2.1 0))), (a7, .inl (ct 0, 15, .inl (ur17.2.1 0))), (a8, .inl (ct 0, 200, .inl (ur28.2.1 0))), (a9, .inl (ct 0, 1000, .inl (ur40.2.1 0)))] H := hP.sub [0, 1, 2, 3, 4] rfl
  have hD : va_D A [(a0, .inr (11, [.int n0_0, .ref a1, .ref a2, .ref a3, .ref a4, .ref a5, .int n0_6, .int n0_7, .int n0_8, .int n0_9, .int n0_10, .long l0_11, .int n0_12, .int n0_13, .int n0_14, .int n0_15, .ref a6, .ref a7, .ref a8, .ref a9, .ref a10, .ref a11, .ref a12, .ref a13, .int n0_24, .int n0_25, .int n0_26, .int n0_27, .ref a14, .int n0_29, .int n0_30])), (a6, .inl (ct 0, 5, .inl (ur7.2.1 0))), (a7, .inl (ct 0, 15, .inl (ur17.2.1 0))), (a8, .inl (ct 0, 200, .inl (ur28.2.1 0))), (a9, .inl (ct 0, 1000, .inl (ur40.2.1 0)))] := hD.sub [0, 1, 2, 3, 4] (by decide) rfl
  obtain ⟨p_3, -⟩ := wr40
  exact W.vret hx hb hr (fun t ht hW => ⟨⟨(fun k => ([] : List Int32).getD k 0, fun k => ([ur7.2.1 0, ur17.2.1 0, ur28.2.1 0, ur40.2.1 0] : List (Nat → Int32)).getD k (fun _ => 0), fun k => ([] : List (Nat → Int64)).getD k (fun _ => 0)), rfl, ⟨p_1, p_2, p_3, trivial⟩, hp_at ht hP⟩, hS.F ht⟩) hS.2.2 dX11_copyCity_43

set_option maxHeartbeats 4000000 in
set_option maxRecDepth 100000 in
theorem a_X11_image (l : Launch) (G : va_G) (ct : Nat → ClassId) (a0 : Nat) (n0_0 : Int32) (a1 : Nat) (a2 : Nat) (a3 : Nat) (a4 : Nat) (a5 : Nat) (n0_6 : Int32) (n0_7 : Int32) (n0_8 : Int32) (n0_9 : Int32) (n0_10 : Int32) (l0_11 : Int64) (n0_12 : Int32) (n0_13 : Int32) (n0_14 : Int32) (n0_15 : Int32) (a6 : Nat) (a7 : Nat) (a8 : Nat) (a9 : Nat) (a10 : Nat) (a11 : Nat) (a12 : Nat) (a13 : Nat) (n0_24 : Int32) (n0_25 : Int32) (n0_26 : Int32) (n0_27 : Int32) (a14 : Nat) (n0_29 : Int32) (n0_30 : Int32) (f6 : Nat → Int32) (f7 : Nat → Int32) (f8 : Nat → Int32) (f9 : Nat → Int32) (f10 : Nat → Int32) (p0 : Int32) (hp_n0_6 : rg 0 900 n0_6) (hp_f7 : hsI f7) (hp_f8 : psI f8) (hp_f9 : ar 0 7 f9) : Met l yX11_image wsX11_image ({ frames := 2, cells := 0, slots := 0, locals := 46 }) (va_Pc [.ref a0, .int p0] (wrP G ct [(a0, .inr (11, [.int n0_0, .ref a1, .ref a2, .ref a3, .ref a4, .ref a5, .int n0_6, .int n0_7, .int n0_8, .int n0_9, .int n0_10, .long l0_11, .int n0_12, .int n0_13, .int n0_14, .int n0_15, .ref a6, .ref a7, .ref a8, .ref a9, .ref a10, .ref a11, .ref a12, .ref a13, .int n0_24, .int n0_25, .int n0_26, .int n0_27, .ref a14, .int n0_29, .int n0_30])), (a6, .inl (ct 0, 5, .inl f6)), (a7, .inl (ct 0, 15, .inl f7)), (a8, .inl (ct 0, 200, .inl f8)), (a9, .inl (ct 0, 1000, .inl f9)), (a10, .inl (ct 2, 3, .inl f10))])) (va_Qi (fun (r : Int32) (u : SU) => rg (-2) 0 r ∧ (r = 0 → rg 0 2 p0) ∧ (¬ r = (-2) → rg 0 2 p0) ∧ hsI (u.2.1 1) ∧ psI (u.2.1 2) ∧ ar 0 7 (u.2.1 3) ∧ rg 0 0 (u.1 0) ∧ True) (fun u t => va_P G vwCl ((fun u : SU => [(a0, .inr (11, [.int (u.1 0), .ref a1, .ref a2, .ref a3, .ref a4, .ref a5, .int n0_6, .int n0_7, .int n0_8, .int n0_9, .int n0_10, .long l0_11, .int n0_12, .int n0_13, .int n0_14, .int n0_15, .ref a6, .ref a7, .ref a8, .ref a9, .ref a10, .ref a11, .ref a12, .ref a13, .int n0_24, .int n0_25, .int n0_26, .int n0_27, .ref a14, .int n0_29, .int n0_30])), (a6, .inl (ct 0, 5, .inl (u.2.1 0))), (a7, .inl (ct 0, 15, .inl (u.2.1 1))), (a8, .inl (ct 0, 200, .inl (u.2.1 2))), (a9, .inl (ct 0, 1000, .inl (u.2.1 3))), (a10, .inl (ct 2, 3, .inl (u.2.1 4)))]) u) t.heap) (aset [(a0, .inr (11, [.int n0_0, .ref a1, .ref a2, .ref a3, .ref a4, .ref a5, .int n0_6, .int n0_7, .int n0_8, .int n0_9, .int n0_10, .long l0_11, .int n0_12, .int n0_13, .int n0_14, .int n0_15, .ref a6, .ref a7, .ref a8, .ref a9, .ref a10, .ref a11, .ref a12, .ref a13, .int n0_24, .int n0_25, .int n0_26, .int n0_27, .ref a14, .int n0_29, .int n0_30])), (a6, .inl (ct 0, 5, .inl f6)), (a7, .inl (ct 0, 15, .inl f7)), (a8, .inl (ct 0, 200, .inl f8)), (a9, .inl (ct 0, 1000, .inl f9)), (a10, .inl (ct 2, 3, .inl f10))])) 0 0 (aset [(a0, .inr (11, [.int n0_0, .ref a1, .ref a2, .ref a3, .ref a4, .ref a5, .int n0_6, .int n0_7, .int n0_8, .int n0_9, .int n0_10, .long l0_11, .int n0_12, .int n0_13, .int n0_14, .int n0_15, .ref a6, .ref a7, .ref a8, .ref a9, .ref a10, .ref a11, .ref a12, .ref a13, .int n0_24, .int n0_25, .int n0_26, .int n0_27, .ref a14, .int n0_29, .int n0_30])), (a6, .inl (ct 0, 5, .inl f6)), (a7, .inl (ct 0, 15, .inl f7)), (a8, .inl (ct 0, 200, .inl f8)), (a9, .inl (ct 0, 1000, .inl f9)), (a10, .inl (ct 2, 3, .inl f10))]) := by
  refine Met.ofW (cc := cX11_image) (maxL := 2) (ret := (some .int)) (by decide) rfl ?_
  intro p e s m args below meth c s₁ B hml hv
  obtain ⟨rfl, hP, hK, hD0⟩ := hv
  have hx := B.exec
  have hb := B.bytes
  have hr := B.returns
  have hts := atoms_spec (ws := wsX11_image) B.pre
  have hown : s.vm.findClass RX11 = some m.cls := findClass_of_methodNamed B.named
  have hlocks := B.notSynchronized
  have hD := hD0.aself
  generalize hAe : aset [(a0, .inr (11, [.int n0_0, .ref a1, .ref a2, .ref a3, .ref a4, .ref a5, .int n0_6, .int n0_7, .int n0_8, .int n0_9, .int n0_10, .long l0_11, .int n0_12, .int n0_13, .int n0_14, .int n0_15, .ref a6, .ref a7, .ref a8, .ref a9, .ref a10, .ref a11, .ref a12, .ref a13, .int n0_24, .int n0_25, .int n0_26, .int n0_27, .ref a14, .int n0_29, .int n0_30])), (a6, .inl (ct 0, 5, .inl f6)), (a7, .inl (ct 0, 15, .inl f7)), (a8, .inl (ct 0, 200, .inl f8)), (a9, .inl (ct 0, 1000, .inl f9)), (a10, .inl (ct 2, 3, .inl f10))] = A at hD ⊢
  have hS : va_S A s.heap s.heap [] := va_S.rf
  have hl := lv_entry ([.ref a0, .int p0]) (n := 2) (Nat.le_of_ble_eq_true rfl)
  rw [lg_entry_eq]
  generalize (lg_sl ([.ref a0, .int p0]) ++ List.replicate (2 - (lg_sl ([.ref a0, .int p0])).length) Slot.unset).toArray = ls at hl ⊢
  have hl : lv_has ls 2 [(0, .ref a0), (1, .int p0)] := hl
  refine lv_aload_n hx hb dX11_image_0 rfl (lv_at hl 0 rfl) ?_
  refine lv_iconst (v := 0) hx hb dX11_image_1 (by decide) ?_
  refine va_put (D := G) (ci := 11) (v := .int 0) (ty := .int) (C := RX11) (T := TX11) (N := 31) hx hb hts (by decide +kernel) tyX11 tyX11_ok nmX11 hown hK.1 hP hD hS 0 rfl rfl 0 (by decide) (hts (.fieldLink RX11 59 "CardHolderModel" "thrown" "I") (by decide +kernel)) (fun _ h9 => h9) rfl (by decide +kernel) rfl rfl (Nat.le_of_ble_eq_true rfl) dX11_image_2 (fun H locs hP hD hS => ?_)
  refine lv_iload_n hx hb dX11_image_5 rfl (lv_at hl 1 rfl) ?_
  refine lv_i2l hx hb dX11_image_6 rfl ?_
  refine nl_i2l (rg_t p0) (fun z6 hz6 ez6 => ?_)
  refine lv_lconst (v := 0) hx hb dX11_image_7 (by decide) ?_
  refine lv_ldc2 (own := RX11) (v := 2) hx hb hown (hts (.constantLong RX11 408 (2)) (by decide +kernel)) dX11_image_8 ?_
  refine ro_calli (va_runS (As := [.long z6, .long 0, .long 2]) (rest := []) ⟨hx, hb, hml, hown, hts⟩ (a_X11_in l G ct z6 (0 : Int64) (2 : Int64)) (va_cwS 3 hts gX11_image_X11_in rfl rfl rfl (by decide +kernel) ⟨Nat.le_of_ble_eq_true rfl, Nat.le_of_ble_eq_true rfl⟩) (ro_pre hK (hP.sub [] rfl)) rfl rfl hl.1 rfl (lv_room (Nat.le_of_ble_eq_true rfl)) dX11_image_11 ⟨Nat.zero_le _, Nat.zero_le _⟩) hS hP (fun r11 H locs wr11 hP hS => ?_)
  obtain ⟨p_1, p_2, -⟩ := wr11
  refine lv_if_ne (tgt := 20) hx hb dX11_image_14 (by decide) (fun c14 => ?_) (fun c14 => ?_)
  · have h_3 : rg 1 1 r11 := r_ne_lo_i c14 p_1 (by decide) (by decide)
    have h_4 : rl 0 2 z6 := ((fun hq => in_im (p_2 hq) (rln 0 (x := 0) (by decide)) (rln 2 (x := 2) (by decide))) (rne h_3 (y := 0) (c := 0) (by decide) (by decide)))
    have h_5 : rg 0 2 p0 := bk_li (a := 0) (b := 2) ez6 h_4 (rg_t p0) (by decide)
    refine lv_aload_n hx hb dX11_image_20 rfl (lv_at hl 0 rfl) ?_
    refine lv_iconst (v := 0) hx hb dX11_image_21 (by decide) ?_
    refine lv_iconst (v := 1) hx hb dX11_image_22 (by decide) ?_
    refine lv_iload_n hx hb dX11_image_23 rfl (lv_at hl 1 rfl) ?_
    refine lv_iadd hx hb dX11_image_24 ?_
    refine nm_add (e1 := 1) (f := 3) (rgn 1 (x := 1) (by decide)) h_5 (by decide) (fun z24 hz24 ez24 => ?_)
    replace ez24 := eqc_l ez24 (c := 1) (by decide)
    refine wj_callv (wr := [(a10, .inl (ct 2, 3, .inl f10))]) (w1 := (fun u : SU => [(a0, .inr (11, [.int 0, .ref a1, .ref a2, .ref a3, .ref a4, .ref a5, .int n0_6, .int n0_7, .int n0_8, .int n0_9, .int n0_10, .long l0_11, .int n0_12, .int n0_13, .int n0_14, .int n0_15, .ref a6, .ref a7, .ref a8, .ref a9, .ref a10, .ref a11, .ref a12, .ref a13, .int n0_24, .int n0_25, .int n0_26, .int n0_27, .ref a14, .int n0_29, .int n0_30])), (a6, .inl (ct 0, 5, .inl (u.2.1 0))), (a7, .inl (ct 0, 15, .inl (u.2.1 1))), (a8, .inl (ct 0, 200, .inl (u.2.1 2))), (a9, .inl (ct 0, 1000, .inl (u.2.1 3)))])) (va_runV (As := [.int 0, .int z24]) (rest := []) ⟨hx, hb, hml, hown, hts⟩ (a_X11_copyCity l G ct a0 (0 : Int32) a1 a2 a3 a4 a5 n0_6 n0_7 n0_8 n0_9 n0_10 l0_11 n0_12 n0_13 n0_14 n0_15 a6 a7 a8 a9 a10 a11 a12 a13 n0_24 n0_25 n0_26 n0_27 a14 n0_29 n0_30 f6 f7 f8 f9 (0 : Int32) z24 hp_n0_6 hp_f7 hp_f8 hp_f9 (rg_w (c := 0) (d := 4) (rgn 0 (x := 0) (by decide)) (by decide)) (rg_w (c := 0) (d := 4) hz24 (by decide))) (cwV 2 hts gX11_image_X11_copyCity rfl rfl rfl (by decide +kernel) ⟨Nat.le_of_ble_eq_true rfl, Nat.le_of_ble_eq_true rfl⟩) (wr_preV 11 0 hK (hP.sub [0, 1, 2, 3, 4] rfl) (hD.sub [0, 1, 2, 3, 4] (by decide) rfl) rfl rfl) rfl rfl hl.1 rfl (lv_room (Nat.le_of_ble_eq_true rfl)) dX11_image_25 ⟨Nat.zero_le _, Nat.zero_le _⟩) hS hP hD [0, 1, 2, 3, 4] [5] rfl rfl (by decide) (fun _ => rfl) (fun ur25 H locs wr25 hP hD hS => ?_)
    have hP : va_P G vwCl [(a0, .inr (11, [.int 0, .ref a1, .ref a2, .ref a3, .ref a4, .ref a5, .int n0_6, .int n0_7, .int n0_8, .int n0_9, .int n0_10, .long l0_11, .int n0_12, .int n0_13, .int n0_14, .int n0_15, .ref a6, .ref a7, .ref a8, .ref a9, .ref a10, .ref a11, .ref a12, .ref a13, .int n0_24, .int n0_25, .int n0_26, .int n0_27, .ref a14, .int n0_29, .int n0_30])), (a6, .inl (ct 0, 5, .inl (ur25.2.1 0))), (a7, .inl (ct 0, 15, .inl (ur25.2.1 1))), (a8, .inl (ct 0, 200, .inl (ur25.2.1 2))), (a9, .inl (ct 0, 1000, .inl (ur25.2.1 3))), (a10, .inl (ct 2, 3, .inl f10))] H := hP.sub [1, 2, 3, 4, 5, 0] rfl
    have hD : va_D A [(a0, .inr (11, [.int 0, .ref a1, .ref a2, .ref a3, .ref a4, .ref a5, .int n0_6, .int n0_7, .int n0_8, .int n0_9, .int n0_10, .long l0_11, .int n0_12, .int n0_13, .int n0_14, .int n0_15, .ref a6, .ref a7, .ref a8, .ref a9, .ref a10, .ref a11, .ref a12, .ref a13, .int n0_24, .int n0_25, .int n0_26, .int n0_27, .ref a14, .int n0_29, .int n0_30])), (a6, .inl (ct 0, 5, .inl (ur25.2.1 0))), (a7, .inl (ct 0, 15, .inl (ur25.2.1 1))), (a8, .inl (ct 0, 200, .inl (ur25.2.1 2))), (a9, .inl (ct 0, 1000, .inl (ur25.2.1 3))), (a10, .inl (ct 2, 3, .inl f10))] := hD.sub [1, 2, 3, 4, 5, 0] (by decide) rfl
    obtain ⟨p_6, p_7, p_8, -⟩ := wr25
    refine lv_aload_n hx hb dX11_image_28 rfl (lv_at hl 0 rfl) ?_
    refine va_get (D := G) (ci := 11) (v := .ref a10) (C := RX11) (T := TX11) (N := 31) hx hb hts (by decide +kernel) hown hK.1 hP 0 rfl rfl 20 (by decide) (hts (.fieldLink RX11 43 "CardHolderModel" "isKept" "[Z") (by decide +kernel)) (fun _ h9 => h9) rfl dX11_image_29 ?_
    refine lv_iload_n hx hb dX11_image_32 rfl (lv_at hl 1 rfl) ?_
    refine lv_iconst (v := 1) hx hb dX11_image_33 (by decide) ?_
    refine va_zast hx hb hK.1 hP hD hS 5 2 rfl rfl (in_rg h_5 (by decide)) dX11_image_34 (fun H locs hP hD hS => ?_)
    refine lv_iconst (v := 0) hx hb dX11_image_35 (by decide) ?_
    exact W.iret (v := 0) hx hb hr (fun t ht hW => ⟨⟨0, (fun k => ([0] : List Int32).getD k 0, fun k => ([ur25.2.1 0, ur25.2.1 1, ur25.2.1 2, ur25.2.1 3, upd f10 p0.toNatClampNeg (vp_nar .boolean 1)] : List (Nat → Int32)).getD k (fun _ => 0), fun k => ([] : List (Nat → Int64)).getD k (fun _ => 0)), rfl, ⟨(rg_w (c := (-2)) (d := 0) (rgn 0 (x := 0) (by decide)) (by decide)), (fun _ => h_5), (fun _ => h_5), p_6, p_7, p_8, (rgn 0 (x := 0) (by decide)), trivial⟩, hp_at ht hP⟩, hS.F ht⟩) hS.2.2 dX11_image_36
  · have h_9 : rg 0 0 r11 := r_eq_l_i (e := 0) (f := 0) c14 p_1 (rgn 0 (x := 0) (by decide)) (by decide)
    refine lv_bipush (v := (-2)) hx hb dX11_image_17 (by decide) ?_
    exact W.iret (v := (-2)) hx hb hr (fun t ht hW => ⟨⟨(-2), (fun k => ([0] : List Int32).getD k 0, fun k => ([f6, f7, f8, f9, f10] : List (Nat → Int32)).getD k (fun _ => 0), fun k => ([] : List (Nat → Int64)).getD k (fun _ => 0)), rfl, ⟨(rg_w (c := (-2)) (d := 0) (rgn (-2) (x := (-2)) (by decide)) (by decide)), (fun hq => absurd hq (rne (rgn (-2) (x := (-2)) (by decide)) (y := 0) (c := 0) (by decide) (by decide))), (fun hq => absurd (req (rgn (-2) (x := (-2)) (by decide)) (y := (-2)) (by decide)) hq), hp_f7, hp_f8, hp_f9, (rgn 0 (x := 0) (by decide)), trivial⟩, hp_at ht hP⟩, hS.F ht⟩) hS.2.2 dX11_image_19

set_option maxHeartbeats 4000000 in
set_option maxRecDepth 100000 in
theorem a_X11_back (l : Launch) (G : va_G) (ct : Nat → ClassId) (a0 : Nat) (n0_0 : Int32) (a1 : Nat) (a2 : Nat) (a3 : Nat) (a4 : Nat) (a5 : Nat) (n0_6 : Int32) (n0_7 : Int32) (n0_8 : Int32) (n0_9 : Int32) (n0_10 : Int32) (l0_11 : Int64) (n0_12 : Int32) (n0_13 : Int32) (n0_14 : Int32) (n0_15 : Int32) (a6 : Nat) (a7 : Nat) (a8 : Nat) (a9 : Nat) (a10 : Nat) (a11 : Nat) (a12 : Nat) (a13 : Nat) (n0_24 : Int32) (n0_25 : Int32) (n0_26 : Int32) (n0_27 : Int32) (a14 : Nat) (n0_29 : Int32) (n0_30 : Int32) (f6 : Nat → Int32) (f7 : Nat → Int32) (f8 : Nat → Int32) (f9 : Nat → Int32) (f10 : Nat → Int32) (p0 : Int32) (hp_n0_6 : rg 0 900 n0_6) (hp_f7 : hsI f7) (hp_f8 : psI f8) (hp_f9 : ar 0 7 f9) : Met l yX11_back wsX11_back ({ frames := 2, cells := 0, slots := 0, locals := 46 }) (va_Pc [.ref a0, .int p0] (wrP G ct [(a0, .inr (11, [.int n0_0, .ref a1, .ref a2, .ref a3, .ref a4, .ref a5, .int n0_6, .int n0_7, .int n0_8, .int n0_9, .int n0_10, .long l0_11, .int n0_12, .int n0_13, .int n0_14, .int n0_15, .ref a6, .ref a7, .ref a8, .ref a9, .ref a10, .ref a11, .ref a12, .ref a13, .int n0_24, .int n0_25, .int n0_26, .int n0_27, .ref a14, .int n0_29, .int n0_30])), (a6, .inl (ct 0, 5, .inl f6)), (a7, .inl (ct 0, 15, .inl f7)), (a8, .inl (ct 0, 200, .inl f8)), (a9, .inl (ct 0, 1000, .inl f9)), (a10, .inl (ct 2, 3, .inl f10))])) (va_Qi (fun (r : Int32) (u : SU) => rg (-6) 0 r ∧ (r = 0 → rg 0 2 p0) ∧ (¬ r = (-2) → rg 0 2 p0) ∧ hsI (u.2.1 1) ∧ psI (u.2.1 2) ∧ ar 0 7 (u.2.1 3) ∧ rg 0 0 (u.1 0) ∧ True) (fun u t => va_P G vwCl ((fun u : SU => [(a0, .inr (11, [.int (u.1 0), .ref a1, .ref a2, .ref a3, .ref a4, .ref a5, .int n0_6, .int n0_7, .int n0_8, .int n0_9, .int n0_10, .long l0_11, .int n0_12, .int n0_13, .int n0_14, .int n0_15, .ref a6, .ref a7, .ref a8, .ref a9, .ref a10, .ref a11, .ref a12, .ref a13, .int n0_24, .int n0_25, .int n0_26, .int n0_27, .ref a14, .int n0_29, .int n0_30])), (a6, .inl (ct 0, 5, .inl (u.2.1 0))), (a7, .inl (ct 0, 15, .inl (u.2.1 1))), (a8, .inl (ct 0, 200, .inl (u.2.1 2))), (a9, .inl (ct 0, 1000, .inl (u.2.1 3))), (a10, .inl (ct 2, 3, .inl f10))]) u) t.heap) (aset [(a0, .inr (11, [.int n0_0, .ref a1, .ref a2, .ref a3, .ref a4, .ref a5, .int n0_6, .int n0_7, .int n0_8, .int n0_9, .int n0_10, .long l0_11, .int n0_12, .int n0_13, .int n0_14, .int n0_15, .ref a6, .ref a7, .ref a8, .ref a9, .ref a10, .ref a11, .ref a12, .ref a13, .int n0_24, .int n0_25, .int n0_26, .int n0_27, .ref a14, .int n0_29, .int n0_30])), (a6, .inl (ct 0, 5, .inl f6)), (a7, .inl (ct 0, 15, .inl f7)), (a8, .inl (ct 0, 200, .inl f8)), (a9, .inl (ct 0, 1000, .inl f9)), (a10, .inl (ct 2, 3, .inl f10))])) 0 0 (aset [(a0, .inr (11, [.int n0_0, .ref a1, .ref a2, .ref a3, .ref a4, .ref a5, .int n0_6, .int n0_7, .int n0_8, .int n0_9, .int n0_10, .long l0_11, .int n0_12, .int n0_13, .int n0_14, .int n0_15, .ref a6, .ref a7, .ref a8, .ref a9, .ref a10, .ref a11, .ref a12, .ref a13, .int n0_24, .int n0_25, .int n0_26, .int n0_27, .ref a14, .int n0_29, .int n0_30])), (a6, .inl (ct 0, 5, .inl f6)), (a7, .inl (ct 0, 15, .inl f7)), (a8, .inl (ct 0, 200, .inl f8)), (a9, .inl (ct 0, 1000, .inl f9)), (a10, .inl (ct 2, 3, .inl f10))]) := by
  refine Met.ofW (cc := cX11_back) (maxL := 2) (ret := (some .int)) (by decide) rfl ?_
  intro p e s m args below meth c s₁ B hml hv
  obtain ⟨rfl, hP, hK, hD0⟩ := hv
  have hx := B.exec
  have hb := B.bytes
  have hr := B.returns
  have hts := atoms_spec (ws := wsX11_back) B.pre
  have hown : s.vm.findClass RX11 = some m.cls := findClass_of_methodNamed B.named
  have hlocks := B.notSynchronized
  have hD := hD0.aself
  generalize hAe : aset [(a0, .inr (11, [.int n0_0, .ref a1, .ref a2, .ref a3, .ref a4, .ref a5, .int n0_6, .int n0_7, .int n0_8, .int n0_9, .int n0_10, .long l0_11, .int n0_12, .int n0_13, .int n0_14, .int n0_15, .ref a6, .ref a7, .ref a8, .ref a9, .ref a10, .ref a11, .ref a12, .ref a13, .int n0_24, .int n0_25, .int n0_26, .int n0_27, .ref a14, .int n0_29, .int n0_30])), (a6, .inl (ct 0, 5, .inl f6)), (a7, .inl (ct 0, 15, .inl f7)), (a8, .inl (ct 0, 200, .inl f8)), (a9, .inl (ct 0, 1000, .inl f9)), (a10, .inl (ct 2, 3, .inl f10))] = A at hD ⊢
  have hS : va_S A s.heap s.heap [] := va_S.rf
  have hl := lv_entry ([.ref a0, .int p0]) (n := 2) (Nat.le_of_ble_eq_true rfl)
  rw [lg_entry_eq]
  generalize (lg_sl ([.ref a0, .int p0]) ++ List.replicate (2 - (lg_sl ([.ref a0, .int p0])).length) Slot.unset).toArray = ls at hl ⊢
  have hl : lv_has ls 2 [(0, .ref a0), (1, .int p0)] := hl
  refine lv_aload_n hx hb dX11_back_0 rfl (lv_at hl 0 rfl) ?_
  refine lv_iconst (v := 0) hx hb dX11_back_1 (by decide) ?_
  refine va_put (D := G) (ci := 11) (v := .int 0) (ty := .int) (C := RX11) (T := TX11) (N := 31) hx hb hts (by decide +kernel) tyX11 tyX11_ok nmX11 hown hK.1 hP hD hS 0 rfl rfl 0 (by decide) (hts (.fieldLink RX11 59 "CardHolderModel" "thrown" "I") (by decide +kernel)) (fun _ h9 => h9) rfl (by decide +kernel) rfl rfl (Nat.le_of_ble_eq_true rfl) dX11_back_2 (fun H locs hP hD hS => ?_)
  refine lv_iload_n hx hb dX11_back_5 rfl (lv_at hl 1 rfl) ?_
  refine lv_i2l hx hb dX11_back_6 rfl ?_
  refine nl_i2l (rg_t p0) (fun z6 hz6 ez6 => ?_)
  refine lv_lconst (v := 0) hx hb dX11_back_7 (by decide) ?_
  refine lv_ldc2 (own := RX11) (v := 2) hx hb hown (hts (.constantLong RX11 408 (2)) (by decide +kernel)) dX11_back_8 ?_
  refine ro_calli (va_runS (As := [.long z6, .long 0, .long 2]) (rest := []) ⟨hx, hb, hml, hown, hts⟩ (a_X11_in l G ct z6 (0 : Int64) (2 : Int64)) (va_cwS 3 hts gX11_back_X11_in rfl rfl rfl (by decide +kernel) ⟨Nat.le_of_ble_eq_true rfl, Nat.le_of_ble_eq_true rfl⟩) (ro_pre hK (hP.sub [] rfl)) rfl rfl hl.1 rfl (lv_room (Nat.le_of_ble_eq_true rfl)) dX11_back_11 ⟨Nat.zero_le _, Nat.zero_le _⟩) hS hP (fun r11 H locs wr11 hP hS => ?_)
  obtain ⟨p_1, p_2, -⟩ := wr11
  refine lv_if_ne (tgt := 20) hx hb dX11_back_14 (by decide) (fun c14 => ?_) (fun c14 => ?_)
  · have h_3 : rg 1 1 r11 := r_ne_lo_i c14 p_1 (by decide) (by decide)
    have h_4 : rl 0 2 z6 := ((fun hq => in_im (p_2 hq) (rln 0 (x := 0) (by decide)) (rln 2 (x := 2) (by decide))) (rne h_3 (y := 0) (c := 0) (by decide) (by decide)))
    have h_5 : rg 0 2 p0 := bk_li (a := 0) (b := 2) ez6 h_4 (rg_t p0) (by decide)
    refine lv_aload_n hx hb dX11_back_20 rfl (lv_at hl 0 rfl) ?_
    refine va_get (D := G) (ci := 11) (v := .ref a10) (C := RX11) (T := TX11) (N := 31) hx hb hts (by decide +kernel) hown hK.1 hP 0 rfl rfl 20 (by decide) (hts (.fieldLink RX11 43 "CardHolderModel" "isKept" "[Z") (by decide +kernel)) (fun _ h9 => h9) rfl dX11_back_21 ?_
    refine lv_iload_n hx hb dX11_back_24 rfl (lv_at hl 1 rfl) ?_
    refine va_zald hx hb hK.1 hP 5 2 rfl rfl (in_rg h_5 (by decide)) dX11_back_25 ?_
    refine lv_topi (fun z25 gz25 => ?_)
    refine lv_if_ne (tgt := 32) hx hb dX11_back_26 (by decide) (fun c26 => ?_) (fun c26 => ?_)
    · refine lv_aload_n hx hb dX11_back_32 rfl (lv_at hl 0 rfl) ?_
      refine lv_iconst (v := 1) hx hb dX11_back_33 (by decide) ?_
      refine lv_iload_n hx hb dX11_back_34 rfl (lv_at hl 1 rfl) ?_
      refine lv_iadd hx hb dX11_back_35 ?_
      refine nm_add (e1 := 1) (f := 3) (rgn 1 (x := 1) (by decide)) h_5 (by decide) (fun z35 hz35 ez35 => ?_)
      replace ez35 := eqc_l ez35 (c := 1) (by decide)
      refine lv_iconst (v := 0) hx hb dX11_back_36 (by decide) ?_
      refine wj_callv (wr := [(a10, .inl (ct 2, 3, .inl f10))]) (w1 := (fun u : SU => [(a0, .inr (11, [.int 0, .ref a1, .ref a2, .ref a3, .ref a4, .ref a5, .int n0_6, .int n0_7, .int n0_8, .int n0_9, .int n0_10, .long l0_11, .int n0_12, .int n0_13, .int n0_14, .int n0_15, .ref a6, .ref a7, .ref a8, .ref a9, .ref a10, .ref a11, .ref a12, .ref a13, .int n0_24, .int n0_25, .int n0_26, .int n0_27, .ref a14, .int n0_29, .int n0_30])), (a6, .inl (ct 0, 5, .inl (u.2.1 0))), (a7, .inl (ct 0, 15, .inl (u.2.1 1))), (a8, .inl (ct 0, 200, .inl (u.2.1 2))), (a9, .inl (ct 0, 1000, .inl (u.2.1 3)))])) (va_runV (As := [.int z35, .int 0]) (rest := []) ⟨hx, hb, hml, hown, hts⟩ (a_X11_copyCity l G ct a0 (0 : Int32) a1 a2 a3 a4 a5 n0_6 n0_7 n0_8 n0_9 n0_10 l0_11 n0_12 n0_13 n0_14 n0_15 a6 a7 a8 a9 a10 a11 a12 a13 n0_24 n0_25 n0_26 n0_27 a14 n0_29 n0_30 f6 f7 f8 f9 z35 (0 : Int32) hp_n0_6 hp_f7 hp_f8 hp_f9 (rg_w (c := 0) (d := 4) hz35 (by decide)) (rg_w (c := 0) (d := 4) (rgn 0 (x := 0) (by decide)) (by decide))) (cwV 2 hts gX11_back_X11_copyCity rfl rfl rfl (by decide +kernel) ⟨Nat.le_of_ble_eq_true rfl, Nat.le_of_ble_eq_true rfl⟩) (wr_preV 11 0 hK (hP.sub [0, 1, 2, 3, 4] rfl) (hD.sub [0, 1, 2, 3, 4] (by decide) rfl) rfl rfl) rfl rfl hl.1 rfl (lv_room (Nat.le_of_ble_eq_true rfl)) dX11_back_37 ⟨Nat.zero_le _, Nat.zero_le _⟩) hS hP hD [0, 1, 2, 3, 4] [5] rfl rfl (by decide) (fun _ => rfl) (fun ur37 H locs wr37 hP hD hS => ?_)
      have hP : va_P G vwCl [(a0, .inr (11, [.int 0, .ref a1, .ref a2, .ref a3, .ref a4, .ref a5, .int n0_6, .int n0_7, .int n0_8, .int n0_9, .int n0_10, .long l0_11, .int n0_12, .int n0_13, .int n0_14, .int n0_15, .ref a6, .ref a7, .ref a8, .ref a9, .ref a10, .ref a11, .ref a12, .ref a13, .int n0_24, .int n0_25, .int n0_26, .int n0_27, .ref a14, .int n0_29, .int n0_30])), (a6, .inl (ct 0, 5, .inl (ur37.2.1 0))), (a7, .inl (ct 0, 15, .inl (ur37.2.1 1))), (a8, .inl (ct 0, 200, .inl (ur37.2.1 2))), (a9, .inl (ct 0, 1000, .inl (ur37.2.1 3))), (a10, .inl (ct 2, 3, .inl f10))] H := hP.sub [1, 2, 3, 4, 5, 0] rfl
      have hD : va_D A [(a0, .inr (11, [.int 0, .ref a1, .ref a2, .ref a3, .ref a4, .ref a5, .int n0_6, .int n0_7, .int n0_8, .int n0_9, .int n0_10, .long l0_11, .int n0_12, .int n0_13, .int n0_14, .int n0_15, .ref a6, .ref a7, .ref a8, .ref a9, .ref a10, .ref a11, .ref a12, .ref a13, .int n0_24, .int n0_25, .int n0_26, .int n0_27, .ref a14, .int n0_29, .int n0_30])), (a6, .inl (ct 0, 5, .inl (ur37.2.1 0))), (a7, .inl (ct 0, 15, .inl (ur37.2.1 1))), (a8, .inl (ct 0, 200, .inl (ur37.2.1 2))), (a9, .inl (ct 0, 1000, .inl (ur37.2.1 3))), (a10, .inl (ct 2, 3, .inl f10))] := hD.sub [1, 2, 3, 4, 5, 0] (by decide) rfl
      obtain ⟨p_6, p_7, p_8, -⟩ := wr37
      refine lv_iconst (v := 0) hx hb dX11_back_40 (by decide) ?_
      exact W.iret (v := 0) hx hb hr (fun t ht hW => ⟨⟨0, (fun k => ([0] : List Int32).getD k 0, fun k => ([ur37.2.1 0, ur37.2.1 1, ur37.2.1 2, ur37.2.1 3] : List (Nat → Int32)).getD k (fun _ => 0), fun k => ([] : List (Nat → Int64)).getD k (fun _ => 0)), rfl, ⟨(rg_w (c := (-6)) (d := 0) (rgn 0 (x := 0) (by decide)) (by decide)), (fun _ => h_5), (fun _ => h_5), p_6, p_7, p_8, (rgn 0 (x := 0) (by decide)), trivial⟩, hp_at ht hP⟩, hS.F ht⟩) hS.2.2 dX11_back_41
    · have h_9 : rg 0 0 z25 := r_eq_l_i (e := 0) (f := 0) c26 (rg_t z25) (rgn 0 (x := 0) (by decide)) (by decide)
      refine lv_bipush (v := (-6)) hx hb dX11_back_29 (by decide) ?_
      exact W.iret (v := (-6)) hx hb hr (fun t ht hW => ⟨⟨(-6), (fun k => ([0] : List Int32).getD k 0, fun k => ([f6, f7, f8, f9] : List (Nat → Int32)).getD k (fun _ => 0), fun k => ([] : List (Nat → Int64)).getD k (fun _ => 0)), rfl, ⟨(rg_w (c := (-6)) (d := 0) (rgn (-6) (x := (-6)) (by decide)) (by decide)), (fun _ => h_5), (fun _ => h_5), hp_f7, hp_f8, hp_f9, (rgn 0 (x := 0) (by decide)), trivial⟩, hp_at ht hP⟩, hS.F ht⟩) hS.2.2 dX11_back_31
  · have h_10 : rg 0 0 r11 := r_eq_l_i (e := 0) (f := 0) c14 p_1 (rgn 0 (x := 0) (by decide)) (by decide)
    refine lv_bipush (v := (-2)) hx hb dX11_back_17 (by decide) ?_
    exact W.iret (v := (-2)) hx hb hr (fun t ht hW => ⟨⟨(-2), (fun k => ([0] : List Int32).getD k 0, fun k => ([f6, f7, f8, f9] : List (Nat → Int32)).getD k (fun _ => 0), fun k => ([] : List (Nat → Int64)).getD k (fun _ => 0)), rfl, ⟨(rg_w (c := (-6)) (d := 0) (rgn (-2) (x := (-2)) (by decide)) (by decide)), (fun hq => absurd hq (rne (rgn (-2) (x := (-2)) (by decide)) (y := 0) (c := 0) (by decide) (by decide))), (fun hq => absurd (req (rgn (-2) (x := (-2)) (by decide)) (y := (-2)) (by decide)) hq), hp_f7, hp_f8, hp_f9, (rgn 0 (x := 0) (by decide)), trivial⟩, hp_at ht hP⟩, hS.F ht⟩) hS.2.2 dX11_back_19

set_option maxHeartbeats 4000000 in
set_option maxRecDepth 100000 in
theorem a_X11_four (l : Launch) (G : va_G) (ct : Nat → ClassId) (a0 : Nat) (n0_0 : Int32) (a1 : Nat) (a2 : Nat) (a3 : Nat) (a4 : Nat) (a5 : Nat) (n0_6 : Int32) (n0_7 : Int32) (n0_8 : Int32) (n0_9 : Int32) (n0_10 : Int32) (l0_11 : Int64) (n0_12 : Int32) (n0_13 : Int32) (n0_14 : Int32) (n0_15 : Int32) (a6 : Nat) (a7 : Nat) (a8 : Nat) (a9 : Nat) (a10 : Nat) (a11 : Nat) (a12 : Nat) (a13 : Nat) (n0_24 : Int32) (n0_25 : Int32) (n0_26 : Int32) (n0_27 : Int32) (a14 : Nat) (n0_29 : Int32) (n0_30 : Int32) (f5 : Nat → Int32) (p0 : Int32) (hp_n0_6 : rg 0 896 n0_6) : Met l yX11_four wsX11_four ({ frames := 0, cells := 0, slots := 0, locals := 0 }) (va_Pc [.ref a0, .int p0] (wrP G ct [(a0, .inr (11, [.int n0_0, .ref a1, .ref a2, .ref a3, .ref a4, .ref a5, .int n0_6, .int n0_7, .int n0_8, .int n0_9, .int n0_10, .long l0_11, .int n0_12, .int n0_13, .int n0_14, .int n0_15, .ref a6, .ref a7, .ref a8, .ref a9, .ref a10, .ref a11, .ref a12, .ref a13, .int n0_24, .int n0_25, .int n0_26, .int n0_27, .ref a14, .int n0_29, .int n0_30])), (a5, .inl (ct 1, 900, .inl f5))])) (va_Qv (fun u : SU => rg 4 900 (u.1 0) ∧ (u.1 0).toInt = n0_6.toInt + 4 ∧ True) (fun u t => va_P G vwCl ((fun u : SU => [(a0, .inr (11, [.int n0_0, .ref a1, .ref a2, .ref a3, .ref a4, .ref a5, .int (u.1 0), .int n0_7, .int n0_8, .int n0_9, .int n0_10, .long l0_11, .int n0_12, .int n0_13, .int n0_14, .int n0_15, .ref a6, .ref a7, .ref a8, .ref a9, .ref a10, .ref a11, .ref a12, .ref a13, .int n0_24, .int n0_25, .int n0_26, .int n0_27, .ref a14, .int n0_29, .int n0_30])), (a5, .inl (ct 1, 900, .inl (u.2.1 0)))]) u) t.heap) (aset [(a0, .inr (11, [.int n0_0, .ref a1, .ref a2, .ref a3, .ref a4, .ref a5, .int n0_6, .int n0_7, .int n0_8, .int n0_9, .int n0_10, .long l0_11, .int n0_12, .int n0_13, .int n0_14, .int n0_15, .ref a6, .ref a7, .ref a8, .ref a9, .ref a10, .ref a11, .ref a12, .ref a13, .int n0_24, .int n0_25, .int n0_26, .int n0_27, .ref a14, .int n0_29, .int n0_30])), (a5, .inl (ct 1, 900, .inl f5))])) 0 0 (aset [(a0, .inr (11, [.int n0_0, .ref a1, .ref a2, .ref a3, .ref a4, .ref a5, .int n0_6, .int n0_7, .int n0_8, .int n0_9, .int n0_10, .long l0_11, .int n0_12, .int n0_13, .int n0_14, .int n0_15, .ref a6, .ref a7, .ref a8, .ref a9, .ref a10, .ref a11, .ref a12, .ref a13, .int n0_24, .int n0_25, .int n0_26, .int n0_27, .ref a14, .int n0_29, .int n0_30])), (a5, .inl (ct 1, 900, .inl f5))]) := by
  refine Met.ofW (cc := cX11_four) (maxL := 3) (ret := none) (by decide) rfl ?_
  intro p e s m args below meth c s₁ B hml hv
  obtain ⟨rfl, hP, hK, hD0⟩ := hv
  have hx := B.exec
  have hb := B.bytes
  have hr := B.returns
  have hts := atoms_spec (ws := wsX11_four) B.pre
  have hown : s.vm.findClass RX11 = some m.cls := findClass_of_methodNamed B.named
  have hlocks := B.notSynchronized
  have hD := hD0.aself
  generalize hAe : aset [(a0, .inr (11, [.int n0_0, .ref a1, .ref a2, .ref a3, .ref a4, .ref a5, .int n0_6, .int n0_7, .int n0_8, .int n0_9, .int n0_10, .long l0_11, .int n0_12, .int n0_13, .int n0_14, .int n0_15, .ref a6, .ref a7, .ref a8, .ref a9, .ref a10, .ref a11, .ref a12, .ref a13, .int n0_24, .int n0_25, .int n0_26, .int n0_27, .ref a14, .int n0_29, .int n0_30])), (a5, .inl (ct 1, 900, .inl f5))] = A at hD ⊢
  have hS : va_S A s.heap s.heap [] := va_S.rf
  have hl := lv_entry ([.ref a0, .int p0]) (n := 3) (Nat.le_of_ble_eq_true rfl)
  rw [lg_entry_eq]
  generalize (lg_sl ([.ref a0, .int p0]) ++ List.replicate (3 - (lg_sl ([.ref a0, .int p0])).length) Slot.unset).toArray = ls at hl ⊢
  have hl : lv_has ls 3 [(0, .ref a0), (1, .int p0)] := hl
  refine lv_bipush (v := 24) hx hb dX11_four_0 (by decide) ?_
  refine lv_istore_n (lv' := [(2, .int 24), (0, .ref a0), (1, .int p0)]) hx hb dX11_four_2 rfl hl (by decide) rfl (fun ls hl => ?_)
  refine lv_iload_n hx hb dX11_four_3 rfl (lv_at hl 0 rfl) ?_
  refine lv_if_lt (tgt := 36) hx hb dX11_four_4 (by decide) (fun c4 => ?_) (fun c4 => ?_)
  · exact absurd c4 (by decide)
  · refine lv_aload_n hx hb dX11_four_7 rfl (lv_at hl 1 rfl) ?_
    refine va_get (D := G) (ci := 11) (v := .ref a5) (C := RX11) (T := TX11) (N := 31) hx hb hts (by decide +kernel) hown hK.1 hP 0 rfl rfl 5 (by decide) (hts (.fieldLink RX11 23 "CardHolderModel" "tape" "[B") (by decide +kernel)) (fun _ h9 => h9) rfl dX11_four_8 ?_
    refine lv_aload_n hx hb dX11_four_11 rfl (lv_at hl 1 rfl) ?_
    refine va_get (D := G) (ci := 11) (v := .int n0_6) (C := RX11) (T := TX11) (N := 31) hx hb hts (by decide +kernel) hown hK.1 hP 0 rfl rfl 6 (by decide) (hts (.fieldLink RX11 76 "CardHolderModel" "taped" "I") (by decide +kernel)) (fun _ h9 => h9) rfl dX11_four_12 ?_
    refine lv_iload_n hx hb dX11_four_15 rfl (lv_at hl 2 rfl) ?_
    refine lv_iload_n hx hb dX11_four_16 rfl (lv_at hl 0 rfl) ?_
    refine lv_ishr hx hb dX11_four_17 ?_
    refine nm_0 (fun z17 => ?_)
    refine lv_i2b hx hb dX11_four_18 rfl ?_
    refine nm_0 (fun z18 => ?_)
    refine va_bast hx hb hK.1 hP hD hS 1 1 rfl rfl (in_rg hp_n0_6 (by decide)) dX11_four_19 (fun H locs hP hD hS => ?_)
    refine lv_aload_n hx hb dX11_four_20 rfl (lv_at hl 1 rfl) ?_
    refine lv_dup hx hb dX11_four_21 rfl ?_
    refine va_get (D := G) (ci := 11) (v := .int n0_6) (C := RX11) (T := TX11) (N := 31) hx hb hts (by decide +kernel) hown hK.1 hP 0 rfl rfl 6 (by decide) (hts (.fieldLink RX11 76 "CardHolderModel" "taped" "I") (by decide +kernel)) (fun _ h9 => h9) rfl dX11_four_22 ?_
    refine lv_iconst (v := 1) hx hb dX11_four_25 (by decide) ?_
    refine lv_iadd hx hb dX11_four_26 ?_
    refine nm_add (e1 := 1) (f := 897) hp_n0_6 (rgn 1 (x := 1) (by decide)) (by decide) (fun z26 hz26 ez26 => ?_)
    replace ez26 := eqc_r ez26 (c := 1) (by decide)
    refine va_put (D := G) (ci := 11) (v := .int z26) (ty := .int) (C := RX11) (T := TX11) (N := 31) hx hb hts (by decide +kernel) tyX11 tyX11_ok nmX11 hown hK.1 hP hD hS 0 rfl rfl 6 (by decide) (hts (.fieldLink RX11 76 "CardHolderModel" "taped" "I") (by decide +kernel)) (fun _ h9 => h9) rfl (by decide +kernel) rfl rfl (Nat.le_of_ble_eq_true rfl) dX11_four_27 (fun H locs hP hD hS => ?_)
    refine lv_iinc (v := 16) (lv' := [(2, .int 16), (0, .ref a0), (1, .int p0)]) hx hb dX11_four_30 hl (k := 0) rfl (by decide) (by decide) rfl (fun ls hl => ?_)
    refine lv_goto (tgt := 3) hx hb dX11_four_33 (by decide) ?_
    refine lv_iload_n hx hb dX11_four_3 rfl (lv_at hl 0 rfl) ?_
    refine lv_if_lt (tgt := 36) hx hb dX11_four_4 (by decide) (fun c4_2 => ?_) (fun c4_2 => ?_)
    · exact absurd c4_2 (by decide)
    · refine lv_aload_n hx hb dX11_four_7 rfl (lv_at hl 1 rfl) ?_
      refine va_get (D := G) (ci := 11) (v := .ref a5) (C := RX11) (T := TX11) (N := 31) hx hb hts (by decide +kernel) hown hK.1 hP 0 rfl rfl 5 (by decide) (hts (.fieldLink RX11 23 "CardHolderModel" "tape" "[B") (by decide +kernel)) (fun _ h9 => h9) rfl dX11_four_8 ?_
      refine lv_aload_n hx hb dX11_four_11 rfl (lv_at hl 1 rfl) ?_
      refine va_get (D := G) (ci := 11) (v := .int z26) (C := RX11) (T := TX11) (N := 31) hx hb hts (by decide +kernel) hown hK.1 hP 0 rfl rfl 6 (by decide) (hts (.fieldLink RX11 76 "CardHolderModel" "taped" "I") (by decide +kernel)) (fun _ h9 => h9) rfl dX11_four_12 ?_
      refine lv_iload_n hx hb dX11_four_15 rfl (lv_at hl 2 rfl) ?_
      refine lv_iload_n hx hb dX11_four_16 rfl (lv_at hl 0 rfl) ?_
      refine lv_ishr hx hb dX11_four_17 ?_
      refine nm_0 (fun z17_2 => ?_)
      refine lv_i2b hx hb dX11_four_18 rfl ?_
      refine nm_0 (fun z18_2 => ?_)
      refine va_bast hx hb hK.1 hP hD hS 1 1 rfl rfl (in_rg hz26 (by decide)) dX11_four_19 (fun H locs hP hD hS => ?_)
      refine lv_aload_n hx hb dX11_four_20 rfl (lv_at hl 1 rfl) ?_
      refine lv_dup hx hb dX11_four_21 rfl ?_
      refine va_get (D := G) (ci := 11) (v := .int z26) (C := RX11) (T := TX11) (N := 31) hx hb hts (by decide +kernel) hown hK.1 hP 0 rfl rfl 6 (by decide) (hts (.fieldLink RX11 76 "CardHolderModel" "taped" "I") (by decide +kernel)) (fun _ h9 => h9) rfl dX11_four_22 ?_
      refine lv_iconst (v := 1) hx hb dX11_four_25 (by decide) ?_
      refine lv_iadd hx hb dX11_four_26 ?_
      refine nm_add (e1 := 2) (f := 898) hz26 (rgn 1 (x := 1) (by decide)) (by decide) (fun z26_2 hz26_2 ez26_2 => ?_)
      replace ez26_2 := eqc_r ez26_2 (c := 1) (by decide)
      refine va_put (D := G) (ci := 11) (v := .int z26_2) (ty := .int) (C := RX11) (T := TX11) (N := 31) hx hb hts (by decide +kernel) tyX11 tyX11_ok nmX11 hown hK.1 hP hD hS 0 rfl rfl 6 (by decide) (hts (.fieldLink RX11 76 "CardHolderModel" "taped" "I") (by decide +kernel)) (fun _ h9 => h9) rfl (by decide +kernel) rfl rfl (Nat.le_of_ble_eq_true rfl) dX11_four_27 (fun H locs hP hD hS => ?_)
      refine lv_iinc (v := 8) (lv' := [(2, .int 8), (0, .ref a0), (1, .int p0)]) hx hb dX11_four_30 hl (k := 0) rfl (by decide) (by decide) rfl (fun ls hl => ?_)
      refine lv_goto (tgt := 3) hx hb dX11_four_33 (by decide) ?_
      refine lv_iload_n hx hb dX11_four_3 rfl (lv_at hl 0 rfl) ?_
      refine lv_if_lt (tgt := 36) hx hb dX11_four_4 (by decide) (fun c4_3 => ?_) (fun c4_3 => ?_)
      · exact absurd c4_3 (by decide)
      · refine lv_aload_n hx hb dX11_four_7 rfl (lv_at hl 1 rfl) ?_
        refine va_get (D := G) (ci := 11) (v := .ref a5) (C := RX11) (T := TX11) (N := 31) hx hb hts (by decide +kernel) hown hK.1 hP 0 rfl rfl 5 (by decide) (hts (.fieldLink RX11 23 "CardHolderModel" "tape" "[B") (by decide +kernel)) (fun _ h9 => h9) rfl dX11_four_8 ?_
        refine lv_aload_n hx hb dX11_four_11 rfl (lv_at hl 1 rfl) ?_
        refine va_get (D := G) (ci := 11) (v := .int z26_2) (C := RX11) (T := TX11) (N := 31) hx hb hts (by decide +kernel) hown hK.1 hP 0 rfl rfl 6 (by decide) (hts (.fieldLink RX11 76 "CardHolderModel" "taped" "I") (by decide +kernel)) (fun _ h9 => h9) rfl dX11_four_12 ?_
        refine lv_iload_n hx hb dX11_four_15 rfl (lv_at hl 2 rfl) ?_
        refine lv_iload_n hx hb dX11_four_16 rfl (lv_at hl 0 rfl) ?_
        refine lv_ishr hx hb dX11_four_17 ?_
        refine nm_0 (fun z17_3 => ?_)
        refine lv_i2b hx hb dX11_four_18 rfl ?_
        refine nm_0 (fun z18_3 => ?_)
        refine va_bast hx hb hK.1 hP hD hS 1 1 rfl rfl (in_rg hz26_2 (by decide)) dX11_four_19 (fun H locs hP hD hS => ?_)
        refine lv_aload_n hx hb dX11_four_20 rfl (lv_at hl 1 rfl) ?_
        refine lv_dup hx hb dX11_four_21 rfl ?_
        refine va_get (D := G) (ci := 11) (v := .int z26_2) (C := RX11) (T := TX11) (N := 31) hx hb hts (by decide +kernel) hown hK.1 hP 0 rfl rfl 6 (by decide) (hts (.fieldLink RX11 76 "CardHolderModel" "taped" "I") (by decide +kernel)) (fun _ h9 => h9) rfl dX11_four_22 ?_
        refine lv_iconst (v := 1) hx hb dX11_four_25 (by decide) ?_
        refine lv_iadd hx hb dX11_four_26 ?_
        refine nm_add (e1 := 3) (f := 899) hz26_2 (rgn 1 (x := 1) (by decide)) (by decide) (fun z26_3 hz26_3 ez26_3 => ?_)
        replace ez26_3 := eqc_r ez26_3 (c := 1) (by decide)
        refine va_put (D := G) (ci := 11) (v := .int z26_3) (ty := .int) (C := RX11) (T := TX11) (N := 31) hx hb hts (by decide +kernel) tyX11 tyX11_ok nmX11 hown hK.1 hP hD hS 0 rfl rfl 6 (by decide) (hts (.fieldLink RX11 76 "CardHolderModel" "taped" "I") (by decide +kernel)) (fun _ h9 => h9) rfl (by decide +kernel) rfl rfl (Nat.le_of_ble_eq_true rfl) dX11_four_27 (fun H locs hP hD hS => ?_)
        refine lv_iinc (v := 0) (lv' := [(2, .int 0), (0, .ref a0), (1, .int p0)]) hx hb dX11_four_30 hl (k := 0) rfl (by decide) (by decide) rfl (fun ls hl => ?_)
        refine lv_goto (tgt := 3) hx hb dX11_four_33 (by decide) ?_
        refine lv_iload_n hx hb dX11_four_3 rfl (lv_at hl 0 rfl) ?_
        refine lv_if_lt (tgt := 36) hx hb dX11_four_4 (by decide) (fun c4_4 => ?_) (fun c4_4 => ?_)
        · exact absurd c4_4 (by decide)
        · refine lv_aload_n hx hb dX11_four_7 rfl (lv_at hl 1 rfl) ?_
          refine va_get (D := G) (ci := 11) (v := .ref a5) (C := RX11) (T := TX11) (N := 31) hx hb hts (by decide +kernel) hown hK.1 hP 0 rfl rfl 5 (by decide) (hts (.fieldLink RX11 23 "CardHolderModel" "tape" "[B") (by decide +kernel)) (fun _ h9 => h9) rfl dX11_four_8 ?_
          refine lv_aload_n hx hb dX11_four_11 rfl (lv_at hl 1 rfl) ?_
          refine va_get (D := G) (ci := 11) (v := .int z26_3) (C := RX11) (T := TX11) (N := 31) hx hb hts (by decide +kernel) hown hK.1 hP 0 rfl rfl 6 (by decide) (hts (.fieldLink RX11 76 "CardHolderModel" "taped" "I") (by decide +kernel)) (fun _ h9 => h9) rfl dX11_four_12 ?_
          refine lv_iload_n hx hb dX11_four_15 rfl (lv_at hl 2 rfl) ?_
          refine lv_iload_n hx hb dX11_four_16 rfl (lv_at hl 0 rfl) ?_
          refine lv_ishr hx hb dX11_four_17 ?_
          refine nm_0 (fun z17_4 => ?_)
          refine lv_i2b hx hb dX11_four_18 rfl ?_
          refine nm_0 (fun z18_4 => ?_)
          refine va_bast hx hb hK.1 hP hD hS 1 1 rfl rfl (in_rg hz26_3 (by decide)) dX11_four_19 (fun H locs hP hD hS => ?_)
          refine lv_aload_n hx hb dX11_four_20 rfl (lv_at hl 1 rfl) ?_
          refine lv_dup hx hb dX11_four_21 rfl ?_
          refine va_get (D := G) (ci := 11) (v := .int z26_3) (C := RX11) (T := TX11) (N := 31) hx hb hts (by decide +kernel) hown hK.1 hP 0 rfl rfl 6 (by decide) (hts (.fieldLink RX11 76 "CardHolderModel" "taped" "I") (by decide +kernel)) (fun _ h9 => h9) rfl dX11_four_22 ?_
          refine lv_iconst (v := 1) hx hb dX11_four_25 (by decide) ?_
          refine lv_iadd hx hb dX11_four_26 ?_
          refine nm_add (e1 := 4) (f := 900) hz26_3 (rgn 1 (x := 1) (by decide)) (by decide) (fun z26_4 hz26_4 ez26_4 => ?_)
          replace ez26_4 := eqc_r ez26_4 (c := 1) (by decide)
          refine va_put (D := G) (ci := 11) (v := .int z26_4) (ty := .int) (C := RX11) (T := TX11) (N := 31) hx hb hts (by decide +kernel) tyX11 tyX11_ok nmX11 hown hK.1 hP hD hS 0 rfl rfl 6 (by decide) (hts (.fieldLink RX11 76 "CardHolderModel" "taped" "I") (by decide +kernel)) (fun _ h9 => h9) rfl (by decide +kernel) rfl rfl (Nat.le_of_ble_eq_true rfl) dX11_four_27 (fun H locs hP hD hS => ?_)
          refine lv_iinc (v := (-8)) (lv' := [(2, .int (-8)), (0, .ref a0), (1, .int p0)]) hx hb dX11_four_30 hl (k := 0) rfl (by decide) (by decide) rfl (fun ls hl => ?_)
          refine lv_goto (tgt := 3) hx hb dX11_four_33 (by decide) ?_
          refine lv_iload_n hx hb dX11_four_3 rfl (lv_at hl 0 rfl) ?_
          refine lv_if_lt (tgt := 36) hx hb dX11_four_4 (by decide) (fun c4_5 => ?_) (fun c4_5 => ?_)
          · exact W.vret hx hb hr (fun t ht hW => ⟨⟨(fun k => ([z26_4] : List Int32).getD k 0, fun k => ([upd (upd (upd (upd f5 n0_6.toNatClampNeg (vp_nar .byte z18)) z26.toNatClampNeg (vp_nar .byte z18_2)) z26_2.toNatClampNeg (vp_nar .byte z18_3)) z26_3.toNatClampNeg (vp_nar .byte z18_4)] : List (Nat → Int32)).getD k (fun _ => 0), fun k => ([] : List (Nat → Int64)).getD k (fun _ => 0)), rfl, ⟨hz26_4, (show (z26_4).toInt = n0_6.toInt + 4 by have := ez26_4; have := ez26_3; have := ez26_2; have := ez26; omega), trivial⟩, hp_at ht hP⟩, hS.F ht⟩) hS.2.2 dX11_four_36
          · exact absurd c4_5 (by decide)
