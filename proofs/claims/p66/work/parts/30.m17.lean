theorem dX11_feed_0 : decode cX11_feed 0 = .ok (.aload_n 0, 1) := by decide +kernel
theorem dX11_feed_1 : decode cX11_feed 1 = .ok (.iconst 0, 1) := by decide +kernel
theorem dX11_feed_2 : decode cX11_feed 2 = .ok (.putfield 59, 3) := by decide +kernel
theorem dX11_feed_5 : decode cX11_feed 5 = .ok (.aload_n 0, 1) := by decide +kernel
theorem dX11_feed_6 : decode cX11_feed 6 = .ok (.getfield 76, 3) := by decide +kernel
theorem dX11_feed_9 : decode cX11_feed 9 = .ok (.bipush 20, 2) := by decide +kernel
theorem dX11_feed_11 : decode cX11_feed 11 = .ok (.iadd, 1) := by decide +kernel
theorem dX11_feed_12 : decode cX11_feed 12 = .ok (.sipush 900, 3) := by decide +kernel
theorem dX11_feed_15 : decode cX11_feed 15 = .ok (.if_icmp .le 5, 3) := by decide +kernel
theorem dX11_feed_20 : decode cX11_feed 20 = .ok (.aload_n 0, 1) := by decide +kernel
theorem dX11_feed_21 : decode cX11_feed 21 = .ok (.iload_n 1, 1) := by decide +kernel
set_option maxRecDepth 20000 in
theorem ggX11_feed_X11_four : GoodIn wsX11_feed wsX11_four := goodIn_r _ [7, 8, 2, 9, 10, 11, 12, 13, 14, 15, 16, 17, 18, 19, 20, 21, 22, 23, 24, 25, 26, 27, 28, 29, 30, 31, 32, 33, 34, 35, 36, 37, 38, 39] (by rfl) (by decide +kernel)
set_option maxRecDepth 20000 in
theorem gX11_feed_X11_four : GoodIn wsX11_feed (wsV RX11 79 RX11 yX11_four wsX11_four) := goodIn_app (goodIn_r _ [3, 4, 5, 6] (by rfl) (by decide +kernel)) ggX11_feed_X11_four
theorem dX11_feed_22 : decode cX11_feed 22 = .ok (.invokevirtual 79, 3) := by decide +kernel
theorem dX11_feed_25 : decode cX11_feed 25 = .ok (.aload_n 0, 1) := by decide +kernel
theorem dX11_feed_26 : decode cX11_feed 26 = .ok (.iload_n 2, 1) := by decide +kernel
theorem dX11_feed_27 : decode cX11_feed 27 = .ok (.invokevirtual 79, 3) := by decide +kernel
theorem dX11_feed_30 : decode cX11_feed 30 = .ok (.aload_n 0, 1) := by decide +kernel
theorem dX11_feed_31 : decode cX11_feed 31 = .ok (.iload_n 3, 1) := by decide +kernel
theorem dX11_feed_32 : decode cX11_feed 32 = .ok (.invokevirtual 79, 3) := by decide +kernel
theorem dX11_feed_35 : decode cX11_feed 35 = .ok (.aload_n 0, 1) := by decide +kernel
theorem dX11_feed_36 : decode cX11_feed 36 = .ok (.iload 4, 2) := by decide +kernel
theorem dX11_feed_38 : decode cX11_feed 38 = .ok (.invokevirtual 79, 3) := by decide +kernel
theorem dX11_feed_41 : decode cX11_feed 41 = .ok (.aload_n 0, 1) := by decide +kernel
theorem dX11_feed_42 : decode cX11_feed 42 = .ok (.iload 5, 2) := by decide +kernel
theorem dX11_feed_44 : decode cX11_feed 44 = .ok (.invokevirtual 79, 3) := by decide +kernel
theorem dX11_feed_47 : decode cX11_feed 47 = .ok (.aload_n 0, 1) := by decide +kernel
theorem dX11_feed_48 : decode cX11_feed 48 = .ok (.getfield 76, 3) := by decide +kernel
theorem dX11_feed_51 : decode cX11_feed 51 = .ok (.ireturn, 1) := by decide +kernel
theorem dX11_feed_18 : decode cX11_feed 18 = .ok (.iconst (-1), 1) := by decide +kernel
theorem dX11_feed_19 : decode cX11_feed 19 = .ok (.ireturn, 1) := by decide +kernel
theorem dX11_next_0 : decode cX11_next 0 = .ok (.aload_n 0, 1) := by decide +kernel
theorem dX11_next_1 : decode cX11_next 1 = .ok (.aload_n 0, 1) := by decide +kernel
theorem dX11_next_2 : decode cX11_next 2 = .ok (.getfield 83, 3) := by decide +kernel
theorem dX11_next_5 : decode cX11_next 5 = .ok (.bipush 32, 2) := by decide +kernel
theorem dX11_next_7 : decode cX11_next 7 = .ok (.bipush 32, 2) := by decide +kernel
set_option maxRecDepth 20000 in
theorem ggX11_next_X11_isByte : GoodIn wsX11_next wsX11_isByte := goodIn_r _ [17, 5, 9, 18, 19, 20, 21, 22, 23, 24, 25, 26, 27, 28, 29, 30, 31, 32, 33, 34, 35, 36, 37, 38, 39, 40, 41, 42, 43, 44, 45, 46, 47, 48] (by rfl) (by decide +kernel)
set_option maxRecDepth 20000 in
theorem gX11_next_X11_isByte : GoodIn wsX11_next (wsV RX11 86 RX11 yX11_isByte wsX11_isByte) := goodIn_app (goodIn_r _ [13, 14, 15, 16] (by rfl) (by decide +kernel)) ggX11_next_X11_isByte
theorem dX11_next_9 : decode cX11_next 9 = .ok (.invokevirtual 86, 3) := by decide +kernel
theorem dX11_next_12 : decode cX11_next 12 = .ok (.ifCond .ne 18, 3) := by decide +kernel
theorem dX11_next_30 : decode cX11_next 30 = .ok (.aload_n 0, 1) := by decide +kernel
theorem dX11_next_31 : decode cX11_next 31 = .ok (.dup, 1) := by decide +kernel
theorem dX11_next_32 : decode cX11_next 32 = .ok (.getfield 83, 3) := by decide +kernel
theorem dX11_next_35 : decode cX11_next 35 = .ok (.iconst 1, 1) := by decide +kernel
theorem dX11_next_36 : decode cX11_next 36 = .ok (.iadd, 1) := by decide +kernel
theorem dX11_next_37 : decode cX11_next 37 = .ok (.putfield 83, 3) := by decide +kernel
theorem dX11_next_40 : decode cX11_next 40 = .ok (.goto (-40), 3) := by decide +kernel
theorem dX11_next_15 : decode cX11_next 15 = .ok (.aload_n 0, 1) := by decide +kernel
theorem dX11_next_16 : decode cX11_next 16 = .ok (.aload_n 0, 1) := by decide +kernel
theorem dX11_next_17 : decode cX11_next 17 = .ok (.getfield 83, 3) := by decide +kernel
theorem dX11_next_20 : decode cX11_next 20 = .ok (.bipush 10, 2) := by decide +kernel
theorem dX11_next_22 : decode cX11_next 22 = .ok (.bipush 10, 2) := by decide +kernel
theorem dX11_next_24 : decode cX11_next 24 = .ok (.invokevirtual 86, 3) := by decide +kernel
theorem dX11_next_27 : decode cX11_next 27 = .ok (.ifCond .eq 16, 3) := by decide +kernel
theorem dX11_next_43 : decode cX11_next 43 = .ok (.aload_n 0, 1) := by decide +kernel
theorem dX11_next_44 : decode cX11_next 44 = .ok (.aload_n 0, 1) := by decide +kernel
theorem dX11_next_45 : decode cX11_next 45 = .ok (.getfield 83, 3) := by decide +kernel
theorem dX11_next_48 : decode cX11_next 48 = .ok (.putfield 90, 3) := by decide +kernel
theorem dX11_next_51 : decode cX11_next 51 = .ok (.aload_n 0, 1) := by decide +kernel
theorem dX11_next_52 : decode cX11_next 52 = .ok (.iconst 0, 1) := by decide +kernel
theorem dX11_next_53 : decode cX11_next 53 = .ok (.putfield 93, 3) := by decide +kernel
theorem dX11_next_56 : decode cX11_next 56 = .ok (.aload_n 0, 1) := by decide +kernel
theorem dX11_next_57 : decode cX11_next 57 = .ok (.lconst 0, 1) := by decide +kernel
theorem dX11_next_58 : decode cX11_next 58 = .ok (.putfield 96, 3) := by decide +kernel
theorem dX11_next_61 : decode cX11_next 61 = .ok (.aload_n 0, 1) := by decide +kernel
theorem dX11_next_62 : decode cX11_next 62 = .ok (.getfield 83, 3) := by decide +kernel
theorem dX11_next_65 : decode cX11_next 65 = .ok (.aload_n 0, 1) := by decide +kernel
theorem dX11_next_66 : decode cX11_next 66 = .ok (.getfield 76, 3) := by decide +kernel
theorem dX11_next_69 : decode cX11_next 69 = .ok (.if_icmp .ne 11, 3) := by decide +kernel
theorem dX11_next_80 : decode cX11_next 80 = .ok (.aload_n 0, 1) := by decide +kernel
theorem dX11_next_81 : decode cX11_next 81 = .ok (.aload_n 0, 1) := by decide +kernel
theorem dX11_next_82 : decode cX11_next 82 = .ok (.getfield 83, 3) := by decide +kernel
theorem dX11_next_85 : decode cX11_next 85 = .ok (.bipush 97, 2) := by decide +kernel
theorem dX11_next_87 : decode cX11_next 87 = .ok (.bipush 122, 2) := by decide +kernel
theorem dX11_next_89 : decode cX11_next 89 = .ok (.invokevirtual 86, 3) := by decide +kernel
theorem dX11_next_92 : decode cX11_next 92 = .ok (.ifCond .eq 96, 3) := by decide +kernel
theorem dX11_next_188 : decode cX11_next 188 = .ok (.aload_n 0, 1) := by decide +kernel
theorem dX11_next_189 : decode cX11_next 189 = .ok (.aload_n 0, 1) := by decide +kernel
theorem dX11_next_190 : decode cX11_next 190 = .ok (.getfield 83, 3) := by decide +kernel
theorem dX11_next_193 : decode cX11_next 193 = .ok (.bipush 48, 2) := by decide +kernel
theorem dX11_next_195 : decode cX11_next 195 = .ok (.bipush 57, 2) := by decide +kernel
theorem dX11_next_197 : decode cX11_next 197 = .ok (.invokevirtual 86, 3) := by decide +kernel
theorem dX11_next_200 : decode cX11_next 200 = .ok (.ifCond .eq 74, 3) := by decide +kernel
theorem dX11_next_274 : decode cX11_next 274 = .ok (.aload_n 0, 1) := by decide +kernel
theorem dX11_next_275 : decode cX11_next 275 = .ok (.aload_n 0, 1) := by decide +kernel
theorem dX11_next_276 : decode cX11_next 276 = .ok (.getfield 23, 3) := by decide +kernel
theorem dX11_next_279 : decode cX11_next 279 = .ok (.aload_n 0, 1) := by decide +kernel
theorem dX11_next_280 : decode cX11_next 280 = .ok (.getfield 83, 3) := by decide +kernel
theorem dX11_next_283 : decode cX11_next 283 = .ok (.baload, 1) := by decide +kernel
theorem dX11_next_284 : decode cX11_next 284 = .ok (.bipush 59, 2) := by decide +kernel
theorem dX11_next_286 : decode cX11_next 286 = .ok (.if_icmp .ne 7, 3) := by decide +kernel
theorem dX11_next_293 : decode cX11_next 293 = .ok (.iconst 4, 1) := by decide +kernel
theorem dX11_next_294 : decode cX11_next 294 = .ok (.putfield 100, 3) := by decide +kernel
theorem dX11_next_297 : decode cX11_next 297 = .ok (.aload_n 0, 1) := by decide +kernel
theorem dX11_next_298 : decode cX11_next 298 = .ok (.dup, 1) := by decide +kernel
theorem dX11_next_299 : decode cX11_next 299 = .ok (.getfield 83, 3) := by decide +kernel
theorem dX11_next_302 : decode cX11_next 302 = .ok (.iconst 1, 1) := by decide +kernel
theorem dX11_next_303 : decode cX11_next 303 = .ok (.iadd, 1) := by decide +kernel
theorem dX11_next_304 : decode cX11_next 304 = .ok (.putfield 83, 3) := by decide +kernel
theorem dX11_next_307 : decode cX11_next 307 = .ok (.return_, 1) := by decide +kernel
theorem dX11_next_289 : decode cX11_next 289 = .ok (.iconst 3, 1) := by decide +kernel
theorem dX11_next_290 : decode cX11_next 290 = .ok (.goto 4, 3) := by decide +kernel
theorem dX11_next_203 : decode cX11_next 203 = .ok (.aload_n 0, 1) := by decide +kernel
theorem dX11_next_204 : decode cX11_next 204 = .ok (.iconst 2, 1) := by decide +kernel
theorem dX11_next_205 : decode cX11_next 205 = .ok (.putfield 100, 3) := by decide +kernel
theorem dX11_next_208 : decode cX11_next 208 = .ok (.aload_n 0, 1) := by decide +kernel
theorem dX11_next_209 : decode cX11_next 209 = .ok (.aload_n 0, 1) := by decide +kernel
theorem dX11_next_210 : decode cX11_next 210 = .ok (.getfield 83, 3) := by decide +kernel
theorem dX11_next_213 : decode cX11_next 213 = .ok (.bipush 48, 2) := by decide +kernel
theorem dX11_next_215 : decode cX11_next 215 = .ok (.bipush 57, 2) := by decide +kernel
theorem dX11_next_217 : decode cX11_next 217 = .ok (.invokevirtual 86, 3) := by decide +kernel
theorem dX11_next_220 : decode cX11_next 220 = .ok (.ifCond .eq 87, 3) := by decide +kernel
theorem dX11_next_223 : decode cX11_next 223 = .ok (.aload_n 0, 1) := by decide +kernel
theorem dX11_next_224 : decode cX11_next 224 = .ok (.aload_n 0, 1) := by decide +kernel
theorem dX11_next_225 : decode cX11_next 225 = .ok (.getfield 93, 3) := by decide +kernel
theorem dX11_next_228 : decode cX11_next 228 = .ok (.ldc 109, 2) := by decide +kernel
theorem dX11_next_258 : decode cX11_next 258 = .ok (.putfield 93, 3) := by decide +kernel
theorem dX11_next_261 : decode cX11_next 261 = .ok (.aload_n 0, 1) := by decide +kernel
theorem dX11_next_262 : decode cX11_next 262 = .ok (.dup, 1) := by decide +kernel
theorem dX11_next_263 : decode cX11_next 263 = .ok (.getfield 83, 3) := by decide +kernel
theorem dX11_next_266 : decode cX11_next 266 = .ok (.iconst 1, 1) := by decide +kernel
theorem dX11_next_267 : decode cX11_next 267 = .ok (.iadd, 1) := by decide +kernel
theorem dX11_next_268 : decode cX11_next 268 = .ok (.putfield 83, 3) := by decide +kernel
theorem dX11_next_271 : decode cX11_next 271 = .ok (.goto (-63), 3) := by decide +kernel
theorem dX11_next_230 : decode cX11_next 230 = .ok (.if_icmp .le 8, 3) := by decide +kernel
theorem dX11_next_238 : decode cX11_next 238 = .ok (.bipush 10, 2) := by decide +kernel
theorem dX11_next_240 : decode cX11_next 240 = .ok (.aload_n 0, 1) := by decide +kernel
theorem dX11_next_241 : decode cX11_next 241 = .ok (.getfield 93, 3) := by decide +kernel
theorem dX11_next_244 : decode cX11_next 244 = .ok (.imul, 1) := by decide +kernel
theorem dX11_next_245 : decode cX11_next 245 = .ok (.aload_n 0, 1) := by decide +kernel
theorem dX11_next_246 : decode cX11_next 246 = .ok (.getfield 23, 3) := by decide +kernel
theorem dX11_next_249 : decode cX11_next 249 = .ok (.aload_n 0, 1) := by decide +kernel
theorem dX11_next_250 : decode cX11_next 250 = .ok (.getfield 83, 3) := by decide +kernel
theorem dX11_next_253 : decode cX11_next 253 = .ok (.baload, 1) := by decide +kernel
theorem dX11_next_254 : decode cX11_next 254 = .ok (.iadd, 1) := by decide +kernel
theorem dX11_next_255 : decode cX11_next 255 = .ok (.bipush 48, 2) := by decide +kernel
theorem dX11_next_257 : decode cX11_next 257 = .ok (.isub, 1) := by decide +kernel
theorem dX11_next_233 : decode cX11_next 233 = .ok (.ldc 110, 2) := by decide +kernel
theorem dX11_next_235 : decode cX11_next 235 = .ok (.goto 23, 3) := by decide +kernel
theorem dX11_next_95 : decode cX11_next 95 = .ok (.aload_n 0, 1) := by decide +kernel
theorem dX11_next_96 : decode cX11_next 96 = .ok (.iconst 1, 1) := by decide +kernel
theorem dX11_next_97 : decode cX11_next 97 = .ok (.putfield 100, 3) := by decide +kernel
theorem dX11_next_100 : decode cX11_next 100 = .ok (.iconst 0, 1) := by decide +kernel
theorem dX11_next_101 : decode cX11_next 101 = .ok (.istore_n 1, 1) := by decide +kernel
theorem dX11_next_102 : decode cX11_next 102 = .ok (.aload_n 0, 1) := by decide +kernel
theorem dX11_next_103 : decode cX11_next 103 = .ok (.aload_n 0, 1) := by decide +kernel
theorem dX11_next_104 : decode cX11_next 104 = .ok (.getfield 83, 3) := by decide +kernel
theorem dX11_next_107 : decode cX11_next 107 = .ok (.bipush 97, 2) := by decide +kernel
theorem dX11_next_109 : decode cX11_next 109 = .ok (.bipush 122, 2) := by decide +kernel
theorem dX11_next_111 : decode cX11_next 111 = .ok (.invokevirtual 86, 3) := by decide +kernel
theorem dX11_next_114 : decode cX11_next 114 = .ok (.ifCond .eq 71, 3) := by decide +kernel
theorem dX11_next_185 : decode cX11_next 185 = .ok (.goto 122, 3) := by decide +kernel
theorem dX11_next_117 : decode cX11_next 117 = .ok (.aload_n 0, 1) := by decide +kernel
theorem dX11_next_118 : decode cX11_next 118 = .ok (.iload_n 1, 1) := by decide +kernel
theorem dX11_next_119 : decode cX11_next 119 = .ok (.bipush 11, 2) := by decide +kernel
theorem dX11_next_153 : decode cX11_next 153 = .ok (.putfield 96, 3) := by decide +kernel
theorem dX11_next_156 : decode cX11_next 156 = .ok (.iload_n 1, 1) := by decide +kernel
theorem dX11_next_157 : decode cX11_next 157 = .ok (.bipush 11, 2) := by decide +kernel
theorem dX11_next_169 : decode cX11_next 169 = .ok (.aload_n 0, 1) := by decide +kernel
theorem dX11_next_170 : decode cX11_next 170 = .ok (.dup, 1) := by decide +kernel
theorem dX11_next_171 : decode cX11_next 171 = .ok (.getfield 83, 3) := by decide +kernel
theorem dX11_next_174 : decode cX11_next 174 = .ok (.iconst 1, 1) := by decide +kernel
theorem dX11_next_175 : decode cX11_next 175 = .ok (.iadd, 1) := by decide +kernel
theorem dX11_next_176 : decode cX11_next 176 = .ok (.putfield 83, 3) := by decide +kernel
theorem dX11_next_179 : decode cX11_next 179 = .ok (.iinc 1 1, 3) := by decide +kernel
theorem dX11_next_182 : decode cX11_next 182 = .ok (.goto (-80), 3) := by decide +kernel
theorem dX11_next_159 : decode cX11_next 159 = .ok (.if_icmp .le 10, 3) := by decide +kernel
theorem dX11_next_162 : decode cX11_next 162 = .ok (.aload_n 0, 1) := by decide +kernel
theorem dX11_next_163 : decode cX11_next 163 = .ok (.ldc2_w 103, 3) := by decide +kernel
theorem dX11_next_166 : decode cX11_next 166 = .ok (.putfield 96, 3) := by decide +kernel
theorem dX11_next_121 : decode cX11_next 121 = .ok (.if_icmp .le 9, 3) := by decide +kernel
theorem dX11_next_130 : decode cX11_next 130 = .ok (.ldc2_w 105, 3) := by decide +kernel
theorem dX11_next_133 : decode cX11_next 133 = .ok (.aload_n 0, 1) := by decide +kernel
theorem dX11_next_134 : decode cX11_next 134 = .ok (.getfield 96, 3) := by decide +kernel
theorem dX11_next_137 : decode cX11_next 137 = .ok (.lmul, 1) := by decide +kernel
theorem dX11_next_138 : decode cX11_next 138 = .ok (.aload_n 0, 1) := by decide +kernel
theorem dX11_next_139 : decode cX11_next 139 = .ok (.getfield 23, 3) := by decide +kernel
theorem dX11_next_142 : decode cX11_next 142 = .ok (.aload_n 0, 1) := by decide +kernel
theorem dX11_next_143 : decode cX11_next 143 = .ok (.getfield 83, 3) := by decide +kernel
theorem dX11_next_146 : decode cX11_next 146 = .ok (.baload, 1) := by decide +kernel
theorem dX11_next_147 : decode cX11_next 147 = .ok (.i2l, 1) := by decide +kernel
theorem dX11_next_148 : decode cX11_next 148 = .ok (.ladd, 1) := by decide +kernel
theorem dX11_next_149 : decode cX11_next 149 = .ok (.ldc2_w 107, 3) := by decide +kernel
theorem dX11_next_152 : decode cX11_next 152 = .ok (.lsub, 1) := by decide +kernel
theorem dX11_next_124 : decode cX11_next 124 = .ok (.ldc2_w 103, 3) := by decide +kernel
theorem dX11_next_127 : decode cX11_next 127 = .ok (.goto 26, 3) := by decide +kernel
theorem dX11_next_72 : decode cX11_next 72 = .ok (.aload_n 0, 1) := by decide +kernel
theorem dX11_next_73 : decode cX11_next 73 = .ok (.iconst 0, 1) := by decide +kernel
theorem dX11_next_74 : decode cX11_next 74 = .ok (.putfield 100, 3) := by decide +kernel
theorem dX11_next_77 : decode cX11_next 77 = .ok (.goto 230, 3) := by decide +kernel
theorem dX11_takes_0 : decode cX11_takes 0 = .ok (.aload_n 0, 1) := by decide +kernel
theorem dX11_takes_1 : decode cX11_takes 1 = .ok (.lload_n 1, 1) := by decide +kernel
set_option maxRecDepth 20000 in
theorem ggX11_takes_X11_is : GoodIn wsX11_takes wsX11_is := goodIn_r _ [5, 6, 7, 8, 27, 28, 29, 30, 31, 32, 33, 34, 35, 36, 37, 38, 39, 40, 41, 42, 43, 44, 45, 46, 47, 48, 49, 50, 51, 52, 53, 54, 55, 56, 57] (by rfl) (by decide +kernel)
set_option maxRecDepth 20000 in
theorem gX11_takes_X11_is : GoodIn wsX11_takes (wsV RX11 117 RX11 yX11_is wsX11_is) := goodIn_app (goodIn_r _ [1, 2, 3, 4] (by rfl) (by decide +kernel)) ggX11_takes_X11_is
theorem dX11_takes_2 : decode cX11_takes 2 = .ok (.invokevirtual 117, 3) := by decide +kernel
theorem dX11_takes_5 : decode cX11_takes 5 = .ok (.ifCond .ne 5, 3) := by decide +kernel
theorem dX11_takes_10 : decode cX11_takes 10 = .ok (.aload_n 0, 1) := by decide +kernel
set_option maxRecDepth 20000 in
theorem ggX11_takes_X11_next : GoodIn wsX11_takes wsX11_next := goodIn_r _ [12, 13, 14, 15, 8, 16, 7, 17, 18, 19, 20, 21, 22, 23, 24, 25, 4, 26, 27, 28, 29, 30, 31, 32, 33, 34, 35, 36, 37, 38, 39, 40, 41, 42, 43, 44, 45, 46, 47, 48, 49, 50, 51, 52, 53, 54, 55, 56, 57] (by rfl) (by decide +kernel)
set_option maxRecDepth 20000 in
theorem gX11_takes_X11_next : GoodIn wsX11_takes (wsV RX11 121 RX11 yX11_next wsX11_next) := goodIn_app (goodIn_r _ [9, 10, 11, 4] (by rfl) (by decide +kernel)) ggX11_takes_X11_next
theorem dX11_takes_11 : decode cX11_takes 11 = .ok (.invokevirtual 121, 3) := by decide +kernel
theorem dX11_takes_14 : decode cX11_takes 14 = .ok (.iconst 1, 1) := by decide +kernel
theorem dX11_takes_15 : decode cX11_takes 15 = .ok (.ireturn, 1) := by decide +kernel
theorem dX11_takes_8 : decode cX11_takes 8 = .ok (.iconst 0, 1) := by decide +kernel
theorem dX11_takes_9 : decode cX11_takes 9 = .ok (.ireturn, 1) := by decide +kernel
theorem dX11_asks_0 : decode cX11_asks 0 = .ok (.aload_n 0, 1) := by decide +kernel
theorem dX11_asks_1 : decode cX11_asks 1 = .ok (.lload_n 1, 1) := by decide +kernel
set_option maxRecDepth 20000 in
theorem ggX11_asks_X11_takes : GoodIn wsX11_asks wsX11_takes := goodIn_r _ [5, 6, 7, 8, 4, 9, 10, 11, 12, 13, 14, 15, 16, 17, 18, 19, 20, 21, 22, 23, 24, 25, 26, 27, 28, 29, 30, 36, 37, 38, 39, 40, 41, 42, 43, 44, 45, 46, 47, 48, 49, 50, 51, 52, 53, 54, 55, 56, 57, 58, 59, 60, 61, 62, 63, 64, 65, 66] (by rfl) (by decide +kernel)
set_option maxRecDepth 20000 in
theorem gX11_asks_X11_takes : GoodIn wsX11_asks (wsV RX11 124 RX11 yX11_takes wsX11_takes) := goodIn_app (goodIn_r _ [1, 2, 3, 4] (by rfl) (by decide +kernel)) ggX11_asks_X11_takes
theorem dX11_asks_2 : decode cX11_asks 2 = .ok (.invokevirtual 124, 3) := by decide +kernel
theorem dX11_asks_5 : decode cX11_asks 5 = .ok (.ifCond .ne 8, 3) := by decide +kernel
theorem dX11_asks_13 : decode cX11_asks 13 = .ok (.return_, 1) := by decide +kernel
theorem dX11_asks_8 : decode cX11_asks 8 = .ok (.aload_n 0, 1) := by decide +kernel
theorem dX11_asks_9 : decode cX11_asks 9 = .ok (.iconst 1, 1) := by decide +kernel
set_option maxRecDepth 20000 in
theorem ggX11_asks_X11_fails : GoodIn wsX11_asks wsX11_fails := goodIn_r _ [34, 10, 18, 35, 36, 37, 38, 39, 40, 41, 42, 43, 44, 45, 46, 47, 48, 49, 50, 51, 52, 53, 54, 55, 56, 57, 58, 59, 60, 61, 62, 63, 64, 65, 66] (by rfl) (by decide +kernel)
set_option maxRecDepth 20000 in
theorem gX11_asks_X11_fails : GoodIn wsX11_asks (wsV RX11 127 RX11 yX11_fails wsX11_fails) := goodIn_app (goodIn_r _ [31, 32, 33, 4] (by rfl) (by decide +kernel)) ggX11_asks_X11_fails
theorem dX11_asks_10 : decode cX11_asks 10 = .ok (.invokevirtual 127, 3) := by decide +kernel
theorem dX11_number_0 : decode cX11_number 0 = .ok (.aload_n 0, 1) := by decide +kernel
theorem dX11_number_1 : decode cX11_number 1 = .ok (.getfield 111, 3) := by decide +kernel
theorem dX11_number_4 : decode cX11_number 4 = .ok (.ifCond .eq 5, 3) := by decide +kernel
theorem dX11_number_9 : decode cX11_number 9 = .ok (.aload_n 0, 1) := by decide +kernel
theorem dX11_number_10 : decode cX11_number 10 = .ok (.getfield 100, 3) := by decide +kernel
theorem dX11_number_13 : decode cX11_number 13 = .ok (.iconst 2, 1) := by decide +kernel
theorem dX11_number_14 : decode cX11_number 14 = .ok (.if_icmp .eq 10, 3) := by decide +kernel
theorem dX11_number_24 : decode cX11_number 24 = .ok (.aload_n 0, 1) := by decide +kernel
theorem dX11_number_25 : decode cX11_number 25 = .ok (.getfield 93, 3) := by decide +kernel
theorem dX11_number_28 : decode cX11_number 28 = .ok (.i2l, 1) := by decide +kernel
theorem dX11_number_29 : decode cX11_number 29 = .ok (.iload_n 1, 1) := by decide +kernel
theorem dX11_number_30 : decode cX11_number 30 = .ok (.i2l, 1) := by decide +kernel
theorem dX11_number_31 : decode cX11_number 31 = .ok (.iload_n 2, 1) := by decide +kernel
theorem dX11_number_32 : decode cX11_number 32 = .ok (.i2l, 1) := by decide +kernel
set_option maxRecDepth 20000 in
theorem ggX11_number_X11_in : GoodIn wsX11_number wsX11_in := goodIn_r _ [13] (by rfl) (by decide +kernel)
set_option maxRecDepth 20000 in
theorem gX11_number_X11_in : GoodIn wsX11_number (va_wsS RX11 64 yX11_in wsX11_in) := goodIn_app (goodIn_r _ [11, 12, 7] (by rfl) (by decide +kernel)) ggX11_number_X11_in
theorem dX11_number_33 : decode cX11_number 33 = .ok (.invokestatic 64, 3) := by decide +kernel
theorem dX11_number_36 : decode cX11_number 36 = .ok (.ifCond .ne 10, 3) := by decide +kernel
theorem dX11_number_46 : decode cX11_number 46 = .ok (.aload_n 0, 1) := by decide +kernel
theorem dX11_number_47 : decode cX11_number 47 = .ok (.getfield 93, 3) := by decide +kernel
theorem dX11_number_50 : decode cX11_number 50 = .ok (.istore_n 3, 1) := by decide +kernel
theorem dX11_number_51 : decode cX11_number 51 = .ok (.aload_n 0, 1) := by decide +kernel
set_option maxRecDepth 20000 in
theorem ggX11_number_X11_next : GoodIn wsX11_number wsX11_next := goodIn_r _ [17, 18, 9, 3, 19, 20, 2, 21, 22, 23, 24, 25, 26, 27, 28, 29, 7, 30, 31, 32, 33, 34, 35, 36, 37, 38, 39, 40, 41, 42, 43, 44, 45, 46, 47, 48, 49, 50, 51, 52, 53, 54, 55, 56, 57, 58, 59, 60, 61] (by rfl) (by decide +kernel)
set_option maxRecDepth 20000 in
theorem gX11_number_X11_next : GoodIn wsX11_number (wsV RX11 121 RX11 yX11_next wsX11_next) := goodIn_app (goodIn_r _ [14, 15, 16, 7] (by rfl) (by decide +kernel)) ggX11_number_X11_next
theorem dX11_number_52 : decode cX11_number 52 = .ok (.invokevirtual 121, 3) := by decide +kernel
theorem dX11_number_55 : decode cX11_number 55 = .ok (.iload_n 3, 1) := by decide +kernel
theorem dX11_number_56 : decode cX11_number 56 = .ok (.ireturn, 1) := by decide +kernel
theorem dX11_number_39 : decode cX11_number 39 = .ok (.aload_n 0, 1) := by decide +kernel
theorem dX11_number_40 : decode cX11_number 40 = .ok (.iconst 2, 1) := by decide +kernel
set_option maxRecDepth 20000 in
theorem ggX11_number_X11_fails : GoodIn wsX11_number wsX11_fails := goodIn_r _ [8, 1, 9, 10, 31, 32, 33, 34, 35, 36, 37, 38, 39, 40, 41, 42, 43, 44, 45, 46, 47, 48, 49, 50, 51, 52, 53, 54, 55, 56, 57, 58, 59, 60, 61] (by rfl) (by decide +kernel)
set_option maxRecDepth 20000 in
theorem gX11_number_X11_fails : GoodIn wsX11_number (wsV RX11 127 RX11 yX11_fails wsX11_fails) := goodIn_app (goodIn_r _ [4, 5, 6, 7] (by rfl) (by decide +kernel)) ggX11_number_X11_fails
theorem dX11_number_41 : decode cX11_number 41 = .ok (.invokevirtual 127, 3) := by decide +kernel
theorem dX11_number_44 : decode cX11_number 44 = .ok (.iload_n 1, 1) := by decide +kernel
theorem dX11_number_45 : decode cX11_number 45 = .ok (.ireturn, 1) := by decide +kernel
theorem dX11_number_17 : decode cX11_number 17 = .ok (.aload_n 0, 1) := by decide +kernel
theorem dX11_number_18 : decode cX11_number 18 = .ok (.iconst 1, 1) := by decide +kernel
theorem dX11_number_19 : decode cX11_number 19 = .ok (.invokevirtual 127, 3) := by decide +kernel
theorem dX11_number_22 : decode cX11_number 22 = .ok (.iload_n 1, 1) := by decide +kernel
theorem dX11_number_23 : decode cX11_number 23 = .ok (.ireturn, 1) := by decide +kernel
theorem dX11_number_7 : decode cX11_number 7 = .ok (.iload_n 1, 1) := by decide +kernel
theorem dX11_number_8 : decode cX11_number 8 = .ok (.ireturn, 1) := by decide +kernel
set_option maxHeartbeats 4000000 in
set_option maxRecDepth 100000 in
theorem a_X11_feed (l : Launch) (G : va_G) (ct : Nat → ClassId) (a0 : Nat) (n0_0 : Int32) (a1 : Nat) (a2 : Nat) (a3 : Nat) (a4 : Nat) (a5 : Nat) (n0_6 : Int32) (n0_7 : Int32) (n0_8 : Int32) (n0_9 : Int32) (n0_10 : Int32) (l0_11 : Int64) (n0_12 : Int32) (n0_13 : Int32) (n0_14 : Int32) (n0_15 : Int32) (a6 : Nat) (a7 : Nat) (a8 : Nat) (a9 : Nat) (a10 : Nat) (a11 : Nat) (a12 : Nat) (a13 : Nat) (n0_24 : Int32) (n0_25 : Int32) (n0_26 : Int32) (n0_27 : Int32) (a14 : Nat) (n0_29 : Int32) (n0_30 : Int32) (f5 : Nat → Int32) (p0 : Int32) (p1 : Int32) (p2 : Int32) (p3 : Int32) (p4 : Int32) (hp_n0_6 : rg 0 900 n0_6) : Met l yX11_feed wsX11_feed ({ frames := 1, cells := 0, slots := 0, locals := 22 }) (va_Pc [.ref a0, .int p0, .int p1, .int p2, .int p3, .int p4] (wrP G ct [(a0, .inr (11, [.int n0_0, .ref a1, .ref a2, .ref a3, .ref a4, .ref a5, .int n0_6, .int n0_7, .int n0_8, .int n0_9, .int n0_10, .long l0_11, .int n0_12, .int n0_13, .int n0_14, .int n0_15, .ref a6, .ref a7, .ref a8, .ref a9, .ref a10, .ref a11, .ref a12, .ref a13, .int n0_24, .int n0_25, .int n0_26, .int n0_27, .ref a14, .int n0_29, .int n0_30])), (a5, .inl (ct 1, 900, .inl f5))])) (va_Qi (fun (r : Int32) (u : SU) => rg (-1) 900 r ∧ rg 0 0 (u.1 0) ∧ rg 20 900 (u.1 1) ∧ True) (fun u t => va_P G vwCl ((fun u : SU => [(a0, .inr (11, [.int (u.1 0), .ref a1, .ref a2, .ref a3, .ref a4, .ref a5, .int (u.1 1), .int n0_7, .int n0_8, .int n0_9, .int n0_10, .long l0_11, .int n0_12, .int n0_13, .int n0_14, .int n0_15, .ref a6, .ref a7, .ref a8, .ref a9, .ref a10, .ref a11, .ref a12, .ref a13, .int n0_24, .int n0_25, .int n0_26, .int n0_27, .ref a14, .int n0_29, .int n0_30])), (a5, .inl (ct 1, 900, .inl (u.2.1 0)))]) u) t.heap) (aset [(a0, .inr (11, [.int n0_0, .ref a1, .ref a2, .ref a3, .ref a4, .ref a5, .int n0_6, .int n0_7, .int n0_8, .int n0_9, .int n0_10, .long l0_11, .int n0_12, .int n0_13, .int n0_14, .int n0_15, .ref a6, .ref a7, .ref a8, .ref a9, .ref a10, .ref a11, .ref a12, .ref a13, .int n0_24, .int n0_25, .int n0_26, .int n0_27, .ref a14, .int n0_29, .int n0_30])), (a5, .inl (ct 1, 900, .inl f5))])) 0 0 (aset [(a0, .inr (11, [.int n0_0, .ref a1, .ref a2, .ref a3, .ref a4, .ref a5, .int n0_6, .int n0_7, .int n0_8, .int n0_9, .int n0_10, .long l0_11, .int n0_12, .int n0_13, .int n0_14, .int n0_15, .ref a6, .ref a7, .ref a8, .ref a9, .ref a10, .ref a11, .ref a12, .ref a13, .int n0_24, .int n0_25, .int n0_26, .int n0_27, .ref a14, .int n0_29, .int n0_30])), (a5, .inl (ct 1, 900, .inl f5))]) := by
  refine Met.ofW (cc := cX11_feed) (maxL := 6) (ret := (some .int)) (by decide) rfl ?_
  intro p e s m args below meth c s₁ B hml hv
  obtain ⟨rfl, hP, hK, hD0⟩ := hv
  have hx := B.exec
  have hb := B.bytes
  have hr := B.returns
  have hts := atoms_spec (ws := wsX11_feed) B.pre
  have hown : s.vm.findClass RX11 = some m.cls := findClass_of_methodNamed B.named
  have hlocks := B.notSynchronized
  have hD := hD0.aself
  generalize hAe : aset [(a0, .inr (11, [.int n0_0, .ref a1, .ref a2, .ref a3, .ref a4, .ref a5, .int n0_6, .int n0_7, .int n0_8, .int n0_9, .int n0_10, .long l0_11, .int n0_12, .int n0_13, .int n0_14, .int n0_15, .ref a6, .ref a7, .ref a8, .ref a9, .ref a10, .ref a11, .ref a12, .ref a13, .int n0_24, .int n0_25, .int n0_26, .int n0_27, .ref a14, .int n0_29, .int n0_30])), (a5, .inl (ct 1, 900, .inl f5))] = A at hD ⊢
  have hS : va_S A s.heap s.heap [] := va_S.rf
  have hl := lv_entry ([.ref a0, .int p0, .int p1, .int p2, .int p3, .int p4]) (n := 6) (Nat.le_of_ble_eq_true rfl)
  rw [lg_entry_eq]
  generalize (lg_sl ([.ref a0, .int p0, .int p1, .int p2, .int p3, .int p4]) ++ List.replicate (6 - (lg_sl ([.ref a0, .int p0, .int p1, .int p2, .int p3, .int p4])).length) Slot.unset).toArray = ls at hl ⊢
  have hl : lv_has ls 6 [(0, .ref a0), (1, .int p0), (2, .int p1), (3, .int p2), (4, .int p3), (5, .int p4)] := hl
  refine lv_aload_n hx hb dX11_feed_0 rfl (lv_at hl 0 rfl) ?_
  refine lv_iconst (v := 0) hx hb dX11_feed_1 (by decide) ?_
  refine va_put (D := G) (ci := 11) (v := .int 0) (ty := .int) (C := RX11) (T := TX11) (N := 31) hx hb hts (by decide +kernel) tyX11 tyX11_ok nmX11 hown hK.1 hP hD hS 0 rfl rfl 0 (by decide) (hts (.fieldLink RX11 59 "CardHolderModel" "thrown" "I") (by decide +kernel)) (fun _ h9 => h9) rfl (by decide +kernel) rfl rfl (Nat.le_of_ble_eq_true rfl) dX11_feed_2 (fun H locs hP hD hS => ?_)
  refine lv_aload_n hx hb dX11_feed_5 rfl (lv_at hl 0 rfl) ?_
  refine va_get (D := G) (ci := 11) (v := .int n0_6) (C := RX11) (T := TX11) (N := 31) hx hb hts (by decide +kernel) hown hK.1 hP 0 rfl rfl 6 (by decide) (hts (.fieldLink RX11 76 "CardHolderModel" "taped" "I") (by decide +kernel)) (fun _ h9 => h9) rfl dX11_feed_6 ?_
  refine lv_bipush (v := 20) hx hb dX11_feed_9 (by decide) ?_
  refine lv_iadd hx hb dX11_feed_11 ?_
  refine nm_add (e1 := 20) (f := 920) hp_n0_6 (rgn 20 (x := 20) (by decide)) (by decide) (fun z11 hz11 ez11 => ?_)
  replace ez11 := eqc_r ez11 (c := 20) (by decide)
  refine lv_sipush (v := 900) hx hb dX11_feed_12 (by decide) ?_
  refine lv_icmp_le (tgt := 20) hx hb dX11_feed_15 (by decide) (fun c15 => ?_) (fun c15 => ?_)
  · have h_1 : rg 20 900 z11 := r_le_l_i c15 hz11 (rgn 900 (x := 900) (by decide))
    have h_2 : rg 0 880 n0_6 := bk_i (a := 0) (b := 880) ez11 h_1 hp_n0_6 (by decide)
    refine lv_aload_n hx hb dX11_feed_20 rfl (lv_at hl 0 rfl) ?_
    refine lv_iload_n hx hb dX11_feed_21 rfl (lv_at hl 1 rfl) ?_
    refine wj_callv (wr := []) (w1 := (fun u : SU => [(a0, .inr (11, [.int 0, .ref a1, .ref a2, .ref a3, .ref a4, .ref a5, .int (u.1 0), .int n0_7, .int n0_8, .int n0_9, .int n0_10, .long l0_11, .int n0_12, .int n0_13, .int n0_14, .int n0_15, .ref a6, .ref a7, .ref a8, .ref a9, .ref a10, .ref a11, .ref a12, .ref a13, .int n0_24, .int n0_25, .int n0_26, .int n0_27, .ref a14, .int n0_29, .int n0_30])), (a5, .inl (ct 1, 900, .inl (u.2.1 0)))])) (va_runV (As := [.int p0]) (rest := []) ⟨hx, hb, hml, hown, hts⟩ (a_X11_four l G ct a0 (0 : Int32) a1 a2 a3 a4 a5 n0_6 n0_7 n0_8 n0_9 n0_10 l0_11 n0_12 n0_13 n0_14 n0_15 a6 a7 a8 a9 a10 a11 a12 a13 n0_24 n0_25 n0_26 n0_27 a14 n0_29 n0_30 f5 p0 (rg_w (c := 0) (d := 896) h_2 (by decide))) (cwV 1 hts gX11_feed_X11_four rfl rfl rfl (by decide +kernel) ⟨Nat.le_of_ble_eq_true rfl, Nat.le_of_ble_eq_true rfl⟩) (wr_preV 11 0 hK (hP.sub [0, 1] rfl) (hD.sub [0, 1] (by decide) rfl) rfl rfl) rfl rfl hl.1 rfl (lv_room (Nat.le_of_ble_eq_true rfl)) dX11_feed_22 ⟨Nat.zero_le _, Nat.zero_le _⟩) hS hP hD [0, 1] [] rfl rfl (by decide) (fun _ => rfl) (fun ur22 H locs wr22 hP hD hS => ?_)
    have hP : va_P G vwCl [(a0, .inr (11, [.int 0, .ref a1, .ref a2, .ref a3, .ref a4, .ref a5, .int (ur22.1 0), .int n0_7, .int n0_8, .int n0_9, .int n0_10, .long l0_11, .int n0_12, .int n0_13, .int n0_14, .int n0_15, .ref a6, .ref a7, .ref a8, .ref a9, .ref a10, .ref a11, .ref a12, .ref a13, .int n0_24, .int n0_25, .int n0_26, .int n0_27, .ref a14, .int n0_29, .int n0_30])), (a5, .inl (ct 1, 900, .inl (ur22.2.1 0)))] H := hP.sub [0, 1] rfl
    have hD : va_D A [(a0, .inr (11, [.int 0, .ref a1, .ref a2, .ref a3, .ref a4, .ref a5, .int (ur22.1 0), .int n0_7, .int n0_8, .int n0_9, .int n0_10, .long l0_11, .int n0_12, .int n0_13, .int n0_14, .int n0_15, .ref a6, .ref a7, .ref a8, .ref a9, .ref a10, .ref a11, .ref a12, .ref a13, .int n0_24, .int n0_25, .int n0_26, .int n0_27, .ref a14, .int n0_29, .int n0_30])), (a5, .inl (ct 1, 900, .inl (ur22.2.1 0)))] := hD.sub [0, 1] (by decide) rfl
    obtain ⟨p_3, p_4, -⟩ := wr22
    have h_5 : rg 4 884 (ur22.1 0) := fw_i (a := 4) (b := 884) p_4 h_2 p_3 (by decide)
    refine lv_aload_n hx hb dX11_feed_25 rfl (lv_at hl 0 rfl) ?_
    refine lv_iload_n hx hb dX11_feed_26 rfl (lv_at hl 2 rfl) ?_
    refine wj_callv (wr := []) (w1 := (fun u : SU => [(a0, .inr (11, [.int 0, .ref a1, .ref a2, .ref a3, .ref a4, .ref a5, .int (u.1 0), .int n0_7, .int n0_8, .int n0_9, .int n0_10, .long l0_11, .int n0_12, .int n0_13, .int n0_14, .int n0_15, .ref a6, .ref a7, .ref a8, .ref a9, .ref a10, .ref a11, .ref a12, .ref a13, .int n0_24, .int n0_25, .int n0_26, .int n0_27, .ref a14, .int n0_29, .int n0_30])), (a5, .inl (ct 1, 900, .inl (u.2.1 0)))])) (va_runV (As := [.int p1]) (rest := []) ⟨hx, hb, hml, hown, hts⟩ (a_X11_four l G ct a0 (0 : Int32) a1 a2 a3 a4 a5 (ur22.1 0) n0_7 n0_8 n0_9 n0_10 l0_11 n0_12 n0_13 n0_14 n0_15 a6 a7 a8 a9 a10 a11 a12 a13 n0_24 n0_25 n0_26 n0_27 a14 n0_29 n0_30 (ur22.2.1 0) p1 (rg_w (c := 0) (d := 896) h_5 (by decide))) (cwV 1 hts gX11_feed_X11_four rfl rfl rfl (by decide +kernel) ⟨Nat.le_of_ble_eq_true rfl, Nat.le_of_ble_eq_true rfl⟩) (wr_preV 11 0 hK (hP.sub [0, 1] rfl) (hD.sub [0, 1] (by decide) rfl) rfl rfl) rfl rfl hl.1 rfl (lv_room (Nat.le_of_ble_eq_true rfl)) dX11_feed_27 ⟨Nat.zero_le _, Nat.zero_le _⟩) hS hP hD [0, 1] [] rfl rfl (by decide) (fun _ => rfl) (fun ur27 H locs wr27 hP hD hS => ?_)
    have hP : va_P G vwCl [(a0, .inr (11, [.int 0, .ref a1, .ref a2, .ref a3, .ref a4, .ref a5, .int (ur27.1 0), .int n0_7, .int n0_8, .int n0_9, .int n0_10, .long l0_11, .int n0_12, .int n0_13, .int n0_14, .int n0_15, .ref a6, .ref a7, .ref a8, .ref a9, .ref a10, .ref a11, .ref a12, .ref a13, .int n0_24, .int n0_25, .int n0_26, .int n0_27, .ref a14, .int n0_29, .int n0_30])), (a5, .inl (ct 1, 900, .inl (ur27.2.1 0)))] H := hP.sub [0, 1] rfl
    have hD : va_D A [(a0, .inr (11, [.int 0, .ref a1, .ref a2, .ref a3, .ref a4, .ref a5, .int (ur27.1 0), .int n0_7, .int n0_8, .int n0_9, .int n0_10, .long l0_11, .int n0_12, .int n0_13, .int n0_14, .int n0_15, .ref a6, .ref a7, .ref a8, .ref a9, .ref a10, .ref a11, .ref a12, .ref a13, .int n0_24, .int n0_25, .int n0_26, .int n0_27, .ref a14, .int n0_29, .int n0_30])), (a5, .inl (ct 1, 900, .inl (ur27.2.1 0)))] := hD.sub [0, 1] (by decide) rfl
    obtain ⟨p_6, p_7, -⟩ := wr27
    have h_8 : rg 8 888 (ur27.1 0) := fw_i (a := 8) (b := 888) p_7 h_5 p_6 (by decide)
    refine lv_aload_n hx hb dX11_feed_30 rfl (lv_at hl 0 rfl) ?_
    refine lv_iload_n hx hb dX11_feed_31 rfl (lv_at hl 3 rfl) ?_
    refine wj_callv (wr := []) (w1 := (fun u : SU => [(a0, .inr (11, [.int 0, .ref a1, .ref a2, .ref a3, .ref a4, .ref a5, .int (u.1 0), .int n0_7, .int n0_8, .int n0_9, .int n0_10, .long l0_11, .int n0_12, .int n0_13, .int n0_14, .int n0_15, .ref a6, .ref a7, .ref a8, .ref a9, .ref a10, .ref a11, .ref a12, .ref a13, .int n0_24, .int n0_25, .int n0_26, .int n0_27, .ref a14, .int n0_29, .int n0_30])), (a5, .inl (ct 1, 900, .inl (u.2.1 0)))])) (va_runV (As := [.int p2]) (rest := []) ⟨hx, hb, hml, hown, hts⟩ (a_X11_four l G ct a0 (0 : Int32) a1 a2 a3 a4 a5 (ur27.1 0) n0_7 n0_8 n0_9 n0_10 l0_11 n0_12 n0_13 n0_14 n0_15 a6 a7 a8 a9 a10 a11 a12 a13 n0_24 n0_25 n0_26 n0_27 a14 n0_29 n0_30 (ur27.2.1 0) p2 (rg_w (c := 0) (d := 896) h_8 (by decide))) (cwV 1 hts gX11_feed_X11_four rfl rfl rfl (by decide +kernel) ⟨Nat.le_of_ble_eq_true rfl, Nat.le_of_ble_eq_true rfl⟩) (wr_preV 11 0 hK (hP.sub [0, 1] rfl) (hD.sub [0, 1] (by decide) rfl) rfl rfl) rfl rfl hl.1 rfl (lv_room (Nat.le_of_ble_eq_true rfl)) dX11_feed_32 ⟨Nat.zero_le _, Nat.zero_le _⟩) hS hP hD [0, 1] [] rfl rfl (by decide) (fun _ => rfl) (fun ur32 H locs wr32 hP hD hS => ?_)
    have hP : va_P G vwCl [(a0, .inr (11, [.int 0, .ref a1, .ref a2, .ref a3, .ref a4, .ref a5, .int (ur32.1 0), .int n0_7, .int n0_8, .int n0_9, .int n0_10, .long l0_11, .int n0_12, .int n0_13, .int n0_14, .int n0_15, .ref a6, .ref a7, .ref a8, .ref a9, .ref a10, .ref a11, .ref a12, .ref a13, .int n0_24, .int n0_25, .int n0_26, .int n0_27, .ref a14, .int n0_29, .int n0_30])), (a5, .inl (ct 1, 900, .inl (ur32.2.1 0)))] H := hP.sub [0, 1] rfl
    have hD : va_D A [(a0, .inr (11, [.int 0, .ref a1, .ref a2, .ref a3, .ref a4, .ref a5, .int (ur32.1 0), .int n0_7, .int n0_8, .int n0_9, .int n0_10, .long l0_11, .int n0_12, .int n0_13, .int n0_14, .int n0_15, .ref a6, .ref a7, .ref a8, .ref a9, .ref a10, .ref a11, .ref a12, .ref a13, .int n0_24, .int n0_25, .int n0_26, .int n0_27, .ref a14, .int n0_29, .int n0_30])), (a5, .inl (ct 1, 900, .inl (ur32.2.1 0)))] := hD.sub [0, 1] (by decide) rfl
    obtain ⟨p_9, p_10, -⟩ := wr32
    have h_11 : rg 12 892 (ur32.1 0) := fw_i (a := 12) (b := 892) p_10 h_8 p_9 (by decide)
    refine lv_aload_n hx hb dX11_feed_35 rfl (lv_at hl 0 rfl) ?_
    refine lv_iload hx hb dX11_feed_36 (lv_at hl 4 rfl) ?_
    refine wj_callv (wr := []) (w1 := (fun u : SU => [(a0, .inr (11, [.int 0, .ref a1, .ref a2, .ref a3, .ref a4, .ref a5, .int (u.1 0), .int n0_7, .int n0_8, .int n0_9, .int n0_10, .long l0_11, .int n0_12, .int n0_13, .int n0_14, .int n0_15, .ref a6, .ref a7, .ref a8, .ref a9, .ref a10, .ref a11, .ref a12, .ref a13, .int n0_24, .int n0_25, .int n0_26, .int n0_27, .ref a14, .int n0_29, .int n0_30])), (a5, .inl (ct 1, 900, .inl (u.2.1 0)))])) (va_runV (As := [.int p3]) (rest := []) ⟨hx, hb, hml, hown, hts⟩ (a_X11_four l G ct a0 (0 : Int32) a1 a2 a3 a4 a5 (ur32.1 0) n0_7 n0_8 n0_9 n0_10 l0_11 n0_12 n0_13 n0_14 n0_15 a6 a7 a8 a9 a10 a11 a12 a13 n0_24 n0_25 n0_26 n0_27 a14 n0_29 n0_30 (ur32.2.1 0) p3 (rg_w (c := 0) (d := 896) h_11 (by decide))) (cwV 1 hts gX11_feed_X11_four rfl rfl rfl (by decide +kernel) ⟨Nat.le_of_ble_eq_true rfl, Nat.le_of_ble_eq_true rfl⟩) (wr_preV 11 0 hK (hP.sub [0, 1] rfl) (hD.sub [0, 1] (by decide) rfl) rfl rfl) rfl rfl hl.1 rfl (lv_room (Nat.le_of_ble_eq_true rfl)) dX11_feed_38 ⟨Nat.zero_le _, Nat.zero_le _⟩) hS hP hD [0, 1] [] rfl rfl (by decide) (fun _ => rfl) (fun ur38 H locs wr38 hP hD hS => ?_)
    have hP : va_P G vwCl [(a0, .inr (11, [.int 0, .ref a1, .ref a2, .ref a3, .ref a4, .ref a5, .int (ur38.1 0), .int n0_7, .int n0_8, .int n0_9, .int n0_10, .long l0_11, .int n0_12, .int n0_13, .int n0_14, .int n0_15, .ref a6, .ref a7, .ref a8, .ref a9, .ref a10, .ref a11, .ref a12, .ref a13, .int n0_24, .int n0_25, .int n0_26, .int n0_27, .ref a14, .int n0_29, .int n0_30])), (a5, .inl (ct 1, 900, .inl (ur38.2.1 0)))] H := hP.sub [0, 1] rfl
    have hD : va_D A [(a0, .inr (11, [.int 0, .ref a1, .ref a2, .ref a3, .ref a4, .ref a5, .int (ur38.1 0), .int n0_7, .int n0_8, .int n0_9, .int n0_10, .long l0_11, .int n0_12, .int n0_13, .int n0_14, .int n0_15, .ref a6, .ref a7, .ref a8, .ref a9, .ref a10, .ref a11, .ref a12, .ref a13, .int n0_24, .int n0_25, .int n0_26, .int n0_27, .ref a14, .int n0_29, .int n0_30])), (a5, .inl (ct 1, 900, .inl (ur38.2.1 0)))] := hD.sub [0, 1] (by decide) rfl
    obtain ⟨p_12, p_13, -⟩ := wr38
    have h_14 : rg 16 896 (ur38.1 0) := fw_i (a := 16) (b := 896) p_13 h_11 p_12 (by decide)
    refine lv_aload_n hx hb dX11_feed_41 rfl (lv_at hl 0 rfl) ?_
    refine lv_iload hx hb dX11_feed_42 (lv_at hl 5 rfl) ?_
    refine wj_callv (wr := []) (w1 := (fun u : SU => [(a0, .inr (11, [.int 0, .ref a1, .ref a2, .ref a3, .ref a4, .ref a5, .int (u.1 0), .int n0_7, .int n0_8, .int n0_9, .int n0_10, .long l0_11, .int n0_12, .int n0_13, .int n0_14, .int n0_15, .ref a6, .ref a7, .ref a8, .ref a9, .ref a10, .ref a11, .ref a12, .ref a13, .int n0_24, .int n0_25, .int n0_26, .int n0_27, .ref a14, .int n0_29, .int n0_30])), (a5, .inl (ct 1, 900, .inl (u.2.1 0)))])) (va_runV (As := [.int p4]) (rest := []) ⟨hx, hb, hml, hown, hts⟩ (a_X11_four l G ct a0 (0 : Int32) a1 a2 a3 a4 a5 (ur38.1 0) n0_7 n0_8 n0_9 n0_10 l0_11 n0_12 n0_13 n0_14 n0_15 a6 a7 a8 a9 a10 a11 a12 a13 n0_24 n0_25 n0_26 n0_27 a14 n0_29 n0_30 (ur38.2.1 0) p4 (rg_w (c := 0) (d := 896) h_14 (by decide))) (cwV 1 hts gX11_feed_X11_four rfl rfl rfl (by decide +kernel) ⟨Nat.le_of_ble_eq_true rfl, Nat.le_of_ble_eq_true rfl⟩) (wr_preV 11 0 hK (hP.sub [0, 1] rfl) (hD.sub [0, 1] (by decide) rfl) rfl rfl) rfl rfl hl.1 rfl (lv_room (Nat.le_of_ble_eq_true rfl)) dX11_feed_44 ⟨Nat.zero_le _, Nat.zero_le _⟩) hS hP hD [0, 1] [] rfl rfl (by decide) (fun _ => rfl) (fun ur44 H locs wr44 hP hD hS => ?_)
    have hP : va_P G vwCl [(a0, .inr (11, [.int 0, .ref a1, .ref a2, .ref a3, .ref a4, .ref a5, .int (ur44.1 0), .int n0_7, .int n0_8, .int n0_9, .int n0_10, .long l0_11, .int n0_12, .int n0_13, .int n0_14, .int n0_15, .ref a6, .ref a7, .ref a8, .ref a9, .ref a10, .ref a11, .ref a12, .ref a13, .int n0_24, .int n0_25, .int n0_26, .int n0_27, .ref a14, .int n0_29, .int n0_30])), (a5, .inl (ct 1, 900, .inl (ur44.2.1 0)))] H := hP.sub [0, 1] rfl
    have hD : va_D A [(a0, .inr (11, [.int 0, .ref a1, .ref a2, .ref a3, .ref a4, .ref a5, .int (ur44.1 0), .int n0_7, .int n0_8, .int n0_9, .int n0_10, .long l0_11, .int n0_12, .int n0_13, .int n0_14, .int n0_15, .ref a6, .ref a7, .ref a8, .ref a9, .ref a10, .ref a11, .ref a12, .ref a13, .int n0_24, .int n0_25, .int n0_26, .int n0_27, .ref a14, .int n0_29, .int n0_30])), (a5, .inl (ct 1, 900, .inl (ur44.2.1 0)))] := hD.sub [0, 1] (by decide) rfl
    obtain ⟨p_15, p_16, -⟩ := wr44
    have h_17 : rg 20 900 (ur44.1 0) := fw_i (a := 20) (b := 900) p_16 h_14 p_15 (by decide)
    refine lv_aload_n hx hb dX11_feed_47 rfl (lv_at hl 0 rfl) ?_
    refine va_get (D := G) (ci := 11) (v := .int (ur44.1 0)) (C := RX11) (T := TX11) (N := 31) hx hb hts (by decide +kernel) hown hK.1 hP 0 rfl rfl 6 (by decide) (hts (.fieldLink RX11 76 "CardHolderModel" "taped" "I") (by decide +kernel)) (fun _ h9 => h9) rfl dX11_feed_48 ?_
    exact W.iret (v := ur44.1 0) hx hb hr (fun t ht hW => ⟨⟨ur44.1 0, (fun k => ([0, ur44.1 0] : List Int32).getD k 0, fun k => ([ur44.2.1 0] : List (Nat → Int32)).getD k (fun _ => 0), fun k => ([] : List (Nat → Int64)).getD k (fun _ => 0)), rfl, ⟨(rg_w (c := (-1)) (d := 900) h_17 (by decide)), (rgn 0 (x := 0) (by decide)), h_17, trivial⟩, hp_at ht hP⟩, hS.F ht⟩) hS.2.2 dX11_feed_51
  · have h_18 : rg 901 920 z11 := r_lt_r_i (nle_i c15) (rgn 900 (x := 900) (by decide)) hz11 (by decide)
    have h_19 : rg 881 900 n0_6 := bk_i (a := 881) (b := 900) ez11 h_18 hp_n0_6 (by decide)
    refine lv_iconst (v := (-1)) hx hb dX11_feed_18 (by decide) ?_
    exact W.iret (v := (-1)) hx hb hr (fun t ht hW => ⟨⟨(-1), (fun k => ([0, n0_6] : List Int32).getD k 0, fun k => ([f5] : List (Nat → Int32)).getD k (fun _ => 0), fun k => ([] : List (Nat → Int64)).getD k (fun _ => 0)), rfl, ⟨(rg_w (c := (-1)) (d := 900) (rgn (-1) (x := (-1)) (by decide)) (by decide)), (rgn 0 (x := 0) (by decide)), (rg_w (c := 20) (d := 900) h_19 (by decide)), trivial⟩, hp_at ht hP⟩, hS.F ht⟩) hS.2.2 dX11_feed_19

set_option maxHeartbeats 4000000 in
set_option maxRecDepth 100000 in
theorem a_X11_next (l : Launch) (G : va_G) (ct : Nat → ClassId) (a0 : Nat) (n0_0 : Int32) (a1 : Nat) (a2 : Nat) (a3 : Nat) (a4 : Nat) (a5 : Nat) (n0_6 : Int32) (n0_7 : Int32) (n0_8 : Int32) (n0_9 : Int32) (n0_10 : Int32) (l0_11 : Int64) (n0_12 : Int32) (n0_13 : Int32) (n0_14 : Int32) (n0_15 : Int32) (a6 : Nat) (a7 : Nat) (a8 : Nat) (a9 : Nat) (a10 : Nat) (a11 : Nat) (a12 : Nat) (a13 : Nat) (n0_24 : Int32) (n0_25 : Int32) (n0_26 : Int32) (n0_27 : Int32) (a14 : Nat) (n0_29 : Int32) (n0_30 : Int32) (f5 : Nat → Int32) (hp_n0_6 : rg 0 900 n0_6) (hp_n0_7 : rg 0 900 n0_7) (hat : n0_7.toInt ≤ n0_6.toInt) : Met l yX11_next wsX11_next ({ frames := 1, cells := 0, slots := 0, locals := 23 }) (va_Pc [.ref a0] (wrP G ct [(a0, .inr (11, [.int n0_0, .ref a1, .ref a2, .ref a3, .ref a4, .ref a5, .int n0_6, .int n0_7, .int n0_8, .int n0_9, .int n0_10, .long l0_11, .int n0_12, .int n0_13, .int n0_14, .int n0_15, .ref a6, .ref a7, .ref a8, .ref a9, .ref a10, .ref a11, .ref a12, .ref a13, .int n0_24, .int n0_25, .int n0_26, .int n0_27, .ref a14, .int n0_29, .int n0_30])), (a5, .inl (ct 1, 900, .inl f5))])) (va_Qv (fun u : SU => rg 0 900 (u.1 0) ∧ rg 0 4 (u.1 1) ∧ rg 0 900 (u.1 2) ∧ rg 0 1000009 (u.1 3) ∧ (n0_7.toInt ≤ (u.1 0).toInt ∧ (u.1 0).toInt ≤ n0_6.toInt ∧ (n0_12 = 0 → ¬ (u.1 1) = 0 → n0_7.toInt < (u.1 0).toInt)) ∧ True) (fun u t => va_P G vwCl ((fun u : SU => [(a0, .inr (11, [.int n0_0, .ref a1, .ref a2, .ref a3, .ref a4, .ref a5, .int n0_6, .int (u.1 0), .int (u.1 1), .int (u.1 2), .int (u.1 3), .long (u.2.2 0 0), .int n0_12, .int n0_13, .int n0_14, .int n0_15, .ref a6, .ref a7, .ref a8, .ref a9, .ref a10, .ref a11, .ref a12, .ref a13, .int n0_24, .int n0_25, .int n0_26, .int n0_27, .ref a14, .int n0_29, .int n0_30])), (a5, .inl (ct 1, 900, .inl f5))]) u) t.heap) (aset [(a0, .inr (11, [.int n0_0, .ref a1, .ref a2, .ref a3, .ref a4, .ref a5, .int n0_6, .int n0_7, .int n0_8, .int n0_9, .int n0_10, .long l0_11, .int n0_12, .int n0_13, .int n0_14, .int n0_15, .ref a6, .ref a7, .ref a8, .ref a9, .ref a10, .ref a11, .ref a12, .ref a13, .int n0_24, .int n0_25, .int n0_26, .int n0_27, .ref a14, .int n0_29, .int n0_30])), (a5, .inl (ct 1, 900, .inl f5))])) 0 0 (aset [(a0, .inr (11, [.int n0_0, .ref a1, .ref a2, .ref a3, .ref a4, .ref a5, .int n0_6, .int n0_7, .int n0_8, .int n0_9, .int n0_10, .long l0_11, .int n0_12, .int n0_13, .int n0_14, .int n0_15, .ref a6, .ref a7, .ref a8, .ref a9, .ref a10, .ref a11, .ref a12, .ref a13, .int n0_24, .int n0_25, .int n0_26, .int n0_27, .ref a14, .int n0_29, .int n0_30])), (a5, .inl (ct 1, 900, .inl f5))]) := by
  refine Met.ofW (cc := cX11_next) (maxL := 2) (ret := none) (by decide) rfl ?_
  intro p e s m args below meth c s₁ B hml hv
  obtain ⟨rfl, hP, hK, hD0⟩ := hv
  have hx := B.exec
  have hb := B.bytes
  have hr := B.returns
  have hts := atoms_spec (ws := wsX11_next) B.pre
  have hown : s.vm.findClass RX11 = some m.cls := findClass_of_methodNamed B.named
  have hlocks := B.notSynchronized
  have hD := hD0.aself
  generalize hAe : aset [(a0, .inr (11, [.int n0_0, .ref a1, .ref a2, .ref a3, .ref a4, .ref a5, .int n0_6, .int n0_7, .int n0_8, .int n0_9, .int n0_10, .long l0_11, .int n0_12, .int n0_13, .int n0_14, .int n0_15, .ref a6, .ref a7, .ref a8, .ref a9, .ref a10, .ref a11, .ref a12, .ref a13, .int n0_24, .int n0_25, .int n0_26, .int n0_27, .ref a14, .int n0_29, .int n0_30])), (a5, .inl (ct 1, 900, .inl f5))] = A at hD ⊢
  have hS : va_S A s.heap s.heap [] := va_S.rf
  have hl := lv_entry ([.ref a0]) (n := 2) (Nat.le_of_ble_eq_true rfl)
  rw [lg_entry_eq]
  generalize (lg_sl ([.ref a0]) ++ List.replicate (2 - (lg_sl ([.ref a0])).length) Slot.unset).toArray = ls at hl ⊢
  have hl : lv_has ls 2 [(0, .ref a0)] := hl
  have j0 : ∀ (n : Nat) (v0_0_7 : Int32) (H : Heap) (locs : List Loc) (ls : Array Slot), 2147483648 ≤ v0_0_7.toInt + (n : Int) → rg 0 900 v0_0_7 → v0_0_7.toInt ≤ n0_6.toInt → n0_7.toInt ≤ v0_0_7.toInt → va_P G vwCl [(a0, .inr (11, [.int n0_0, .ref a1, .ref a2, .ref a3, .ref a4, .ref a5, .int n0_6, .int v0_0_7, .int n0_8, .int n0_9, .int n0_10, .long l0_11, .int n0_12, .int n0_13, .int n0_14, .int n0_15, .ref a6, .ref a7, .ref a8, .ref a9, .ref a10, .ref a11, .ref a12, .ref a13, .int n0_24, .int n0_25, .int n0_26, .int n0_27, .ref a14, .int n0_29, .int n0_30])), (a5, .inl (ct 1, 900, .inl f5))] H → va_D A [(a0, .inr (11, [.int n0_0, .ref a1, .ref a2, .ref a3, .ref a4, .ref a5, .int n0_6, .int v0_0_7, .int n0_8, .int n0_9, .int n0_10, .long l0_11, .int n0_12, .int n0_13, .int n0_14, .int n0_15, .ref a6, .ref a7, .ref a8, .ref a9, .ref a10, .ref a11, .ref a12, .ref a13, .int n0_24, .int n0_25, .int n0_26, .int n0_27, .ref a14, .int n0_29, .int n0_30])), (a5, .inl (ct 1, 900, .inl f5))] → va_S A s.heap H locs → lv_has ls 2 [(0, .ref a0)] → W p l e (headSpec wsX11_next ({ frames := 1, cells := 0, slots := 0, locals := 23 })).room s m ([.ref a0] : List Value).toArray below meth c H locs 0 0 (MQ below (va_Qv (fun u : SU => rg 0 900 (u.1 0) ∧ rg 0 4 (u.1 1) ∧ rg 0 900 (u.1 2) ∧ rg 0 1000009 (u.1 3) ∧ (n0_7.toInt ≤ (u.1 0).toInt ∧ (u.1 0).toInt ≤ n0_6.toInt ∧ (n0_12 = 0 → ¬ (u.1 1) = 0 → n0_7.toInt < (u.1 0).toInt)) ∧ True) (fun u t => va_P G vwCl ((fun u : SU => [(a0, .inr (11, [.int n0_0, .ref a1, .ref a2, .ref a3, .ref a4, .ref a5, .int n0_6, .int (u.1 0), .int (u.1 1), .int (u.1 2), .int (u.1 3), .long (u.2.2 0 0), .int n0_12, .int n0_13, .int n0_14, .int n0_15, .ref a6, .ref a7, .ref a8, .ref a9, .ref a10, .ref a11, .ref a12, .ref a13, .int n0_24, .int n0_25, .int n0_26, .int n0_27, .ref a14, .int n0_29, .int n0_30])), (a5, .inl (ct 1, 900, .inl f5))]) u) t.heap) A) ([.ref a0] : List Value).toArray s 0 0 A) (F0 m 0 ls []) := by
    intro n
    induction n with
    | zero => intro v0_0_7 H locs ls hn0 hv0_0_7 ha0 hb0 hP hD hS hl; exact absurd hn0 (by have := Int32.toInt_lt v0_0_7; have := Int32.le_toInt v0_0_7; omega)
    | succ n ih0 =>
      intro v0_0_7 H locs ls hn0 hv0_0_7 ha0 hb0 hP hD hS hl
      refine lv_aload_n hx hb dX11_next_0 rfl (lv_at hl 0 rfl) ?_
      refine lv_aload_n hx hb dX11_next_1 rfl (lv_at hl 0 rfl) ?_
      refine va_get (D := G) (ci := 11) (v := .int v0_0_7) (C := RX11) (T := TX11) (N := 31) hx hb hts (by decide +kernel) hown hK.1 hP 0 rfl rfl 7 (by decide) (hts (.fieldLink RX11 83 "CardHolderModel" "at" "I") (by decide +kernel)) (fun _ h9 => h9) rfl dX11_next_2 ?_
      refine lv_bipush (v := 32) hx hb dX11_next_5 (by decide) ?_
      refine lv_bipush (v := 32) hx hb dX11_next_7 (by decide) ?_
      refine ro_calli (va_runV (As := [.int v0_0_7, .int 32, .int 32]) (rest := []) ⟨hx, hb, hml, hown, hts⟩ (a_X11_isByte l G ct a0 n0_0 a1 a2 a3 a4 a5 n0_6 v0_0_7 n0_8 n0_9 n0_10 l0_11 n0_12 n0_13 n0_14 n0_15 a6 a7 a8 a9 a10 a11 a12 a13 n0_24 n0_25 n0_26 n0_27 a14 n0_29 n0_30 f5 v0_0_7 (32 : Int32) (32 : Int32) hp_n0_6 hv0_0_7) (cwV 3 hts gX11_next_X11_isByte rfl rfl rfl (by decide +kernel) ⟨Nat.le_of_ble_eq_true rfl, Nat.le_of_ble_eq_true rfl⟩) (ro_preV 11 0 hK (hP.sub [0, 1] rfl) rfl rfl) rfl rfl hl.1 rfl (lv_room (Nat.le_of_ble_eq_true rfl)) dX11_next_9 ⟨Nat.zero_le _, Nat.zero_le _⟩) hS hP (fun r9 H locs wr9 hP hS => ?_)
      obtain ⟨p_1, p_2, p_3, p_4, p_5, -⟩ := wr9
      refine lv_if_ne (tgt := 30) hx hb dX11_next_12 (by decide) (fun c12 => ?_) (fun c12 => ?_)
      · have h_6 : rg 1 1 r9 := r_ne_lo_i c12 p_1 (by decide) (by decide)
        have h_7 : rg 0 899 v0_0_7 := (p_2 (rne h_6 (y := 0) (c := 0) (by decide) (by decide)))
        have h_8 : rg 1 900 n0_6 := (p_3 (rne h_6 (y := 0) (c := 0) (by decide) (by decide)))
        refine lv_aload_n hx hb dX11_next_30 rfl (lv_at hl 0 rfl) ?_
        refine lv_dup hx hb dX11_next_31 rfl ?_
        refine va_get (D := G) (ci := 11) (v := .int v0_0_7) (C := RX11) (T := TX11) (N := 31) hx hb hts (by decide +kernel) hown hK.1 hP 0 rfl rfl 7 (by decide) (hts (.fieldLink RX11 83 "CardHolderModel" "at" "I") (by decide +kernel)) (fun _ h9 => h9) rfl dX11_next_32 ?_
        refine lv_iconst (v := 1) hx hb dX11_next_35 (by decide) ?_
        refine lv_iadd hx hb dX11_next_36 ?_
        refine nm_add (e1 := 1) (f := 900) h_7 (rgn 1 (x := 1) (by decide)) (by decide) (fun z36 hz36 ez36 => ?_)
        replace ez36 := eqc_r ez36 (c := 1) (by decide)
        refine va_put (D := G) (ci := 11) (v := .int z36) (ty := .int) (C := RX11) (T := TX11) (N := 31) hx hb hts (by decide +kernel) tyX11 tyX11_ok nmX11 hown hK.1 hP hD hS 0 rfl rfl 7 (by decide) (hts (.fieldLink RX11 83 "CardHolderModel" "at" "I") (by decide +kernel)) (fun _ h9 => h9) rfl (by decide +kernel) rfl rfl (Nat.le_of_ble_eq_true rfl) dX11_next_37 (fun H locs hP hD hS => ?_)
        refine lv_goto (tgt := 0) hx hb dX11_next_40 (by decide) ?_
        exact ih0 z36 _ _ ls (by have q := hn0; have := ez36; omega) (rg_w (c := 0) (d := 900) hz36 (by decide)) (by have := ez36; have := (p_4 (rne h_6 (y := 0) (c := 0) (by decide) (by decide))).1; omega) (by have := ez36; have := hb0; omega) hP hD hS (lv_sub hl [0] rfl)
      · have h_9 : rg 0 0 r9 := r_eq_l_i (e := 0) (f := 0) c12 p_1 (rgn 0 (x := 0) (by decide)) (by decide)
        refine lv_aload_n hx hb dX11_next_15 rfl (lv_at hl 0 rfl) ?_
        refine lv_aload_n hx hb dX11_next_16 rfl (lv_at hl 0 rfl) ?_
        refine va_get (D := G) (ci := 11) (v := .int v0_0_7) (C := RX11) (T := TX11) (N := 31) hx hb hts (by decide +kernel) hown hK.1 hP 0 rfl rfl 7 (by decide) (hts (.fieldLink RX11 83 "CardHolderModel" "at" "I") (by decide +kernel)) (fun _ h9 => h9) rfl dX11_next_17 ?_
        refine lv_bipush (v := 10) hx hb dX11_next_20 (by decide) ?_
        refine lv_bipush (v := 10) hx hb dX11_next_22 (by decide) ?_
        refine ro_calli (va_runV (As := [.int v0_0_7, .int 10, .int 10]) (rest := []) ⟨hx, hb, hml, hown, hts⟩ (a_X11_isByte l G ct a0 n0_0 a1 a2 a3 a4 a5 n0_6 v0_0_7 n0_8 n0_9 n0_10 l0_11 n0_12 n0_13 n0_14 n0_15 a6 a7 a8 a9 a10 a11 a12 a13 n0_24 n0_25 n0_26 n0_27 a14 n0_29 n0_30 f5 v0_0_7 (10 : Int32) (10 : Int32) hp_n0_6 hv0_0_7) (cwV 3 hts gX11_next_X11_isByte rfl rfl rfl (by decide +kernel) ⟨Nat.le_of_ble_eq_true rfl, Nat.le_of_ble_eq_true rfl⟩) (ro_preV 11 0 hK (hP.sub [0, 1] rfl) rfl rfl) rfl rfl hl.1 rfl (lv_room (Nat.le_of_ble_eq_true rfl)) dX11_next_24 ⟨Nat.zero_le _, Nat.zero_le _⟩) hS hP (fun r24 H locs wr24 hP hS => ?_)
        obtain ⟨p_10, p_11, p_12, p_13, p_14, -⟩ := wr24
        refine lv_if_eq (tgt := 43) hx hb dX11_next_27 (by decide) (fun c27 => ?_) (fun c27 => ?_)
        · have h_15 : rg 0 0 r24 := r_eq_l_i (e := 0) (f := 0) c27 p_10 (rgn 0 (x := 0) (by decide)) (by decide)
          refine lv_aload_n hx hb dX11_next_43 rfl (lv_at hl 0 rfl) ?_
          refine lv_aload_n hx hb dX11_next_44 rfl (lv_at hl 0 rfl) ?_
          refine va_get (D := G) (ci := 11) (v := .int v0_0_7) (C := RX11) (T := TX11) (N := 31) hx hb hts (by decide +kernel) hown hK.1 hP 0 rfl rfl 7 (by decide) (hts (.fieldLink RX11 83 "CardHolderModel" "at" "I") (by decide +kernel)) (fun _ h9 => h9) rfl dX11_next_45 ?_
          refine va_put (D := G) (ci := 11) (v := .int v0_0_7) (ty := .int) (C := RX11) (T := TX11) (N := 31) hx hb hts (by decide +kernel) tyX11 tyX11_ok nmX11 hown hK.1 hP hD hS 0 rfl rfl 9 (by decide) (hts (.fieldLink RX11 90 "CardHolderModel" "place" "I") (by decide +kernel)) (fun _ h9 => h9) rfl (by decide +kernel) rfl rfl (Nat.le_of_ble_eq_true rfl) dX11_next_48 (fun H locs hP hD hS => ?_)
          refine lv_aload_n hx hb dX11_next_51 rfl (lv_at hl 0 rfl) ?_
          refine lv_iconst (v := 0) hx hb dX11_next_52 (by decide) ?_
          refine va_put (D := G) (ci := 11) (v := .int 0) (ty := .int) (C := RX11) (T := TX11) (N := 31) hx hb hts (by decide +kernel) tyX11 tyX11_ok nmX11 hown hK.1 hP hD hS 0 rfl rfl 10 (by decide) (hts (.fieldLink RX11 93 "CardHolderModel" "value" "I") (by decide +kernel)) (fun _ h9 => h9) rfl (by decide +kernel) rfl rfl (Nat.le_of_ble_eq_true rfl) dX11_next_53 (fun H locs hP hD hS => ?_)
          refine lv_aload_n hx hb dX11_next_56 rfl (lv_at hl 0 rfl) ?_
          refine lv_lconst (v := 0) hx hb dX11_next_57 (by decide) ?_
          refine va_put (D := G) (ci := 11) (v := .long 0) (ty := .long) (C := RX11) (T := TX11) (N := 31) hx hb hts (by decide +kernel) tyX11 tyX11_ok nmX11 hown hK.1 hP hD hS 0 rfl rfl 11 (by decide) (hts (.fieldLink RX11 96 "CardHolderModel" "word" "J") (by decide +kernel)) (fun _ h9 => h9) rfl (by decide +kernel) rfl rfl (Nat.le_of_ble_eq_true rfl) dX11_next_58 (fun H locs hP hD hS => ?_)
          refine lv_aload_n hx hb dX11_next_61 rfl (lv_at hl 0 rfl) ?_
          refine va_get (D := G) (ci := 11) (v := .int v0_0_7) (C := RX11) (T := TX11) (N := 31) hx hb hts (by decide +kernel) hown hK.1 hP 0 rfl rfl 7 (by decide) (hts (.fieldLink RX11 83 "CardHolderModel" "at" "I") (by decide +kernel)) (fun _ h9 => h9) rfl dX11_next_62 ?_
          refine lv_aload_n hx hb dX11_next_65 rfl (lv_at hl 0 rfl) ?_
          refine va_get (D := G) (ci := 11) (v := .int n0_6) (C := RX11) (T := TX11) (N := 31) hx hb hts (by decide +kernel) hown hK.1 hP 0 rfl rfl 6 (by decide) (hts (.fieldLink RX11 76 "CardHolderModel" "taped" "I") (by decide +kernel)) (fun _ h9 => h9) rfl dX11_next_66 ?_
          refine lv_icmp_ne (tgt := 80) hx hb dX11_next_69 (by decide) (fun c69 => ?_) (fun c69 => ?_)
          · have hlt : v0_0_7.toInt < n0_6.toInt := by have := i_ne c69; have := ha0; omega
            have h_16 : rg 0 899 v0_0_7 := by have := hv0_0_7; have := hp_n0_6; omega
            refine lv_aload_n hx hb dX11_next_80 rfl (lv_at hl 0 rfl) ?_
            refine lv_aload_n hx hb dX11_next_81 rfl (lv_at hl 0 rfl) ?_
            refine va_get (D := G) (ci := 11) (v := .int v0_0_7) (C := RX11) (T := TX11) (N := 31) hx hb hts (by decide +kernel) hown hK.1 hP 0 rfl rfl 7 (by decide) (hts (.fieldLink RX11 83 "CardHolderModel" "at" "I") (by decide +kernel)) (fun _ h9 => h9) rfl dX11_next_82 ?_
            refine lv_bipush (v := 97) hx hb dX11_next_85 (by decide) ?_
            refine lv_bipush (v := 122) hx hb dX11_next_87 (by decide) ?_
            refine ro_calli (va_runV (As := [.int v0_0_7, .int 97, .int 122]) (rest := []) ⟨hx, hb, hml, hown, hts⟩ (a_X11_isByte l G ct a0 n0_0 a1 a2 a3 a4 a5 n0_6 v0_0_7 n0_8 v0_0_7 (0 : Int32) (0 : Int64) n0_12 n0_13 n0_14 n0_15 a6 a7 a8 a9 a10 a11 a12 a13 n0_24 n0_25 n0_26 n0_27 a14 n0_29 n0_30 f5 v0_0_7 (97 : Int32) (122 : Int32) hp_n0_6 (rg_w (c := 0) (d := 900) h_16 (by decide))) (cwV 3 hts gX11_next_X11_isByte rfl rfl rfl (by decide +kernel) ⟨Nat.le_of_ble_eq_true rfl, Nat.le_of_ble_eq_true rfl⟩) (ro_preV 11 0 hK (hP.sub [0, 1] rfl) rfl rfl) rfl rfl hl.1 rfl (lv_room (Nat.le_of_ble_eq_true rfl)) dX11_next_89 ⟨Nat.zero_le _, Nat.zero_le _⟩) hS hP (fun r89 H locs wr89 hP hS => ?_)
            obtain ⟨p_17, p_18, p_19, p_20, p_21, -⟩ := wr89
            refine lv_if_eq (tgt := 188) hx hb dX11_next_92 (by decide) (fun c92 => ?_) (fun c92 => ?_)
            · have h_22 : rg 0 0 r89 := r_eq_l_i (e := 0) (f := 0) c92 p_17 (rgn 0 (x := 0) (by decide)) (by decide)
              refine lv_aload_n hx hb dX11_next_188 rfl (lv_at hl 0 rfl) ?_
              refine lv_aload_n hx hb dX11_next_189 rfl (lv_at hl 0 rfl) ?_
              refine va_get (D := G) (ci := 11) (v := .int v0_0_7) (C := RX11) (T := TX11) (N := 31) hx hb hts (by decide +kernel) hown hK.1 hP 0 rfl rfl 7 (by decide) (hts (.fieldLink RX11 83 "CardHolderModel" "at" "I") (by decide +kernel)) (fun _ h9 => h9) rfl dX11_next_190 ?_
              refine lv_bipush (v := 48) hx hb dX11_next_193 (by decide) ?_
              refine lv_bipush (v := 57) hx hb dX11_next_195 (by decide) ?_
              refine ro_calli (va_runV (As := [.int v0_0_7, .int 48, .int 57]) (rest := []) ⟨hx, hb, hml, hown, hts⟩ (a_X11_isByte l G ct a0 n0_0 a1 a2 a3 a4 a5 n0_6 v0_0_7 n0_8 v0_0_7 (0 : Int32) (0 : Int64) n0_12 n0_13 n0_14 n0_15 a6 a7 a8 a9 a10 a11 a12 a13 n0_24 n0_25 n0_26 n0_27 a14 n0_29 n0_30 f5 v0_0_7 (48 : Int32) (57 : Int32) hp_n0_6 (rg_w (c := 0) (d := 900) h_16 (by decide))) (cwV 3 hts gX11_next_X11_isByte rfl rfl rfl (by decide +kernel) ⟨Nat.le_of_ble_eq_true rfl, Nat.le_of_ble_eq_true rfl⟩) (ro_preV 11 0 hK (hP.sub [0, 1] rfl) rfl rfl) rfl rfl hl.1 rfl (lv_room (Nat.le_of_ble_eq_true rfl)) dX11_next_197 ⟨Nat.zero_le _, Nat.zero_le _⟩) hS hP (fun r197 H locs wr197 hP hS => ?_)
              obtain ⟨p_23, p_24, p_25, p_26, p_27, -⟩ := wr197
              refine lv_if_eq (tgt := 274) hx hb dX11_next_200 (by decide) (fun c200 => ?_) (fun c200 => ?_)
              · have h_28 : rg 0 0 r197 := r_eq_l_i (e := 0) (f := 0) c200 p_23 (rgn 0 (x := 0) (by decide)) (by decide)
                refine lv_aload_n hx hb dX11_next_274 rfl (lv_at hl 0 rfl) ?_
                refine lv_aload_n hx hb dX11_next_275 rfl (lv_at hl 0 rfl) ?_
                refine va_get (D := G) (ci := 11) (v := .ref a5) (C := RX11) (T := TX11) (N := 31) hx hb hts (by decide +kernel) hown hK.1 hP 0 rfl rfl 5 (by decide) (hts (.fieldLink RX11 23 "CardHolderModel" "tape" "[B") (by decide +kernel)) (fun _ h9 => h9) rfl dX11_next_276 ?_
                refine lv_aload_n hx hb dX11_next_279 rfl (lv_at hl 0 rfl) ?_
                refine va_get (D := G) (ci := 11) (v := .int v0_0_7) (C := RX11) (T := TX11) (N := 31) hx hb hts (by decide +kernel) hown hK.1 hP 0 rfl rfl 7 (by decide) (hts (.fieldLink RX11 83 "CardHolderModel" "at" "I") (by decide +kernel)) (fun _ h9 => h9) rfl dX11_next_280 ?_
                refine va_bald hx hb hK.1 hP 1 1 rfl rfl (in_rg h_16 (by decide)) dX11_next_283 ?_
                refine lv_topi (fun z283 gz283 => ?_)
                refine lv_bipush (v := 59) hx hb dX11_next_284 (by decide) ?_
                refine lv_icmp_ne (tgt := 293) hx hb dX11_next_286 (by decide) (fun c286 => ?_) (fun c286 => ?_)
                · refine lv_iconst (v := 4) hx hb dX11_next_293 (by decide) ?_
                  refine va_put (D := G) (ci := 11) (v := .int 4) (ty := .int) (C := RX11) (T := TX11) (N := 31) hx hb hts (by decide +kernel) tyX11 tyX11_ok nmX11 hown hK.1 hP hD hS 0 rfl rfl 8 (by decide) (hts (.fieldLink RX11 100 "CardHolderModel" "token" "I") (by decide +kernel)) (fun _ h9 => h9) rfl (by decide +kernel) rfl rfl (Nat.le_of_ble_eq_true rfl) dX11_next_294 (fun H locs hP hD hS => ?_)
                  refine lv_aload_n hx hb dX11_next_297 rfl (lv_at hl 0 rfl) ?_
                  refine lv_dup hx hb dX11_next_298 rfl ?_
                  refine va_get (D := G) (ci := 11) (v := .int v0_0_7) (C := RX11) (T := TX11) (N := 31) hx hb hts (by decide +kernel) hown hK.1 hP 0 rfl rfl 7 (by decide) (hts (.fieldLink RX11 83 "CardHolderModel" "at" "I") (by decide +kernel)) (fun _ h9 => h9) rfl dX11_next_299 ?_
                  refine lv_iconst (v := 1) hx hb dX11_next_302 (by decide) ?_
                  refine lv_iadd hx hb dX11_next_303 ?_
                  refine nm_add (e1 := 1) (f := 900) h_16 (rgn 1 (x := 1) (by decide)) (by decide) (fun z303 hz303 ez303 => ?_)
                  replace ez303 := eqc_r ez303 (c := 1) (by decide)
                  refine va_put (D := G) (ci := 11) (v := .int z303) (ty := .int) (C := RX11) (T := TX11) (N := 31) hx hb hts (by decide +kernel) tyX11 tyX11_ok nmX11 hown hK.1 hP hD hS 0 rfl rfl 7 (by decide) (hts (.fieldLink RX11 83 "CardHolderModel" "at" "I") (by decide +kernel)) (fun _ h9 => h9) rfl (by decide +kernel) rfl rfl (Nat.le_of_ble_eq_true rfl) dX11_next_304 (fun H locs hP hD hS => ?_)
                  exact W.vret hx hb hr (fun t ht hW => ⟨⟨(fun k => ([z303, 4, v0_0_7, 0] : List Int32).getD k 0, fun k => ([] : List (Nat → Int32)).getD k (fun _ => 0), fun k => ([fun _ => 0] : List (Nat → Int64)).getD k (fun _ => 0)), rfl, ⟨(rg_w (c := 0) (d := 900) hz303 (by decide)), (rg_w (c := 0) (d := 4) (rgn 4 (x := 4) (by decide)) (by decide)), (rg_w (c := 0) (d := 900) h_16 (by decide)), (rg_w (c := 0) (d := 1000009) (rgn 0 (x := 0) (by decide)) (by decide)), ⟨(show n0_7.toInt ≤ (z303).toInt from (by have := ez303; have := hb0; omega)), (show (z303).toInt ≤ n0_6.toInt from (by have := ez303; have := hlt; omega)), (fun hb ht => (show n0_7.toInt < (z303).toInt from (fun _ => by have := ez303; have := hb0; omega) ht))⟩, trivial⟩, hp_at ht hP⟩, hS.F ht⟩) hS.2.2 dX11_next_307
                · have h_29 : rg 59 59 z283 := r_eq_l_i (e := 59) (f := 59) c286 (rg_t z283) (rgn 59 (x := 59) (by decide)) (by decide)
                  refine lv_iconst (v := 3) hx hb dX11_next_289 (by decide) ?_
                  refine lv_goto (tgt := 294) hx hb dX11_next_290 (by decide) ?_
                  refine va_put (D := G) (ci := 11) (v := .int 3) (ty := .int) (C := RX11) (T := TX11) (N := 31) hx hb hts (by decide +kernel) tyX11 tyX11_ok nmX11 hown hK.1 hP hD hS 0 rfl rfl 8 (by decide) (hts (.fieldLink RX11 100 "CardHolderModel" "token" "I") (by decide +kernel)) (fun _ h9 => h9) rfl (by decide +kernel) rfl rfl (Nat.le_of_ble_eq_true rfl) dX11_next_294 (fun H locs hP hD hS => ?_)
                  refine lv_aload_n hx hb dX11_next_297 rfl (lv_at hl 0 rfl) ?_
                  refine lv_dup hx hb dX11_next_298 rfl ?_
                  refine va_get (D := G) (ci := 11) (v := .int v0_0_7) (C := RX11) (T := TX11) (N := 31) hx hb hts (by decide +kernel) hown hK.1 hP 0 rfl rfl 7 (by decide) (hts (.fieldLink RX11 83 "CardHolderModel" "at" "I") (by decide +kernel)) (fun _ h9 => h9) rfl dX11_next_299 ?_
                  refine lv_iconst (v := 1) hx hb dX11_next_302 (by decide) ?_
                  refine lv_iadd hx hb dX11_next_303 ?_
                  refine nm_add (e1 := 1) (f := 900) h_16 (rgn 1 (x := 1) (by decide)) (by decide) (fun z303 hz303 ez303 => ?_)
                  replace ez303 := eqc_r ez303 (c := 1) (by decide)
                  refine va_put (D := G) (ci := 11) (v := .int z303) (ty := .int) (C := RX11) (T := TX11) (N := 31) hx hb hts (by decide +kernel) tyX11 tyX11_ok nmX11 hown hK.1 hP hD hS 0 rfl rfl 7 (by decide) (hts (.fieldLink RX11 83 "CardHolderModel" "at" "I") (by decide +kernel)) (fun _ h9 => h9) rfl (by decide +kernel) rfl rfl (Nat.le_of_ble_eq_true rfl) dX11_next_304 (fun H locs hP hD hS => ?_)
                  exact W.vret hx hb hr (fun t ht hW => ⟨⟨(fun k => ([z303, 3, v0_0_7, 0] : List Int32).getD k 0, fun k => ([] : List (Nat → Int32)).getD k (fun _ => 0), fun k => ([fun _ => 0] : List (Nat → Int64)).getD k (fun _ => 0)), rfl, ⟨(rg_w (c := 0) (d := 900) hz303 (by decide)), (rg_w (c := 0) (d := 4) (rgn 3 (x := 3) (by decide)) (by decide)), (rg_w (c := 0) (d := 900) h_16 (by decide)), (rg_w (c := 0) (d := 1000009) (rgn 0 (x := 0) (by decide)) (by decide)), ⟨(show n0_7.toInt ≤ (z303).toInt from (by have := ez303; have := hb0; omega)), (show (z303).toInt ≤ n0_6.toInt from (by have := ez303; have := hlt; omega)), (fun hb ht => (show n0_7.toInt < (z303).toInt from (fun _ => by have := ez303; have := hb0; omega) ht))⟩, trivial⟩, hp_at ht hP⟩, hS.F ht⟩) hS.2.2 dX11_next_307
              · have h_30 : rg 1 1 r197 := r_ne_lo_i c200 p_23 (by decide) (by decide)
                have h_31 : rg 1 900 n0_6 := (p_25 (rne h_30 (y := 0) (c := 0) (by decide) (by decide)))
                refine lv_aload_n hx hb dX11_next_203 rfl (lv_at hl 0 rfl) ?_
                refine lv_iconst (v := 2) hx hb dX11_next_204 (by decide) ?_
                refine va_put (D := G) (ci := 11) (v := .int 2) (ty := .int) (C := RX11) (T := TX11) (N := 31) hx hb hts (by decide +kernel) tyX11 tyX11_ok nmX11 hown hK.1 hP hD hS 0 rfl rfl 8 (by decide) (hts (.fieldLink RX11 100 "CardHolderModel" "token" "I") (by decide +kernel)) (fun _ h9 => h9) rfl (by decide +kernel) rfl rfl (Nat.le_of_ble_eq_true rfl) dX11_next_205 (fun H locs hP hD hS => ?_)
                have j208 : ∀ (n : Nat) (v208_0_7 : Int32) (v208_0_10 : Int32) (H : Heap) (locs : List Loc) (ls : Array Slot), 2147483648 ≤ v208_0_7.toInt + (n : Int) → rg 0 900 v208_0_7 → rg 0 1000009 v208_0_10 → v208_0_7.toInt ≤ n0_6.toInt → (v0_0_7 = v208_0_7 ∨ v0_0_7.toInt < v208_0_7.toInt) → va_P G vwCl [(a0, .inr (11, [.int n0_0, .ref a1, .ref a2, .ref a3, .ref a4, .ref a5, .int n0_6, .int v208_0_7, .int 2, .int v0_0_7, .int v208_0_10, .long 0, .int n0_12, .int n0_13, .int n0_14, .int n0_15, .ref a6, .ref a7, .ref a8, .ref a9, .ref a10, .ref a11, .ref a12, .ref a13, .int n0_24, .int n0_25, .int n0_26, .int n0_27, .ref a14, .int n0_29, .int n0_30])), (a5, .inl (ct 1, 900, .inl f5))] H → va_D A [(a0, .inr (11, [.int n0_0, .ref a1, .ref a2, .ref a3, .ref a4, .ref a5, .int n0_6, .int v208_0_7, .int 2, .int v0_0_7, .int v208_0_10, .long 0, .int n0_12, .int n0_13, .int n0_14, .int n0_15, .ref a6, .ref a7, .ref a8, .ref a9, .ref a10, .ref a11, .ref a12, .ref a13, .int n0_24, .int n0_25, .int n0_26, .int n0_27, .ref a14, .int n0_29, .int n0_30])), (a5, .inl (ct 1, 900, .inl f5))] → va_S A s.heap H locs → lv_has ls 2 [(0, .ref a0)] → W p l e (headSpec wsX11_next ({ frames := 1, cells := 0, slots := 0, locals := 23 })).room s m ([.ref a0] : List Value).toArray below meth c H locs 0 0 (MQ below (va_Qv (fun u : SU => rg 0 900 (u.1 0) ∧ rg 0 4 (u.1 1) ∧ rg 0 900 (u.1 2) ∧ rg 0 1000009 (u.1 3) ∧ (n0_7.toInt ≤ (u.1 0).toInt ∧ (u.1 0).toInt ≤ n0_6.toInt ∧ (n0_12 = 0 → ¬ (u.1 1) = 0 → n0_7.toInt < (u.1 0).toInt)) ∧ True) (fun u t => va_P G vwCl ((fun u : SU => [(a0, .inr (11, [.int n0_0, .ref a1, .ref a2, .ref a3, .ref a4, .ref a5, .int n0_6, .int (u.1 0), .int (u.1 1), .int (u.1 2), .int (u.1 3), .long (u.2.2 0 0), .int n0_12, .int n0_13, .int n0_14, .int n0_15, .ref a6, .ref a7, .ref a8, .ref a9, .ref a10, .ref a11, .ref a12, .ref a13, .int n0_24, .int n0_25, .int n0_26, .int n0_27, .ref a14, .int n0_29, .int n0_30])), (a5, .inl (ct 1, 900, .inl f5))]) u) t.heap) A) ([.ref a0] : List Value).toArray s 0 0 A) (F0 m 208 ls []) := by
                  intro n
                  induction n with
                  | zero => intro v208_0_7 v208_0_10 H locs ls hn208 hv208_0_7 hv208_0_10 ha208 hb208 hP hD hS hl; exact absurd hn208 (by have := Int32.toInt_lt v208_0_7; have := Int32.le_toInt v208_0_7; omega)
                  | succ n ih208 =>
                    intro v208_0_7 v208_0_10 H locs ls hn208 hv208_0_7 hv208_0_10 ha208 hb208 hP hD hS hl
                    refine lv_aload_n hx hb dX11_next_208 rfl (lv_at hl 0 rfl) ?_
                    refine lv_aload_n hx hb dX11_next_209 rfl (lv_at hl 0 rfl) ?_
                    refine va_get (D := G) (ci := 11) (v := .int v208_0_7) (C := RX11) (T := TX11) (N := 31) hx hb hts (by decide +kernel) hown hK.1 hP 0 rfl rfl 7 (by decide) (hts (.fieldLink RX11 83 "CardHolderModel" "at" "I") (by decide +kernel)) (fun _ h9 => h9) rfl dX11_next_210 ?_
                    refine lv_bipush (v := 48) hx hb dX11_next_213 (by decide) ?_
                    refine lv_bipush (v := 57) hx hb dX11_next_215 (by decide) ?_
                    refine ro_calli (va_runV (As := [.int v208_0_7, .int 48, .int 57]) (rest := []) ⟨hx, hb, hml, hown, hts⟩ (a_X11_isByte l G ct a0 n0_0 a1 a2 a3 a4 a5 n0_6 v208_0_7 (2 : Int32) v0_0_7 v208_0_10 (0 : Int64) n0_12 n0_13 n0_14 n0_15 a6 a7 a8 a9 a10 a11 a12 a13 n0_24 n0_25 n0_26 n0_27 a14 n0_29 n0_30 f5 v208_0_7 (48 : Int32) (57 : Int32) (rg_w (c := 0) (d := 900) h_31 (by decide)) hv208_0_7) (cwV 3 hts gX11_next_X11_isByte rfl rfl rfl (by decide +kernel) ⟨Nat.le_of_ble_eq_true rfl, Nat.le_of_ble_eq_true rfl⟩) (ro_preV 11 0 hK (hP.sub [0, 1] rfl) rfl rfl) rfl rfl hl.1 rfl (lv_room (Nat.le_of_ble_eq_true rfl)) dX11_next_217 ⟨Nat.zero_le _, Nat.zero_le _⟩) hS hP (fun r217 H locs wr217 hP hS => ?_)
                    obtain ⟨p_32, p_33, p_34, p_35, p_36, -⟩ := wr217
                    refine lv_if_eq (tgt := 307) hx hb dX11_next_220 (by decide) (fun c220 => ?_) (fun c220 => ?_)
                    · have h_37 : rg 0 0 r217 := r_eq_l_i (e := 0) (f := 0) c220 p_32 (rgn 0 (x := 0) (by decide)) (by decide)
                      have hx208 : v0_0_7.toInt < v208_0_7.toInt := st_x hb208 (p_26 (rne h_30 (y := 0) (c := 0) (by decide) (by decide))) (p_36 (req h_37 (y := 0) (by decide)))
                      exact W.vret hx hb hr (fun t ht hW => ⟨⟨(fun k => ([v208_0_7, 2, v0_0_7, v208_0_10] : List Int32).getD k 0, fun k => ([] : List (Nat → Int32)).getD k (fun _ => 0), fun k => ([fun _ => 0] : List (Nat → Int64)).getD k (fun _ => 0)), rfl, ⟨hv208_0_7, (rg_w (c := 0) (d := 4) (rgn 2 (x := 2) (by decide)) (by decide)), (rg_w (c := 0) (d := 900) h_16 (by decide)), hv208_0_10, ⟨(show n0_7.toInt ≤ (v208_0_7).toInt from (by have := hx208; have := hb0; omega)), (show (v208_0_7).toInt ≤ n0_6.toInt from ha208), (fun hb ht => (show n0_7.toInt < (v208_0_7).toInt from (fun _ => by have := hx208; have := hb0; omega) ht))⟩, trivial⟩, hp_at ht hP⟩, hS.F ht⟩) hS.2.2 dX11_next_307
                    · have h_38 : rg 1 1 r217 := r_ne_lo_i c220 p_32 (by decide) (by decide)
                      have h_39 : rg 0 899 v208_0_7 := (p_33 (rne h_38 (y := 0) (c := 0) (by decide) (by decide)))
                      refine lv_aload_n hx hb dX11_next_223 rfl (lv_at hl 0 rfl) ?_
                      refine lv_aload_n hx hb dX11_next_224 rfl (lv_at hl 0 rfl) ?_
                      refine va_get (D := G) (ci := 11) (v := .int v208_0_10) (C := RX11) (T := TX11) (N := 31) hx hb hts (by decide +kernel) hown hK.1 hP 0 rfl rfl 10 (by decide) (hts (.fieldLink RX11 93 "CardHolderModel" "value" "I") (by decide +kernel)) (fun _ h9 => h9) rfl dX11_next_225 ?_
                      refine lv_ldc (own := RX11) (v := 100000) hx hb hown (hts (.constant RX11 109 (100000)) (by decide +kernel)) dX11_next_228 ?_
                      have j258 : ∀ (y258_0 : Int32) (H : Heap) (locs : List Loc) (ls : Array Slot), rg 0 1000009 y258_0 → va_P G vwCl [(a0, .inr (11, [.int n0_0, .ref a1, .ref a2, .ref a3, .ref a4, .ref a5, .int n0_6, .int v208_0_7, .int 2, .int v0_0_7, .int v208_0_10, .long 0, .int n0_12, .int n0_13, .int n0_14, .int n0_15, .ref a6, .ref a7, .ref a8, .ref a9, .ref a10, .ref a11, .ref a12, .ref a13, .int n0_24, .int n0_25, .int n0_26, .int n0_27, .ref a14, .int n0_29, .int n0_30])), (a5, .inl (ct 1, 900, .inl f5))] H → va_D A [(a0, .inr (11, [.int n0_0, .ref a1, .ref a2, .ref a3, .ref a4, .ref a5, .int n0_6, .int v208_0_7, .int 2, .int v0_0_7, .int v208_0_10, .long 0, .int n0_12, .int n0_13, .int n0_14, .int n0_15, .ref a6, .ref a7, .ref a8, .ref a9, .ref a10, .ref a11, .ref a12, .ref a13, .int n0_24, .int n0_25, .int n0_26, .int n0_27, .ref a14, .int n0_29, .int n0_30])), (a5, .inl (ct 1, 900, .inl f5))] → va_S A s.heap H locs → lv_has ls 2 [(0, .ref a0)] → W p l e (headSpec wsX11_next ({ frames := 1, cells := 0, slots := 0, locals := 23 })).room s m ([.ref a0] : List Value).toArray below meth c H locs 0 0 (MQ below (va_Qv (fun u : SU => rg 0 900 (u.1 0) ∧ rg 0 4 (u.1 1) ∧ rg 0 900 (u.1 2) ∧ rg 0 1000009 (u.1 3) ∧ (n0_7.toInt ≤ (u.1 0).toInt ∧ (u.1 0).toInt ≤ n0_6.toInt ∧ (n0_12 = 0 → ¬ (u.1 1) = 0 → n0_7.toInt < (u.1 0).toInt)) ∧ True) (fun u t => va_P G vwCl ((fun u : SU => [(a0, .inr (11, [.int n0_0, .ref a1, .ref a2, .ref a3, .ref a4, .ref a5, .int n0_6, .int (u.1 0), .int (u.1 1), .int (u.1 2), .int (u.1 3), .long (u.2.2 0 0), .int n0_12, .int n0_13, .int n0_14, .int n0_15, .ref a6, .ref a7, .ref a8, .ref a9, .ref a10, .ref a11, .ref a12, .ref a13, .int n0_24, .int n0_25, .int n0_26, .int n0_27, .ref a14, .int n0_29, .int n0_30])), (a5, .inl (ct 1, 900, .inl f5))]) u) t.heap) A) ([.ref a0] : List Value).toArray s 0 0 A) (F0 m 258 ls [.int y258_0, .ref a0]) := by
                        intro y258_0 H locs ls hy258_0 hP hD hS hl
                        refine va_put (D := G) (ci := 11) (v := .int y258_0) (ty := .int) (C := RX11) (T := TX11) (N := 31) hx hb hts (by decide +kernel) tyX11 tyX11_ok nmX11 hown hK.1 hP hD hS 0 rfl rfl 10 (by decide) (hts (.fieldLink RX11 93 "CardHolderModel" "value" "I") (by decide +kernel)) (fun _ h9 => h9) rfl (by decide +kernel) rfl rfl (Nat.le_of_ble_eq_true rfl) dX11_next_258 (fun H locs hP hD hS => ?_)
                        refine lv_aload_n hx hb dX11_next_261 rfl (lv_at hl 0 rfl) ?_
                        refine lv_dup hx hb dX11_next_262 rfl ?_
                        refine va_get (D := G) (ci := 11) (v := .int v208_0_7) (C := RX11) (T := TX11) (N := 31) hx hb hts (by decide +kernel) hown hK.1 hP 0 rfl rfl 7 (by decide) (hts (.fieldLink RX11 83 "CardHolderModel" "at" "I") (by decide +kernel)) (fun _ h9 => h9) rfl dX11_next_263 ?_
                        refine lv_iconst (v := 1) hx hb dX11_next_266 (by decide) ?_
                        refine lv_iadd hx hb dX11_next_267 ?_
                        refine nm_add (e1 := 1) (f := 900) h_39 (rgn 1 (x := 1) (by decide)) (by decide) (fun z267 hz267 ez267 => ?_)
                        replace ez267 := eqc_r ez267 (c := 1) (by decide)
                        refine va_put (D := G) (ci := 11) (v := .int z267) (ty := .int) (C := RX11) (T := TX11) (N := 31) hx hb hts (by decide +kernel) tyX11 tyX11_ok nmX11 hown hK.1 hP hD hS 0 rfl rfl 7 (by decide) (hts (.fieldLink RX11 83 "CardHolderModel" "at" "I") (by decide +kernel)) (fun _ h9 => h9) rfl (by decide +kernel) rfl rfl (Nat.le_of_ble_eq_true rfl) dX11_next_268 (fun H locs hP hD hS => ?_)
                        refine lv_goto (tgt := 208) hx hb dX11_next_271 (by decide) ?_
                        exact ih208 z267 y258_0 _ _ ls (by have q := hn208; have := ez267; omega) (rg_w (c := 0) (d := 900) hz267 (by decide)) hy258_0 (by have := ez267; have := (p_35 (rne h_38 (y := 0) (c := 0) (by decide) (by decide))).1; omega) (Or.inr (st_1 hb208 ez267)) hP hD hS (lv_sub hl [0] rfl)
                      refine lv_icmp_le (tgt := 238) hx hb dX11_next_230 (by decide) (fun c230 => ?_) (fun c230 => ?_)
                      · have h_40 : rg 0 100000 v208_0_10 := r_le_l_i c230 hv208_0_10 (rgn 100000 (x := 100000) (by decide))
                        refine lv_bipush (v := 10) hx hb dX11_next_238 (by decide) ?_
                        refine lv_aload_n hx hb dX11_next_240 rfl (lv_at hl 0 rfl) ?_
                        refine va_get (D := G) (ci := 11) (v := .int v208_0_10) (C := RX11) (T := TX11) (N := 31) hx hb hts (by decide +kernel) hown hK.1 hP 0 rfl rfl 10 (by decide) (hts (.fieldLink RX11 93 "CardHolderModel" "value" "I") (by decide +kernel)) (fun _ h9 => h9) rfl dX11_next_241 ?_
                        refine lv_imul hx hb dX11_next_244 ?_
                        refine nm_mul (e1 := 0) (f := 1000000) (rgn 10 (x := 10) (by decide)) h_40 (by decide) (fun z244 hz244 ez244 => ?_)
                        refine lv_aload_n hx hb dX11_next_245 rfl (lv_at hl 0 rfl) ?_
                        refine va_get (D := G) (ci := 11) (v := .ref a5) (C := RX11) (T := TX11) (N := 31) hx hb hts (by decide +kernel) hown hK.1 hP 0 rfl rfl 5 (by decide) (hts (.fieldLink RX11 23 "CardHolderModel" "tape" "[B") (by decide +kernel)) (fun _ h9 => h9) rfl dX11_next_246 ?_
                        refine lv_aload_n hx hb dX11_next_249 rfl (lv_at hl 0 rfl) ?_
                        refine va_get (D := G) (ci := 11) (v := .int v208_0_7) (C := RX11) (T := TX11) (N := 31) hx hb hts (by decide +kernel) hown hK.1 hP 0 rfl rfl 7 (by decide) (hts (.fieldLink RX11 83 "CardHolderModel" "at" "I") (by decide +kernel)) (fun _ h9 => h9) rfl dX11_next_250 ?_
                        refine va_bald hx hb hK.1 hP 1 1 rfl rfl (in_rg h_39 (by decide)) dX11_next_253 ?_
                        refine lv_topi (fun z253 gz253 => ?_)
                        have h_41 : rg 48 57 z253 := by rw [gz253]; exact ⟨(p_35 (rne h_38 (y := 0) (c := 0) (by decide) (by decide))).2.1, (p_35 (rne h_38 (y := 0) (c := 0) (by decide) (by decide))).2.2⟩
                        refine lv_iadd hx hb dX11_next_254 ?_
                        refine nm_add (e1 := 48) (f := 1000057) hz244 h_41 (by decide) (fun z254 hz254 ez254 => ?_)
                        refine lv_bipush (v := 48) hx hb dX11_next_255 (by decide) ?_
                        refine lv_isub hx hb dX11_next_257 ?_
                        refine nm_sub (e1 := 0) (f := 1000009) hz254 (rgn 48 (x := 48) (by decide)) (by decide) (fun z257 hz257 ez257 => ?_)
                        replace ez257 := eqc_s ez257 (c := (-48)) (by decide)
                        exact j258 z257 _ _ ls hz257 hP hD hS (lv_sub hl [0] rfl)
                      · have h_42 : rg 100001 1000009 v208_0_10 := r_lt_r_i (nle_i c230) (rgn 100000 (x := 100000) (by decide)) hv208_0_10 (by decide)
                        refine lv_ldc (own := RX11) (v := 1000000) hx hb hown (hts (.constant RX11 110 (1000000)) (by decide +kernel)) dX11_next_233 ?_
                        refine lv_goto (tgt := 258) hx hb dX11_next_235 (by decide) ?_
                        exact j258 (1000000 : Int32) _ _ ls (rg_w (c := 0) (d := 1000009) (rgn 1000000 (x := 1000000) (by decide)) (by decide)) hP hD hS (lv_sub hl [0] rfl)
                exact j208 4294967296 v0_0_7 (0 : Int32) _ _ ls (ms_e v0_0_7) (rg_w (c := 0) (d := 900) h_16 (by decide)) (rg_w (c := 0) (d := 1000009) (rgn 0 (x := 0) (by decide)) (by decide)) ha0 (Or.inl rfl) hP hD hS (lv_sub hl [0] rfl)
            · have h_43 : rg 1 1 r89 := r_ne_lo_i c92 p_17 (by decide) (by decide)
              have h_44 : rg 1 900 n0_6 := (p_19 (rne h_43 (y := 0) (c := 0) (by decide) (by decide)))
              refine lv_aload_n hx hb dX11_next_95 rfl (lv_at hl 0 rfl) ?_
              refine lv_iconst (v := 1) hx hb dX11_next_96 (by decide) ?_
              refine va_put (D := G) (ci := 11) (v := .int 1) (ty := .int) (C := RX11) (T := TX11) (N := 31) hx hb hts (by decide +kernel) tyX11 tyX11_ok nmX11 hown hK.1 hP hD hS 0 rfl rfl 8 (by decide) (hts (.fieldLink RX11 100 "CardHolderModel" "token" "I") (by decide +kernel)) (fun _ h9 => h9) rfl (by decide +kernel) rfl rfl (Nat.le_of_ble_eq_true rfl) dX11_next_97 (fun H locs hP hD hS => ?_)
              refine lv_iconst (v := 0) hx hb dX11_next_100 (by decide) ?_
              refine lv_istore_n (lv' := [(1, .int 0), (0, .ref a0)]) hx hb dX11_next_101 rfl hl (by decide) rfl (fun ls hl => ?_)
              have j102 : ∀ (n : Nat) (x102_1 : Int32) (v102_0_7 : Int32) (v102_0_11 : Int64) (H : Heap) (locs : List Loc) (ls : Array Slot), 2147483648 ≤ v102_0_7.toInt + (n : Int) → rg 0 900 v102_0_7 → v102_0_7.toInt ≤ n0_6.toInt → (v0_0_7 = v102_0_7 ∨ v0_0_7.toInt < v102_0_7.toInt) → va_P G vwCl [(a0, .inr (11, [.int n0_0, .ref a1, .ref a2, .ref a3, .ref a4, .ref a5, .int n0_6, .int v102_0_7, .int 1, .int v0_0_7, .int 0, .long v102_0_11, .int n0_12, .int n0_13, .int n0_14, .int n0_15, .ref a6, .ref a7, .ref a8, .ref a9, .ref a10, .ref a11, .ref a12, .ref a13, .int n0_24, .int n0_25, .int n0_26, .int n0_27, .ref a14, .int n0_29, .int n0_30])), (a5, .inl (ct 1, 900, .inl f5))] H → va_D A [(a0, .inr (11, [.int n0_0, .ref a1, .ref a2, .ref a3, .ref a4, .ref a5, .int n0_6, .int v102_0_7, .int 1, .int v0_0_7, .int 0, .long v102_0_11, .int n0_12, .int n0_13, .int n0_14, .int n0_15, .ref a6, .ref a7, .ref a8, .ref a9, .ref a10, .ref a11, .ref a12, .ref a13, .int n0_24, .int n0_25, .int n0_26, .int n0_27, .ref a14, .int n0_29, .int n0_30])), (a5, .inl (ct 1, 900, .inl f5))] → va_S A s.heap H locs → lv_has ls 2 [(0, .ref a0), (1, .int x102_1)] → W p l e (headSpec wsX11_next ({ frames := 1, cells := 0, slots := 0, locals := 23 })).room s m ([.ref a0] : List Value).toArray below meth c H locs 0 0 (MQ below (va_Qv (fun u : SU => rg 0 900 (u.1 0) ∧ rg 0 4 (u.1 1) ∧ rg 0 900 (u.1 2) ∧ rg 0 1000009 (u.1 3) ∧ (n0_7.toInt ≤ (u.1 0).toInt ∧ (u.1 0).toInt ≤ n0_6.toInt ∧ (n0_12 = 0 → ¬ (u.1 1) = 0 → n0_7.toInt < (u.1 0).toInt)) ∧ True) (fun u t => va_P G vwCl ((fun u : SU => [(a0, .inr (11, [.int n0_0, .ref a1, .ref a2, .ref a3, .ref a4, .ref a5, .int n0_6, .int (u.1 0), .int (u.1 1), .int (u.1 2), .int (u.1 3), .long (u.2.2 0 0), .int n0_12, .int n0_13, .int n0_14, .int n0_15, .ref a6, .ref a7, .ref a8, .ref a9, .ref a10, .ref a11, .ref a12, .ref a13, .int n0_24, .int n0_25, .int n0_26, .int n0_27, .ref a14, .int n0_29, .int n0_30])), (a5, .inl (ct 1, 900, .inl f5))]) u) t.heap) A) ([.ref a0] : List Value).toArray s 0 0 A) (F0 m 102 ls []) := by
                intro n
                induction n with
                | zero => intro x102_1 v102_0_7 v102_0_11 H locs ls hn102 hv102_0_7 ha102 hb102 hP hD hS hl; exact absurd hn102 (by have := Int32.toInt_lt v102_0_7; have := Int32.le_toInt v102_0_7; omega)
                | succ n ih102 =>
                  intro x102_1 v102_0_7 v102_0_11 H locs ls hn102 hv102_0_7 ha102 hb102 hP hD hS hl
                  refine lv_aload_n hx hb dX11_next_102 rfl (lv_at hl 0 rfl) ?_
                  refine lv_aload_n hx hb dX11_next_103 rfl (lv_at hl 0 rfl) ?_
                  refine va_get (D := G) (ci := 11) (v := .int v102_0_7) (C := RX11) (T := TX11) (N := 31) hx hb hts (by decide +kernel) hown hK.1 hP 0 rfl rfl 7 (by decide) (hts (.fieldLink RX11 83 "CardHolderModel" "at" "I") (by decide +kernel)) (fun _ h9 => h9) rfl dX11_next_104 ?_
                  refine lv_bipush (v := 97) hx hb dX11_next_107 (by decide) ?_
                  refine lv_bipush (v := 122) hx hb dX11_next_109 (by decide) ?_
                  refine ro_calli (va_runV (As := [.int v102_0_7, .int 97, .int 122]) (rest := []) ⟨hx, hb, hml, hown, hts⟩ (a_X11_isByte l G ct a0 n0_0 a1 a2 a3 a4 a5 n0_6 v102_0_7 (1 : Int32) v0_0_7 (0 : Int32) v102_0_11 n0_12 n0_13 n0_14 n0_15 a6 a7 a8 a9 a10 a11 a12 a13 n0_24 n0_25 n0_26 n0_27 a14 n0_29 n0_30 f5 v102_0_7 (97 : Int32) (122 : Int32) (rg_w (c := 0) (d := 900) h_44 (by decide)) hv102_0_7) (cwV 3 hts gX11_next_X11_isByte rfl rfl rfl (by decide +kernel) ⟨Nat.le_of_ble_eq_true rfl, Nat.le_of_ble_eq_true rfl⟩) (ro_preV 11 0 hK (hP.sub [0, 1] rfl) rfl rfl) rfl rfl hl.1 rfl (lv_room (Nat.le_of_ble_eq_true rfl)) dX11_next_111 ⟨Nat.zero_le _, Nat.zero_le _⟩) hS hP (fun r111 H locs wr111 hP hS => ?_)
                  obtain ⟨p_45, p_46, p_47, p_48, p_49, -⟩ := wr111
                  refine lv_if_eq (tgt := 185) hx hb dX11_next_114 (by decide) (fun c114 => ?_) (fun c114 => ?_)
                  · have h_50 : rg 0 0 r111 := r_eq_l_i (e := 0) (f := 0) c114 p_45 (rgn 0 (x := 0) (by decide)) (by decide)
                    have hx102 : v0_0_7.toInt < v102_0_7.toInt := st_x hb102 (p_20 (rne h_43 (y := 0) (c := 0) (by decide) (by decide))) (p_49 (req h_50 (y := 0) (by decide)))
                    refine lv_goto (tgt := 307) hx hb dX11_next_185 (by decide) ?_
                    exact W.vret hx hb hr (fun t ht hW => ⟨⟨(fun k => ([v102_0_7, 1, v0_0_7, 0] : List Int32).getD k 0, fun k => ([] : List (Nat → Int32)).getD k (fun _ => 0), fun k => ([fun _ => v102_0_11] : List (Nat → Int64)).getD k (fun _ => 0)), rfl, ⟨hv102_0_7, (rg_w (c := 0) (d := 4) (rgn 1 (x := 1) (by decide)) (by decide)), (rg_w (c := 0) (d := 900) h_16 (by decide)), (rg_w (c := 0) (d := 1000009) (rgn 0 (x := 0) (by decide)) (by decide)), ⟨(show n0_7.toInt ≤ (v102_0_7).toInt from (by have := hx102; have := hb0; omega)), (show (v102_0_7).toInt ≤ n0_6.toInt from ha102), (fun hb ht => (show n0_7.toInt < (v102_0_7).toInt from (fun _ => by have := hx102; have := hb0; omega) ht))⟩, trivial⟩, hp_at ht hP⟩, hS.F ht⟩) hS.2.2 dX11_next_307
                  · have h_51 : rg 1 1 r111 := r_ne_lo_i c114 p_45 (by decide) (by decide)
                    have h_52 : rg 0 899 v102_0_7 := (p_46 (rne h_51 (y := 0) (c := 0) (by decide) (by decide)))
                    refine lv_aload_n hx hb dX11_next_117 rfl (lv_at hl 0 rfl) ?_
                    refine lv_iload_n hx hb dX11_next_118 rfl (lv_at hl 1 rfl) ?_
                    refine lv_bipush (v := 11) hx hb dX11_next_119 (by decide) ?_
                    have j153 : ∀ (y153_0 : Int64) (H : Heap) (locs : List Loc) (ls : Array Slot), va_P G vwCl [(a0, .inr (11, [.int n0_0, .ref a1, .ref a2, .ref a3, .ref a4, .ref a5, .int n0_6, .int v102_0_7, .int 1, .int v0_0_7, .int 0, .long v102_0_11, .int n0_12, .int n0_13, .int n0_14, .int n0_15, .ref a6, .ref a7, .ref a8, .ref a9, .ref a10, .ref a11, .ref a12, .ref a13, .int n0_24, .int n0_25, .int n0_26, .int n0_27, .ref a14, .int n0_29, .int n0_30])), (a5, .inl (ct 1, 900, .inl f5))] H → va_D A [(a0, .inr (11, [.int n0_0, .ref a1, .ref a2, .ref a3, .ref a4, .ref a5, .int n0_6, .int v102_0_7, .int 1, .int v0_0_7, .int 0, .long v102_0_11, .int n0_12, .int n0_13, .int n0_14, .int n0_15, .ref a6, .ref a7, .ref a8, .ref a9, .ref a10, .ref a11, .ref a12, .ref a13, .int n0_24, .int n0_25, .int n0_26, .int n0_27, .ref a14, .int n0_29, .int n0_30])), (a5, .inl (ct 1, 900, .inl f5))] → va_S A s.heap H locs → lv_has ls 2 [(0, .ref a0), (1, .int x102_1)] → W p l e (headSpec wsX11_next ({ frames := 1, cells := 0, slots := 0, locals := 23 })).room s m ([.ref a0] : List Value).toArray below meth c H locs 0 0 (MQ below (va_Qv (fun u : SU => rg 0 900 (u.1 0) ∧ rg 0 4 (u.1 1) ∧ rg 0 900 (u.1 2) ∧ rg 0 1000009 (u.1 3) ∧ (n0_7.toInt ≤ (u.1 0).toInt ∧ (u.1 0).toInt ≤ n0_6.toInt ∧ (n0_12 = 0 → ¬ (u.1 1) = 0 → n0_7.toInt < (u.1 0).toInt)) ∧ True) (fun u t => va_P G vwCl ((fun u : SU => [(a0, .inr (11, [.int n0_0, .ref a1, .ref a2, .ref a3, .ref a4, .ref a5, .int n0_6, .int (u.1 0), .int (u.1 1), .int (u.1 2), .int (u.1 3), .long (u.2.2 0 0), .int n0_12, .int n0_13, .int n0_14, .int n0_15, .ref a6, .ref a7, .ref a8, .ref a9, .ref a10, .ref a11, .ref a12, .ref a13, .int n0_24, .int n0_25, .int n0_26, .int n0_27, .ref a14, .int n0_29, .int n0_30])), (a5, .inl (ct 1, 900, .inl f5))]) u) t.heap) A) ([.ref a0] : List Value).toArray s 0 0 A) (F0 m 153 ls [.long y153_0, .ref a0]) := by
                      intro y153_0 H locs ls  hP hD hS hl
                      refine va_put (D := G) (ci := 11) (v := .long y153_0) (ty := .long) (C := RX11) (T := TX11) (N := 31) hx hb hts (by decide +kernel) tyX11 tyX11_ok nmX11 hown hK.1 hP hD hS 0 rfl rfl 11 (by decide) (hts (.fieldLink RX11 96 "CardHolderModel" "word" "J") (by decide +kernel)) (fun _ h9 => h9) rfl (by decide +kernel) rfl rfl (Nat.le_of_ble_eq_true rfl) dX11_next_153 (fun H locs hP hD hS => ?_)
                      refine lv_iload_n hx hb dX11_next_156 rfl (lv_at hl 1 rfl) ?_
                      refine lv_bipush (v := 11) hx hb dX11_next_157 (by decide) ?_
                      have j169 : ∀ (v169_0_11 : Int64) (H : Heap) (locs : List Loc) (ls : Array Slot), va_P G vwCl [(a0, .inr (11, [.int n0_0, .ref a1, .ref a2, .ref a3, .ref a4, .ref a5, .int n0_6, .int v102_0_7, .int 1, .int v0_0_7, .int 0, .long v169_0_11, .int n0_12, .int n0_13, .int n0_14, .int n0_15, .ref a6, .ref a7, .ref a8, .ref a9, .ref a10, .ref a11, .ref a12, .ref a13, .int n0_24, .int n0_25, .int n0_26, .int n0_27, .ref a14, .int n0_29, .int n0_30])), (a5, .inl (ct 1, 900, .inl f5))] H → va_D A [(a0, .inr (11, [.int n0_0, .ref a1, .ref a2, .ref a3, .ref a4, .ref a5, .int n0_6, .int v102_0_7, .int 1, .int v0_0_7, .int 0, .long v169_0_11, .int n0_12, .int n0_13, .int n0_14, .int n0_15, .ref a6, .ref a7, .ref a8, .ref a9, .ref a10, .ref a11, .ref a12, .ref a13, .int n0_24, .int n0_25, .int n0_26, .int n0_27, .ref a14, .int n0_29, .int n0_30])), (a5, .inl (ct 1, 900, .inl f5))] → va_S A s.heap H locs → lv_has ls 2 [(0, .ref a0), (1, .int x102_1)] → W p l e (headSpec wsX11_next ({ frames := 1, cells := 0, slots := 0, locals := 23 })).room s m ([.ref a0] : List Value).toArray below meth c H locs 0 0 (MQ below (va_Qv (fun u : SU => rg 0 900 (u.1 0) ∧ rg 0 4 (u.1 1) ∧ rg 0 900 (u.1 2) ∧ rg 0 1000009 (u.1 3) ∧ (n0_7.toInt ≤ (u.1 0).toInt ∧ (u.1 0).toInt ≤ n0_6.toInt ∧ (n0_12 = 0 → ¬ (u.1 1) = 0 → n0_7.toInt < (u.1 0).toInt)) ∧ True) (fun u t => va_P G vwCl ((fun u : SU => [(a0, .inr (11, [.int n0_0, .ref a1, .ref a2, .ref a3, .ref a4, .ref a5, .int n0_6, .int (u.1 0), .int (u.1 1), .int (u.1 2), .int (u.1 3), .long (u.2.2 0 0), .int n0_12, .int n0_13, .int n0_14, .int n0_15, .ref a6, .ref a7, .ref a8, .ref a9, .ref a10, .ref a11, .ref a12, .ref a13, .int n0_24, .int n0_25, .int n0_26, .int n0_27, .ref a14, .int n0_29, .int n0_30])), (a5, .inl (ct 1, 900, .inl f5))]) u) t.heap) A) ([.ref a0] : List Value).toArray s 0 0 A) (F0 m 169 ls []) := by
                        intro v169_0_11 H locs ls  hP hD hS hl
                        refine lv_aload_n hx hb dX11_next_169 rfl (lv_at hl 0 rfl) ?_
                        refine lv_dup hx hb dX11_next_170 rfl ?_
                        refine va_get (D := G) (ci := 11) (v := .int v102_0_7) (C := RX11) (T := TX11) (N := 31) hx hb hts (by decide +kernel) hown hK.1 hP 0 rfl rfl 7 (by decide) (hts (.fieldLink RX11 83 "CardHolderModel" "at" "I") (by decide +kernel)) (fun _ h9 => h9) rfl dX11_next_171 ?_
                        refine lv_iconst (v := 1) hx hb dX11_next_174 (by decide) ?_
                        refine lv_iadd hx hb dX11_next_175 ?_
                        refine nm_add (e1 := 1) (f := 900) h_52 (rgn 1 (x := 1) (by decide)) (by decide) (fun z175 hz175 ez175 => ?_)
                        replace ez175 := eqc_r ez175 (c := 1) (by decide)
                        refine va_put (D := G) (ci := 11) (v := .int z175) (ty := .int) (C := RX11) (T := TX11) (N := 31) hx hb hts (by decide +kernel) tyX11 tyX11_ok nmX11 hown hK.1 hP hD hS 0 rfl rfl 7 (by decide) (hts (.fieldLink RX11 83 "CardHolderModel" "at" "I") (by decide +kernel)) (fun _ h9 => h9) rfl (by decide +kernel) rfl rfl (Nat.le_of_ble_eq_true rfl) dX11_next_176 (fun H locs hP hD hS => ?_)
                        obtain ⟨z179, qz179⟩ : ∃ y : Int32, y = x102_1 + Int32.ofInt 1 := ⟨_, rfl⟩
                        refine lv_iinc (v := z179) (lv' := [(1, .int z179), (0, .ref a0)]) hx hb dX11_next_179 hl (k := 1) rfl (qz179.symm) (by decide) rfl (fun ls hl => ?_)
                        refine lv_goto (tgt := 102) hx hb dX11_next_182 (by decide) ?_
                        exact ih102 z179 z175 v169_0_11 _ _ ls (by have q := hn102; have := ez175; omega) (rg_w (c := 0) (d := 900) hz175 (by decide)) (by have := ez175; have := (p_48 (rne h_51 (y := 0) (c := 0) (by decide) (by decide))).1; omega) (Or.inr (st_1 hb102 ez175)) hP hD hS (lv_sub hl [1, 0] rfl)
                      refine lv_icmp_le (tgt := 169) hx hb dX11_next_159 (by decide) (fun c159 => ?_) (fun c159 => ?_)
                      · have h_53 : rg (-2147483648) 11 x102_1 := r_le_l_i c159 (rg_t x102_1) (rgn 11 (x := 11) (by decide))
                        exact j169 y153_0 _ _ ls hP hD hS (lv_sub hl [0, 1] rfl)
                      · have h_54 : rg 12 2147483647 x102_1 := r_lt_r_i (nle_i c159) (rgn 11 (x := 11) (by decide)) (rg_t x102_1) (by decide)
                        refine lv_aload_n hx hb dX11_next_162 rfl (lv_at hl 0 rfl) ?_
                        refine lv_ldc2 (own := RX11) (v := (-1)) hx hb hown (hts (.constantLong RX11 103 (-1)) (by decide +kernel)) dX11_next_163 ?_
                        refine va_put (D := G) (ci := 11) (v := .long (-1)) (ty := .long) (C := RX11) (T := TX11) (N := 31) hx hb hts (by decide +kernel) tyX11 tyX11_ok nmX11 hown hK.1 hP hD hS 0 rfl rfl 11 (by decide) (hts (.fieldLink RX11 96 "CardHolderModel" "word" "J") (by decide +kernel)) (fun _ h9 => h9) rfl (by decide +kernel) rfl rfl (Nat.le_of_ble_eq_true rfl) dX11_next_166 (fun H locs hP hD hS => ?_)
                        exact j169 ((-1) : Int64) _ _ ls hP hD hS (lv_sub hl [0, 1] rfl)
                    refine lv_icmp_le (tgt := 130) hx hb dX11_next_121 (by decide) (fun c121 => ?_) (fun c121 => ?_)
                    · have h_55 : rg (-2147483648) 11 x102_1 := r_le_l_i c121 (rg_t x102_1) (rgn 11 (x := 11) (by decide))
                      refine lv_ldc2 (own := RX11) (v := 27) hx hb hown (hts (.constantLong RX11 105 (27)) (by decide +kernel)) dX11_next_130 ?_
                      refine lv_aload_n hx hb dX11_next_133 rfl (lv_at hl 0 rfl) ?_
                      refine va_get (D := G) (ci := 11) (v := .long v102_0_11) (C := RX11) (T := TX11) (N := 31) hx hb hts (by decide +kernel) hown hK.1 hP 0 rfl rfl 11 (by decide) (hts (.fieldLink RX11 96 "CardHolderModel" "word" "J") (by decide +kernel)) (fun _ h9 => h9) rfl dX11_next_134 ?_
                      refine lv_lmul hx hb dX11_next_137 ?_
                      refine nl_0 (fun z137 => ?_)
                      refine lv_aload_n hx hb dX11_next_138 rfl (lv_at hl 0 rfl) ?_
                      refine va_get (D := G) (ci := 11) (v := .ref a5) (C := RX11) (T := TX11) (N := 31) hx hb hts (by decide +kernel) hown hK.1 hP 0 rfl rfl 5 (by decide) (hts (.fieldLink RX11 23 "CardHolderModel" "tape" "[B") (by decide +kernel)) (fun _ h9 => h9) rfl dX11_next_139 ?_
                      refine lv_aload_n hx hb dX11_next_142 rfl (lv_at hl 0 rfl) ?_
                      refine va_get (D := G) (ci := 11) (v := .int v102_0_7) (C := RX11) (T := TX11) (N := 31) hx hb hts (by decide +kernel) hown hK.1 hP 0 rfl rfl 7 (by decide) (hts (.fieldLink RX11 83 "CardHolderModel" "at" "I") (by decide +kernel)) (fun _ h9 => h9) rfl dX11_next_143 ?_
                      refine va_bald hx hb hK.1 hP 1 1 rfl rfl (in_rg h_52 (by decide)) dX11_next_146 ?_
                      refine lv_topi (fun z146 gz146 => ?_)
                      refine lv_i2l hx hb dX11_next_147 rfl ?_
                      refine nl_i2l (rg_t z146) (fun z147 hz147 ez147 => ?_)
                      refine lv_ladd hx hb dX11_next_148 ?_
                      refine nl_0 (fun z148 => ?_)
                      refine lv_ldc2 (own := RX11) (v := 96) hx hb hown (hts (.constantLong RX11 107 (96)) (by decide +kernel)) dX11_next_149 ?_
                      refine lv_lsub hx hb dX11_next_152 ?_
                      refine nl_0 (fun z152 => ?_)
                      exact j153 z152 _ _ ls hP hD hS (lv_sub hl [0, 1] rfl)
                    · have h_56 : rg 12 2147483647 x102_1 := r_lt_r_i (nle_i c121) (rgn 11 (x := 11) (by decide)) (rg_t x102_1) (by decide)
                      refine lv_ldc2 (own := RX11) (v := (-1)) hx hb hown (hts (.constantLong RX11 103 (-1)) (by decide +kernel)) dX11_next_124 ?_
                      refine lv_goto (tgt := 153) hx hb dX11_next_127 (by decide) ?_
                      exact j153 ((-1) : Int64) _ _ ls hP hD hS (lv_sub hl [0, 1] rfl)
              exact j102 4294967296 (0 : Int32) v0_0_7 (0 : Int64) _ _ ls (ms_e v0_0_7) (rg_w (c := 0) (d := 900) h_16 (by decide)) ha0 (Or.inl rfl) hP hD hS (lv_sub hl [1, 0] rfl)
          · refine lv_aload_n hx hb dX11_next_72 rfl (lv_at hl 0 rfl) ?_
            refine lv_iconst (v := 0) hx hb dX11_next_73 (by decide) ?_
            refine va_put (D := G) (ci := 11) (v := .int 0) (ty := .int) (C := RX11) (T := TX11) (N := 31) hx hb hts (by decide +kernel) tyX11 tyX11_ok nmX11 hown hK.1 hP hD hS 0 rfl rfl 8 (by decide) (hts (.fieldLink RX11 100 "CardHolderModel" "token" "I") (by decide +kernel)) (fun _ h9 => h9) rfl (by decide +kernel) rfl rfl (Nat.le_of_ble_eq_true rfl) dX11_next_74 (fun H locs hP hD hS => ?_)
            refine lv_goto (tgt := 307) hx hb dX11_next_77 (by decide) ?_
            exact W.vret hx hb hr (fun t ht hW => ⟨⟨(fun k => ([v0_0_7, 0, v0_0_7, 0] : List Int32).getD k 0, fun k => ([] : List (Nat → Int32)).getD k (fun _ => 0), fun k => ([fun _ => 0] : List (Nat → Int64)).getD k (fun _ => 0)), rfl, ⟨hv0_0_7, (rg_w (c := 0) (d := 4) (rgn 0 (x := 0) (by decide)) (by decide)), hv0_0_7, (rg_w (c := 0) (d := 1000009) (rgn 0 (x := 0) (by decide)) (by decide)), ⟨(show n0_7.toInt ≤ (v0_0_7).toInt from hb0), (show (v0_0_7).toInt ≤ n0_6.toInt from ha0), (fun hb ht => (show n0_7.toInt < (v0_0_7).toInt from (fun ht => absurd rfl ht) ht))⟩, trivial⟩, hp_at ht hP⟩, hS.F ht⟩) hS.2.2 dX11_next_307
        · have h_57 : rg 1 1 r24 := r_ne_lo_i c27 p_10 (by decide) (by decide)
          have h_58 : rg 0 899 v0_0_7 := (p_11 (rne h_57 (y := 0) (c := 0) (by decide) (by decide)))
          have h_59 : rg 1 900 n0_6 := (p_12 (rne h_57 (y := 0) (c := 0) (by decide) (by decide)))
          refine lv_aload_n hx hb dX11_next_30 rfl (lv_at hl 0 rfl) ?_
          refine lv_dup hx hb dX11_next_31 rfl ?_
          refine va_get (D := G) (ci := 11) (v := .int v0_0_7) (C := RX11) (T := TX11) (N := 31) hx hb hts (by decide +kernel) hown hK.1 hP 0 rfl rfl 7 (by decide) (hts (.fieldLink RX11 83 "CardHolderModel" "at" "I") (by decide +kernel)) (fun _ h9 => h9) rfl dX11_next_32 ?_
          refine lv_iconst (v := 1) hx hb dX11_next_35 (by decide) ?_
          refine lv_iadd hx hb dX11_next_36 ?_
          refine nm_add (e1 := 1) (f := 900) h_58 (rgn 1 (x := 1) (by decide)) (by decide) (fun z36 hz36 ez36 => ?_)
          replace ez36 := eqc_r ez36 (c := 1) (by decide)
          refine va_put (D := G) (ci := 11) (v := .int z36) (ty := .int) (C := RX11) (T := TX11) (N := 31) hx hb hts (by decide +kernel) tyX11 tyX11_ok nmX11 hown hK.1 hP hD hS 0 rfl rfl 7 (by decide) (hts (.fieldLink RX11 83 "CardHolderModel" "at" "I") (by decide +kernel)) (fun _ h9 => h9) rfl (by decide +kernel) rfl rfl (Nat.le_of_ble_eq_true rfl) dX11_next_37 (fun H locs hP hD hS => ?_)
          refine lv_goto (tgt := 0) hx hb dX11_next_40 (by decide) ?_
          exact ih0 z36 _ _ ls (by have q := hn0; have := ez36; omega) (rg_w (c := 0) (d := 900) hz36 (by decide)) (by have := ez36; have := (p_13 (rne h_57 (y := 0) (c := 0) (by decide) (by decide))).1; omega) (by have := ez36; have := hb0; omega) hP hD hS (lv_sub hl [0] rfl)
  exact j0 4294967296 n0_7 _ _ ls (ms_e n0_7) hp_n0_7 hat (Int.le_refl _) hP hD hS (lv_sub hl [0] rfl)

set_option maxHeartbeats 4000000 in
set_option maxRecDepth 100000 in
theorem a_X11_takes (l : Launch) (G : va_G) (ct : Nat → ClassId) (a0 : Nat) (n0_0 : Int32) (a1 : Nat) (a2 : Nat) (a3 : Nat) (a4 : Nat) (a5 : Nat) (n0_6 : Int32) (n0_7 : Int32) (n0_8 : Int32) (n0_9 : Int32) (n0_10 : Int32) (l0_11 : Int64) (n0_12 : Int32) (n0_13 : Int32) (n0_14 : Int32) (n0_15 : Int32) (a6 : Nat) (a7 : Nat) (a8 : Nat) (a9 : Nat) (a10 : Nat) (a11 : Nat) (a12 : Nat) (a13 : Nat) (n0_24 : Int32) (n0_25 : Int32) (n0_26 : Int32) (n0_27 : Int32) (a14 : Nat) (n0_29 : Int32) (n0_30 : Int32) (f5 : Nat → Int32) (p0 : Int64) (hp_n0_6 : rg 0 900 n0_6) (hp_n0_7 : rg 0 900 n0_7) (hp_n0_8 : rg 0 4 n0_8) (hp_n0_10 : rg 0 1000009 n0_10) (hat : n0_7.toInt ≤ n0_6.toInt) : Met l yX11_takes wsX11_takes ({ frames := 2, cells := 0, slots := 0, locals := 44 }) (va_Pc [.ref a0, .long p0] (wrP G ct [(a0, .inr (11, [.int n0_0, .ref a1, .ref a2, .ref a3, .ref a4, .ref a5, .int n0_6, .int n0_7, .int n0_8, .int n0_9, .int n0_10, .long l0_11, .int n0_12, .int n0_13, .int n0_14, .int n0_15, .ref a6, .ref a7, .ref a8, .ref a9, .ref a10, .ref a11, .ref a12, .ref a13, .int n0_24, .int n0_25, .int n0_26, .int n0_27, .ref a14, .int n0_29, .int n0_30])), (a5, .inl (ct 1, 900, .inl f5))])) (va_Qi (fun (r : Int32) (u : SU) => rg 0 1 r ∧ (¬ r = 0 → rg 0 0 n0_12) ∧ rg 0 900 (u.1 0) ∧ rg 0 4 (u.1 1) ∧ rg 0 1000009 (u.1 3) ∧ (n0_7.toInt ≤ (u.1 0).toInt ∧ (u.1 0).toInt ≤ n0_6.toInt) ∧ True) (fun u t => va_P G vwCl ((fun u : SU => [(a0, .inr (11, [.int n0_0, .ref a1, .ref a2, .ref a3, .ref a4, .ref a5, .int n0_6, .int (u.1 0), .int (u.1 1), .int (u.1 2), .int (u.1 3), .long (u.2.2 0 0), .int n0_12, .int n0_13, .int n0_14, .int n0_15, .ref a6, .ref a7, .ref a8, .ref a9, .ref a10, .ref a11, .ref a12, .ref a13, .int n0_24, .int n0_25, .int n0_26, .int n0_27, .ref a14, .int n0_29, .int n0_30])), (a5, .inl (ct 1, 900, .inl f5))]) u) t.heap) (aset [(a0, .inr (11, [.int n0_0, .ref a1, .ref a2, .ref a3, .ref a4, .ref a5, .int n0_6, .int n0_7, .int n0_8, .int n0_9, .int n0_10, .long l0_11, .int n0_12, .int n0_13, .int n0_14, .int n0_15, .ref a6, .ref a7, .ref a8, .ref a9, .ref a10, .ref a11, .ref a12, .ref a13, .int n0_24, .int n0_25, .int n0_26, .int n0_27, .ref a14, .int n0_29, .int n0_30])), (a5, .inl (ct 1, 900, .inl f5))])) 0 0 (aset [(a0, .inr (11, [.int n0_0, .ref a1, .ref a2, .ref a3, .ref a4, .ref a5, .int n0_6, .int n0_7, .int n0_8, .int n0_9, .int n0_10, .long l0_11, .int n0_12, .int n0_13, .int n0_14, .int n0_15, .ref a6, .ref a7, .ref a8, .ref a9, .ref a10, .ref a11, .ref a12, .ref a13, .int n0_24, .int n0_25, .int n0_26, .int n0_27, .ref a14, .int n0_29, .int n0_30])), (a5, .inl (ct 1, 900, .inl f5))]) := by
  refine Met.ofW (cc := cX11_takes) (maxL := 3) (ret := (some .boolean)) (by decide) rfl ?_
  intro p e s m args below meth c s₁ B hml hv
  obtain ⟨rfl, hP, hK, hD0⟩ := hv
  have hx := B.exec
  have hb := B.bytes
  have hr := B.returns
  have hts := atoms_spec (ws := wsX11_takes) B.pre
  have hown : s.vm.findClass RX11 = some m.cls := findClass_of_methodNamed B.named
  have hlocks := B.notSynchronized
  have hD := hD0.aself
  generalize hAe : aset [(a0, .inr (11, [.int n0_0, .ref a1, .ref a2, .ref a3, .ref a4, .ref a5, .int n0_6, .int n0_7, .int n0_8, .int n0_9, .int n0_10, .long l0_11, .int n0_12, .int n0_13, .int n0_14, .int n0_15, .ref a6, .ref a7, .ref a8, .ref a9, .ref a10, .ref a11, .ref a12, .ref a13, .int n0_24, .int n0_25, .int n0_26, .int n0_27, .ref a14, .int n0_29, .int n0_30])), (a5, .inl (ct 1, 900, .inl f5))] = A at hD ⊢
  have hS : va_S A s.heap s.heap [] := va_S.rf
  have hl := lv_entry ([.ref a0, .long p0]) (n := 3) (Nat.le_of_ble_eq_true rfl)
  rw [lg_entry_eq]
  generalize (lg_sl ([.ref a0, .long p0]) ++ List.replicate (3 - (lg_sl ([.ref a0, .long p0])).length) Slot.unset).toArray = ls at hl ⊢
  have hl : lv_has ls 3 [(0, .ref a0), (1, .long p0)] := hl
  refine lv_aload_n hx hb dX11_takes_0 rfl (lv_at hl 0 rfl) ?_
  refine lv_lload_n hx hb dX11_takes_1 rfl (lv_at hl 1 rfl) ?_
  refine ro_calli (va_runV (As := [.long p0]) (rest := []) ⟨hx, hb, hml, hown, hts⟩ (a_X11_is l G ct a0 n0_0 a1 a2 a3 a4 a5 n0_6 n0_7 n0_8 n0_9 n0_10 l0_11 n0_12 n0_13 n0_14 n0_15 a6 a7 a8 a9 a10 a11 a12 a13 n0_24 n0_25 n0_26 n0_27 a14 n0_29 n0_30 p0 hp_n0_6) (cwV 1 hts gX11_takes_X11_is rfl rfl rfl (by decide +kernel) ⟨Nat.le_of_ble_eq_true rfl, Nat.le_of_ble_eq_true rfl⟩) (ro_preV 11 0 hK (hP.sub [0] rfl) rfl rfl) rfl rfl hl.1 rfl (lv_room (Nat.le_of_ble_eq_true rfl)) dX11_takes_2 ⟨Nat.zero_le _, Nat.zero_le _⟩) hS hP (fun r2 H locs wr2 hP hS => ?_)
  obtain ⟨p_1, p_2, p_3, -⟩ := wr2
  refine lv_if_ne (tgt := 10) hx hb dX11_takes_5 (by decide) (fun c5 => ?_) (fun c5 => ?_)
  · have h_4 : rg 1 1 r2 := r_ne_lo_i c5 p_1 (by decide) (by decide)
    have h_5 : rg 1 1 n0_8 := (p_2 (rne h_4 (y := 0) (c := 0) (by decide) (by decide)))
    have h_6 : rg 0 0 n0_12 := (p_3 (rne h_4 (y := 0) (c := 0) (by decide) (by decide)))
    refine lv_aload_n hx hb dX11_takes_10 rfl (lv_at hl 0 rfl) ?_
    refine wj_callv (wr := []) (w1 := (fun u : SU => [(a0, .inr (11, [.int n0_0, .ref a1, .ref a2, .ref a3, .ref a4, .ref a5, .int n0_6, .int (u.1 0), .int (u.1 1), .int (u.1 2), .int (u.1 3), .long (u.2.2 0 0), .int n0_12, .int n0_13, .int n0_14, .int n0_15, .ref a6, .ref a7, .ref a8, .ref a9, .ref a10, .ref a11, .ref a12, .ref a13, .int n0_24, .int n0_25, .int n0_26, .int n0_27, .ref a14, .int n0_29, .int n0_30])), (a5, .inl (ct 1, 900, .inl f5))])) (va_runV (As := []) (rest := []) ⟨hx, hb, hml, hown, hts⟩ (a_X11_next l G ct a0 n0_0 a1 a2 a3 a4 a5 n0_6 n0_7 n0_8 n0_9 n0_10 l0_11 n0_12 n0_13 n0_14 n0_15 a6 a7 a8 a9 a10 a11 a12 a13 n0_24 n0_25 n0_26 n0_27 a14 n0_29 n0_30 f5 hp_n0_6 hp_n0_7 hat) (cwV 0 hts gX11_takes_X11_next rfl rfl rfl (by decide +kernel) ⟨Nat.le_of_ble_eq_true rfl, Nat.le_of_ble_eq_true rfl⟩) (wr_preV 11 0 hK (hP.sub [0, 1] rfl) (hD.sub [0, 1] (by decide) rfl) rfl rfl) rfl rfl hl.1 rfl (lv_room (Nat.le_of_ble_eq_true rfl)) dX11_takes_11 ⟨Nat.zero_le _, Nat.zero_le _⟩) hS hP hD [0, 1] [] rfl rfl (by decide) (fun _ => rfl) (fun ur11 H locs wr11 hP hD hS => ?_)
    have hP : va_P G vwCl [(a0, .inr (11, [.int n0_0, .ref a1, .ref a2, .ref a3, .ref a4, .ref a5, .int n0_6, .int (ur11.1 0), .int (ur11.1 1), .int (ur11.1 2), .int (ur11.1 3), .long (ur11.2.2 0 0), .int n0_12, .int n0_13, .int n0_14, .int n0_15, .ref a6, .ref a7, .ref a8, .ref a9, .ref a10, .ref a11, .ref a12, .ref a13, .int n0_24, .int n0_25, .int n0_26, .int n0_27, .ref a14, .int n0_29, .int n0_30])), (a5, .inl (ct 1, 900, .inl f5))] H := hP.sub [0, 1] rfl
    have hD : va_D A [(a0, .inr (11, [.int n0_0, .ref a1, .ref a2, .ref a3, .ref a4, .ref a5, .int n0_6, .int (ur11.1 0), .int (ur11.1 1), .int (ur11.1 2), .int (ur11.1 3), .long (ur11.2.2 0 0), .int n0_12, .int n0_13, .int n0_14, .int n0_15, .ref a6, .ref a7, .ref a8, .ref a9, .ref a10, .ref a11, .ref a12, .ref a13, .int n0_24, .int n0_25, .int n0_26, .int n0_27, .ref a14, .int n0_29, .int n0_30])), (a5, .inl (ct 1, 900, .inl f5))] := hD.sub [0, 1] (by decide) rfl
    obtain ⟨p_7, p_8, p_9, p_10, p_11, -⟩ := wr11
    refine lv_iconst (v := 1) hx hb dX11_takes_14 (by decide) ?_
    exact W.zret (v := 1) (ty := .boolean) hx hb hr (rfl) (fun t ht hW => ⟨⟨1, (fun k => ([ur11.1 0, ur11.1 1, ur11.1 2, ur11.1 3] : List Int32).getD k 0, fun k => ([] : List (Nat → Int32)).getD k (fun _ => 0), fun k => ([fun _ => ur11.2.2 0 0] : List (Nat → Int64)).getD k (fun _ => 0)), rfl, ⟨(rg_w (c := 0) (d := 1) (rgn 1 (x := 1) (by decide)) (by decide)), (fun _ => h_6), p_7, p_8, p_10, ⟨(show n0_7.toInt ≤ (ur11.1 0).toInt from (Int.le_trans (Int.le_refl _) p_11.1)), (show (ur11.1 0).toInt ≤ n0_6.toInt from p_11.2.1)⟩, trivial⟩, hp_at ht hP⟩, hS.F ht⟩) hS.2.2 dX11_takes_15
  · have h_12 : rg 0 0 r2 := r_eq_l_i (e := 0) (f := 0) c5 p_1 (rgn 0 (x := 0) (by decide)) (by decide)
    refine lv_iconst (v := 0) hx hb dX11_takes_8 (by decide) ?_
    exact W.zret (v := 0) (ty := .boolean) hx hb hr (rfl) (fun t ht hW => ⟨⟨0, (fun k => ([n0_7, n0_8, n0_9, n0_10] : List Int32).getD k 0, fun k => ([] : List (Nat → Int32)).getD k (fun _ => 0), fun k => ([fun _ => l0_11] : List (Nat → Int64)).getD k (fun _ => 0)), rfl, ⟨(rg_w (c := 0) (d := 1) (rgn 0 (x := 0) (by decide)) (by decide)), (fun hq => absurd (req (rgn 0 (x := 0) (by decide)) (y := 0) (by decide)) hq), hp_n0_7, hp_n0_8, hp_n0_10, ⟨(show n0_7.toInt ≤ (n0_7).toInt from (Int.le_refl _)), (show (n0_7).toInt ≤ n0_6.toInt from hat)⟩, trivial⟩, hp_at ht hP⟩, hS.F ht⟩) hS.2.2 dX11_takes_9

set_option maxHeartbeats 4000000 in
set_option maxRecDepth 100000 in
theorem a_X11_asks (l : Launch) (G : va_G) (ct : Nat → ClassId) (a0 : Nat) (n0_0 : Int32) (a1 : Nat) (a2 : Nat) (a3 : Nat) (a4 : Nat) (a5 : Nat) (n0_6 : Int32) (n0_7 : Int32) (n0_8 : Int32) (n0_9 : Int32) (n0_10 : Int32) (l0_11 : Int64) (n0_12 : Int32) (n0_13 : Int32) (n0_14 : Int32) (n0_15 : Int32) (a6 : Nat) (a7 : Nat) (a8 : Nat) (a9 : Nat) (a10 : Nat) (a11 : Nat) (a12 : Nat) (a13 : Nat) (n0_24 : Int32) (n0_25 : Int32) (n0_26 : Int32) (n0_27 : Int32) (a14 : Nat) (n0_29 : Int32) (n0_30 : Int32) (f5 : Nat → Int32) (p0 : Int64) (hp_n0_6 : rg 0 900 n0_6) (hp_n0_7 : rg 0 900 n0_7) (hp_n0_8 : rg 0 4 n0_8) (hp_n0_10 : rg 0 1000009 n0_10) (hat : n0_7.toInt ≤ n0_6.toInt) : Met l yX11_asks wsX11_asks ({ frames := 3, cells := 0, slots := 0, locals := 66 }) (va_Pc [.ref a0, .long p0] (wrP G ct [(a0, .inr (11, [.int n0_0, .ref a1, .ref a2, .ref a3, .ref a4, .ref a5, .int n0_6, .int n0_7, .int n0_8, .int n0_9, .int n0_10, .long l0_11, .int n0_12, .int n0_13, .int n0_14, .int n0_15, .ref a6, .ref a7, .ref a8, .ref a9, .ref a10, .ref a11, .ref a12, .ref a13, .int n0_24, .int n0_25, .int n0_26, .int n0_27, .ref a14, .int n0_29, .int n0_30])), (a5, .inl (ct 1, 900, .inl f5))])) (va_Qv (fun u : SU => rg 0 900 (u.1 0) ∧ rg 0 4 (u.1 1) ∧ rg 0 1000009 (u.1 3) ∧ (n0_7.toInt ≤ (u.1 0).toInt ∧ (u.1 0).toInt ≤ n0_6.toInt) ∧ True) (fun u t => va_P G vwCl ((fun u : SU => [(a0, .inr (11, [.int n0_0, .ref a1, .ref a2, .ref a3, .ref a4, .ref a5, .int n0_6, .int (u.1 0), .int (u.1 1), .int (u.1 2), .int (u.1 3), .long (u.2.2 0 0), .int (u.1 4), .int (u.1 5), .int n0_14, .int n0_15, .ref a6, .ref a7, .ref a8, .ref a9, .ref a10, .ref a11, .ref a12, .ref a13, .int n0_24, .int n0_25, .int n0_26, .int n0_27, .ref a14, .int n0_29, .int n0_30])), (a5, .inl (ct 1, 900, .inl f5))]) u) t.heap) (aset [(a0, .inr (11, [.int n0_0, .ref a1, .ref a2, .ref a3, .ref a4, .ref a5, .int n0_6, .int n0_7, .int n0_8, .int n0_9, .int n0_10, .long l0_11, .int n0_12, .int n0_13, .int n0_14, .int n0_15, .ref a6, .ref a7, .ref a8, .ref a9, .ref a10, .ref a11, .ref a12, .ref a13, .int n0_24, .int n0_25, .int n0_26, .int n0_27, .ref a14, .int n0_29, .int n0_30])), (a5, .inl (ct 1, 900, .inl f5))])) 0 0 (aset [(a0, .inr (11, [.int n0_0, .ref a1, .ref a2, .ref a3, .ref a4, .ref a5, .int n0_6, .int n0_7, .int n0_8, .int n0_9, .int n0_10, .long l0_11, .int n0_12, .int n0_13, .int n0_14, .int n0_15, .ref a6, .ref a7, .ref a8, .ref a9, .ref a10, .ref a11, .ref a12, .ref a13, .int n0_24, .int n0_25, .int n0_26, .int n0_27, .ref a14, .int n0_29, .int n0_30])), (a5, .inl (ct 1, 900, .inl f5))]) := by
  refine Met.ofW (cc := cX11_asks) (maxL := 3) (ret := none) (by decide) rfl ?_
  intro p e s m args below meth c s₁ B hml hv
  obtain ⟨rfl, hP, hK, hD0⟩ := hv
  have hx := B.exec
  have hb := B.bytes
  have hr := B.returns
  have hts := atoms_spec (ws := wsX11_asks) B.pre
  have hown : s.vm.findClass RX11 = some m.cls := findClass_of_methodNamed B.named
  have hlocks := B.notSynchronized
  have hD := hD0.aself
  generalize hAe : aset [(a0, .inr (11, [.int n0_0, .ref a1, .ref a2, .ref a3, .ref a4, .ref a5, .int n0_6, .int n0_7, .int n0_8, .int n0_9, .int n0_10, .long l0_11, .int n0_12, .int n0_13, .int n0_14, .int n0_15, .ref a6, .ref a7, .ref a8, .ref a9, .ref a10, .ref a11, .ref a12, .ref a13, .int n0_24, .int n0_25, .int n0_26, .int n0_27, .ref a14, .int n0_29, .int n0_30])), (a5, .inl (ct 1, 900, .inl f5))] = A at hD ⊢
  have hS : va_S A s.heap s.heap [] := va_S.rf
  have hl := lv_entry ([.ref a0, .long p0]) (n := 3) (Nat.le_of_ble_eq_true rfl)
  rw [lg_entry_eq]
  generalize (lg_sl ([.ref a0, .long p0]) ++ List.replicate (3 - (lg_sl ([.ref a0, .long p0])).length) Slot.unset).toArray = ls at hl ⊢
  have hl : lv_has ls 3 [(0, .ref a0), (1, .long p0)] := hl
  refine lv_aload_n hx hb dX11_asks_0 rfl (lv_at hl 0 rfl) ?_
  refine lv_lload_n hx hb dX11_asks_1 rfl (lv_at hl 1 rfl) ?_
  refine wj_calli (wr := []) (w1 := (fun u : SU => [(a0, .inr (11, [.int n0_0, .ref a1, .ref a2, .ref a3, .ref a4, .ref a5, .int n0_6, .int (u.1 0), .int (u.1 1), .int (u.1 2), .int (u.1 3), .long (u.2.2 0 0), .int n0_12, .int n0_13, .int n0_14, .int n0_15, .ref a6, .ref a7, .ref a8, .ref a9, .ref a10, .ref a11, .ref a12, .ref a13, .int n0_24, .int n0_25, .int n0_26, .int n0_27, .ref a14, .int n0_29, .int n0_30])), (a5, .inl (ct 1, 900, .inl f5))])) (va_runV (As := [.long p0]) (rest := []) ⟨hx, hb, hml, hown, hts⟩ (a_X11_takes l G ct a0 n0_0 a1 a2 a3 a4 a5 n0_6 n0_7 n0_8 n0_9 n0_10 l0_11 n0_12 n0_13 n0_14 n0_15 a6 a7 a8 a9 a10 a11 a12 a13 n0_24 n0_25 n0_26 n0_27 a14 n0_29 n0_30 f5 p0 hp_n0_6 hp_n0_7 hp_n0_8 hp_n0_10 hat) (cwV 1 hts gX11_asks_X11_takes rfl rfl rfl (by decide +kernel) ⟨Nat.le_of_ble_eq_true rfl, Nat.le_of_ble_eq_true rfl⟩) (wr_preV 11 0 hK (hP.sub [0, 1] rfl) (hD.sub [0, 1] (by decide) rfl) rfl rfl) rfl rfl hl.1 rfl (lv_room (Nat.le_of_ble_eq_true rfl)) dX11_asks_2 ⟨Nat.zero_le _, Nat.zero_le _⟩) hS hP hD [0, 1] [] rfl rfl (by decide) (fun _ => rfl) (fun r2 ur2 H locs wr2 hP hD hS => ?_)
  have hP : va_P G vwCl [(a0, .inr (11, [.int n0_0, .ref a1, .ref a2, .ref a3, .ref a4, .ref a5, .int n0_6, .int (ur2.1 0), .int (ur2.1 1), .int (ur2.1 2), .int (ur2.1 3), .long (ur2.2.2 0 0), .int n0_12, .int n0_13, .int n0_14, .int n0_15, .ref a6, .ref a7, .ref a8, .ref a9, .ref a10, .ref a11, .ref a12, .ref a13, .int n0_24, .int n0_25, .int n0_26, .int n0_27, .ref a14, .int n0_29, .int n0_30])), (a5, .inl (ct 1, 900, .inl f5))] H := hP.sub [0, 1] rfl
  have hD : va_D A [(a0, .inr (11, [.int n0_0, .ref a1, .ref a2, .ref a3, .ref a4, .ref a5, .int n0_6, .int (ur2.1 0), .int (ur2.1 1), .int (ur2.1 2), .int (ur2.1 3), .long (ur2.2.2 0 0), .int n0_12, .int n0_13, .int n0_14, .int n0_15, .ref a6, .ref a7, .ref a8, .ref a9, .ref a10, .ref a11, .ref a12, .ref a13, .int n0_24, .int n0_25, .int n0_26, .int n0_27, .ref a14, .int n0_29, .int n0_30])), (a5, .inl (ct 1, 900, .inl f5))] := hD.sub [0, 1] (by decide) rfl
  obtain ⟨p_1, p_2, p_3, p_4, p_5, p_6, -⟩ := wr2
  refine lv_if_ne (tgt := 13) hx hb dX11_asks_5 (by decide) (fun c5 => ?_) (fun c5 => ?_)
  · have h_7 : rg 1 1 r2 := r_ne_lo_i c5 p_1 (by decide) (by decide)
    have h_8 : rg 0 0 n0_12 := (p_2 (rne h_7 (y := 0) (c := 0) (by decide) (by decide)))
    exact W.vret hx hb hr (fun t ht hW => ⟨⟨(fun k => ([ur2.1 0, ur2.1 1, ur2.1 2, ur2.1 3, n0_12, n0_13] : List Int32).getD k 0, fun k => ([] : List (Nat → Int32)).getD k (fun _ => 0), fun k => ([fun _ => ur2.2.2 0 0] : List (Nat → Int64)).getD k (fun _ => 0)), rfl, ⟨p_3, p_4, p_5, ⟨(show n0_7.toInt ≤ (ur2.1 0).toInt from (Int.le_trans (Int.le_refl _) p_6.1)), (show (ur2.1 0).toInt ≤ n0_6.toInt from p_6.2)⟩, trivial⟩, hp_at ht hP⟩, hS.F ht⟩) hS.2.2 dX11_asks_13
  · have h_9 : rg 0 0 r2 := r_eq_l_i (e := 0) (f := 0) c5 p_1 (rgn 0 (x := 0) (by decide)) (by decide)
    refine lv_aload_n hx hb dX11_asks_8 rfl (lv_at hl 0 rfl) ?_
    refine lv_iconst (v := 1) hx hb dX11_asks_9 (by decide) ?_
    refine wj_callv (wr := [(a5, .inl (ct 1, 900, .inl f5))]) (w1 := (fun u : SU => [(a0, .inr (11, [.int n0_0, .ref a1, .ref a2, .ref a3, .ref a4, .ref a5, .int n0_6, .int (ur2.1 0), .int (ur2.1 1), .int (ur2.1 2), .int (ur2.1 3), .long (ur2.2.2 0 0), .int (u.1 0), .int (u.1 1), .int n0_14, .int n0_15, .ref a6, .ref a7, .ref a8, .ref a9, .ref a10, .ref a11, .ref a12, .ref a13, .int n0_24, .int n0_25, .int n0_26, .int n0_27, .ref a14, .int n0_29, .int n0_30]))])) (va_runV (As := [.int 1]) (rest := []) ⟨hx, hb, hml, hown, hts⟩ (a_X11_fails1 l G ct a0 n0_0 a1 a2 a3 a4 a5 n0_6 (ur2.1 0) (ur2.1 1) (ur2.1 2) (ur2.1 3) (ur2.2.2 0 0) n0_12 n0_13 n0_14 n0_15 a6 a7 a8 a9 a10 a11 a12 a13 n0_24 n0_25 n0_26 n0_27 a14 n0_29 n0_30 hp_n0_6) (cwV 1 hts gX11_asks_X11_fails rfl rfl rfl (by decide +kernel) ⟨Nat.le_of_ble_eq_true rfl, Nat.le_of_ble_eq_true rfl⟩) (wr_preV 11 0 hK (hP.sub [0] rfl) (hD.sub [0] (by decide) rfl) rfl rfl) rfl rfl hl.1 rfl (lv_room (Nat.le_of_ble_eq_true rfl)) dX11_asks_10 ⟨Nat.zero_le _, Nat.zero_le _⟩) hS hP hD [0] [1] rfl rfl (by decide) (fun _ => rfl) (fun ur10 H locs wr10 hP hD hS => ?_)
    have hP : va_P G vwCl [(a0, .inr (11, [.int n0_0, .ref a1, .ref a2, .ref a3, .ref a4, .ref a5, .int n0_6, .int (ur2.1 0), .int (ur2.1 1), .int (ur2.1 2), .int (ur2.1 3), .long (ur2.2.2 0 0), .int (ur10.1 0), .int (ur10.1 1), .int n0_14, .int n0_15, .ref a6, .ref a7, .ref a8, .ref a9, .ref a10, .ref a11, .ref a12, .ref a13, .int n0_24, .int n0_25, .int n0_26, .int n0_27, .ref a14, .int n0_29, .int n0_30])), (a5, .inl (ct 1, 900, .inl f5))] H := hP.sub [1, 0] rfl
    have hD : va_D A [(a0, .inr (11, [.int n0_0, .ref a1, .ref a2, .ref a3, .ref a4, .ref a5, .int n0_6, .int (ur2.1 0), .int (ur2.1 1), .int (ur2.1 2), .int (ur2.1 3), .long (ur2.2.2 0 0), .int (ur10.1 0), .int (ur10.1 1), .int n0_14, .int n0_15, .ref a6, .ref a7, .ref a8, .ref a9, .ref a10, .ref a11, .ref a12, .ref a13, .int n0_24, .int n0_25, .int n0_26, .int n0_27, .ref a14, .int n0_29, .int n0_30])), (a5, .inl (ct 1, 900, .inl f5))] := hD.sub [1, 0] (by decide) rfl
    obtain ⟨p_10, -⟩ := wr10
    exact W.vret hx hb hr (fun t ht hW => ⟨⟨(fun k => ([ur2.1 0, ur2.1 1, ur2.1 2, ur2.1 3, ur10.1 0, ur10.1 1] : List Int32).getD k 0, fun k => ([] : List (Nat → Int32)).getD k (fun _ => 0), fun k => ([fun _ => ur2.2.2 0 0] : List (Nat → Int64)).getD k (fun _ => 0)), rfl, ⟨p_3, p_4, p_5, ⟨(show n0_7.toInt ≤ (ur2.1 0).toInt from (Int.le_trans (Int.le_refl _) p_6.1)), (show (ur2.1 0).toInt ≤ n0_6.toInt from p_6.2)⟩, trivial⟩, hp_at ht hP⟩, hS.F ht⟩) hS.2.2 dX11_asks_13

set_option maxHeartbeats 4000000 in
set_option maxRecDepth 100000 in
theorem a_X11_number05 (l : Launch) (G : va_G) (ct : Nat → ClassId) (a0 : Nat) (n0_0 : Int32) (a1 : Nat) (a2 : Nat) (a3 : Nat) (a4 : Nat) (a5 : Nat) (n0_6 : Int32) (n0_7 : Int32) (n0_8 : Int32) (n0_9 : Int32) (n0_10 : Int32) (l0_11 : Int64) (n0_12 : Int32) (n0_13 : Int32) (n0_14 : Int32) (n0_15 : Int32) (a6 : Nat) (a7 : Nat) (a8 : Nat) (a9 : Nat) (a10 : Nat) (a11 : Nat) (a12 : Nat) (a13 : Nat) (n0_24 : Int32) (n0_25 : Int32) (n0_26 : Int32) (n0_27 : Int32) (a14 : Nat) (n0_29 : Int32) (n0_30 : Int32) (f5 : Nat → Int32) (hp_n0_6 : rg 0 900 n0_6) (hp_n0_7 : rg 0 900 n0_7) (hp_n0_8 : rg 0 4 n0_8) (hp_n0_10 : rg 0 1000009 n0_10) (hat : n0_7.toInt ≤ n0_6.toInt) : Met l yX11_number wsX11_number ({ frames := 2, cells := 0, slots := 0, locals := 44 }) (va_Pc [.ref a0, .int 0, .int 5] (wrP G ct [(a0, .inr (11, [.int n0_0, .ref a1, .ref a2, .ref a3, .ref a4, .ref a5, .int n0_6, .int n0_7, .int n0_8, .int n0_9, .int n0_10, .long l0_11, .int n0_12, .int n0_13, .int n0_14, .int n0_15, .ref a6, .ref a7, .ref a8, .ref a9, .ref a10, .ref a11, .ref a12, .ref a13, .int n0_24, .int n0_25, .int n0_26, .int n0_27, .ref a14, .int n0_29, .int n0_30])), (a5, .inl (ct 1, 900, .inl f5))])) (va_Qi (fun (r : Int32) (u : SU) => rg 0 5 r ∧ rg 0 900 (u.1 0) ∧ rg 0 4 (u.1 1) ∧ rg 0 1000009 (u.1 3) ∧ (n0_7.toInt ≤ (u.1 0).toInt ∧ (u.1 0).toInt ≤ n0_6.toInt ∧ ((u.1 4) = 0 → ¬ (u.1 1) = 0 → n0_7.toInt < (u.1 0).toInt)) ∧ True) (fun u t => va_P G vwCl ((fun u : SU => [(a0, .inr (11, [.int n0_0, .ref a1, .ref a2, .ref a3, .ref a4, .ref a5, .int n0_6, .int (u.1 0), .int (u.1 1), .int (u.1 2), .int (u.1 3), .long (u.2.2 0 0), .int (u.1 4), .int (u.1 5), .int n0_14, .int n0_15, .ref a6, .ref a7, .ref a8, .ref a9, .ref a10, .ref a11, .ref a12, .ref a13, .int n0_24, .int n0_25, .int n0_26, .int n0_27, .ref a14, .int n0_29, .int n0_30])), (a5, .inl (ct 1, 900, .inl f5))]) u) t.heap) (aset [(a0, .inr (11, [.int n0_0, .ref a1, .ref a2, .ref a3, .ref a4, .ref a5, .int n0_6, .int n0_7, .int n0_8, .int n0_9, .int n0_10, .long l0_11, .int n0_12, .int n0_13, .int n0_14, .int n0_15, .ref a6, .ref a7, .ref a8, .ref a9, .ref a10, .ref a11, .ref a12, .ref a13, .int n0_24, .int n0_25, .int n0_26, .int n0_27, .ref a14, .int n0_29, .int n0_30])), (a5, .inl (ct 1, 900, .inl f5))])) 0 0 (aset [(a0, .inr (11, [.int n0_0, .ref a1, .ref a2, .ref a3, .ref a4, .ref a5, .int n0_6, .int n0_7, .int n0_8, .int n0_9, .int n0_10, .long l0_11, .int n0_12, .int n0_13, .int n0_14, .int n0_15, .ref a6, .ref a7, .ref a8, .ref a9, .ref a10, .ref a11, .ref a12, .ref a13, .int n0_24, .int n0_25, .int n0_26, .int n0_27, .ref a14, .int n0_29, .int n0_30])), (a5, .inl (ct 1, 900, .inl f5))]) := by
  refine Met.ofW (cc := cX11_number) (maxL := 4) (ret := (some .int)) (by decide) rfl ?_
  intro p e s m args below meth c s₁ B hml hv
  obtain ⟨rfl, hP, hK, hD0⟩ := hv
  have hx := B.exec
  have hb := B.bytes
  have hr := B.returns
  have hts := atoms_spec (ws := wsX11_number) B.pre
  have hown : s.vm.findClass RX11 = some m.cls := findClass_of_methodNamed B.named
  have hlocks := B.notSynchronized
  have hD := hD0.aself
  generalize hAe : aset [(a0, .inr (11, [.int n0_0, .ref a1, .ref a2, .ref a3, .ref a4, .ref a5, .int n0_6, .int n0_7, .int n0_8, .int n0_9, .int n0_10, .long l0_11, .int n0_12, .int n0_13, .int n0_14, .int n0_15, .ref a6, .ref a7, .ref a8, .ref a9, .ref a10, .ref a11, .ref a12, .ref a13, .int n0_24, .int n0_25, .int n0_26, .int n0_27, .ref a14, .int n0_29, .int n0_30])), (a5, .inl (ct 1, 900, .inl f5))] = A at hD ⊢
  have hS : va_S A s.heap s.heap [] := va_S.rf
  have hl := lv_entry ([.ref a0, .int 0, .int 5]) (n := 4) (Nat.le_of_ble_eq_true rfl)
  rw [lg_entry_eq]
  generalize (lg_sl ([.ref a0, .int 0, .int 5]) ++ List.replicate (4 - (lg_sl ([.ref a0, .int 0, .int 5])).length) Slot.unset).toArray = ls at hl ⊢
  have hl : lv_has ls 4 [(0, .ref a0), (1, .int 0), (2, .int 5)] := hl
  refine lv_aload_n hx hb dX11_number_0 rfl (lv_at hl 0 rfl) ?_
  refine va_get (D := G) (ci := 11) (v := .int n0_12) (C := RX11) (T := TX11) (N := 31) hx hb hts (by decide +kernel) hown hK.1 hP 0 rfl rfl 12 (by decide) (hts (.fieldLink RX11 111 "CardHolderModel" "bad" "I") (by decide +kernel)) (fun _ h9 => h9) rfl dX11_number_1 ?_
  refine lv_if_eq (tgt := 9) hx hb dX11_number_4 (by decide) (fun c4 => ?_) (fun c4 => ?_)
  · have h_1 : rg 0 0 n0_12 := r_eq_l_i (e := 0) (f := 0) c4 (rg_t n0_12) (rgn 0 (x := 0) (by decide)) (by decide)
    refine lv_aload_n hx hb dX11_number_9 rfl (lv_at hl 0 rfl) ?_
    refine va_get (D := G) (ci := 11) (v := .int n0_8) (C := RX11) (T := TX11) (N := 31) hx hb hts (by decide +kernel) hown hK.1 hP 0 rfl rfl 8 (by decide) (hts (.fieldLink RX11 100 "CardHolderModel" "token" "I") (by decide +kernel)) (fun _ h9 => h9) rfl dX11_number_10 ?_
    refine lv_iconst (v := 2) hx hb dX11_number_13 (by decide) ?_
    refine lv_icmp_eq (tgt := 24) hx hb dX11_number_14 (by decide) (fun c14 => ?_) (fun c14 => ?_)
    · have h_2 : rg 2 2 n0_8 := r_eq_l_i (e := 2) (f := 2) c14 hp_n0_8 (rgn 2 (x := 2) (by decide)) (by decide)
      refine lv_aload_n hx hb dX11_number_24 rfl (lv_at hl 0 rfl) ?_
      refine va_get (D := G) (ci := 11) (v := .int n0_10) (C := RX11) (T := TX11) (N := 31) hx hb hts (by decide +kernel) hown hK.1 hP 0 rfl rfl 10 (by decide) (hts (.fieldLink RX11 93 "CardHolderModel" "value" "I") (by decide +kernel)) (fun _ h9 => h9) rfl dX11_number_25 ?_
      refine lv_i2l hx hb dX11_number_28 rfl ?_
      refine nl_i2l hp_n0_10 (fun z28 hz28 ez28 => ?_)
      refine lv_iload_n hx hb dX11_number_29 rfl (lv_at hl 1 rfl) ?_
      refine lv_i2l (v := 0) hx hb dX11_number_30 (by decide) ?_
      refine lv_iload_n hx hb dX11_number_31 rfl (lv_at hl 2 rfl) ?_
      refine lv_i2l (v := 5) hx hb dX11_number_32 (by decide) ?_
      refine ro_calli (va_runS (As := [.long z28, .long 0, .long 5]) (rest := []) ⟨hx, hb, hml, hown, hts⟩ (a_X11_in l G ct z28 (0 : Int64) (5 : Int64)) (va_cwS 3 hts gX11_number_X11_in rfl rfl rfl (by decide +kernel) ⟨Nat.le_of_ble_eq_true rfl, Nat.le_of_ble_eq_true rfl⟩) (ro_pre hK (hP.sub [] rfl)) rfl rfl hl.1 rfl (lv_room (Nat.le_of_ble_eq_true rfl)) dX11_number_33 ⟨Nat.zero_le _, Nat.zero_le _⟩) hS hP (fun r33 H locs wr33 hP hS => ?_)
      obtain ⟨p_3, p_4, -⟩ := wr33
      refine lv_if_ne (tgt := 46) hx hb dX11_number_36 (by decide) (fun c36 => ?_) (fun c36 => ?_)
      · have h_5 : rg 1 1 r33 := r_ne_lo_i c36 p_3 (by decide) (by decide)
        have h_6 : rl 0 5 z28 := ((fun hq => in_im (p_4 hq) (rln 0 (x := 0) (by decide)) (rln 5 (x := 5) (by decide))) (rne h_5 (y := 0) (c := 0) (by decide) (by decide)))
        have h_7 : rg 0 5 n0_10 := bk_li (a := 0) (b := 5) ez28 h_6 hp_n0_10 (by decide)
        refine lv_aload_n hx hb dX11_number_46 rfl (lv_at hl 0 rfl) ?_
        refine va_get (D := G) (ci := 11) (v := .int n0_10) (C := RX11) (T := TX11) (N := 31) hx hb hts (by decide +kernel) hown hK.1 hP 0 rfl rfl 10 (by decide) (hts (.fieldLink RX11 93 "CardHolderModel" "value" "I") (by decide +kernel)) (fun _ h9 => h9) rfl dX11_number_47 ?_
        refine lv_istore_n (lv' := [(3, .int n0_10), (0, .ref a0), (1, .int 0), (2, .int 5)]) hx hb dX11_number_50 rfl hl (by decide) rfl (fun ls hl => ?_)
        refine lv_aload_n hx hb dX11_number_51 rfl (lv_at hl 1 rfl) ?_
        refine wj_callv (wr := []) (w1 := (fun u : SU => [(a0, .inr (11, [.int n0_0, .ref a1, .ref a2, .ref a3, .ref a4, .ref a5, .int n0_6, .int (u.1 0), .int (u.1 1), .int (u.1 2), .int (u.1 3), .long (u.2.2 0 0), .int n0_12, .int n0_13, .int n0_14, .int n0_15, .ref a6, .ref a7, .ref a8, .ref a9, .ref a10, .ref a11, .ref a12, .ref a13, .int n0_24, .int n0_25, .int n0_26, .int n0_27, .ref a14, .int n0_29, .int n0_30])), (a5, .inl (ct 1, 900, .inl f5))])) (va_runV (As := []) (rest := []) ⟨hx, hb, hml, hown, hts⟩ (a_X11_next l G ct a0 n0_0 a1 a2 a3 a4 a5 n0_6 n0_7 n0_8 n0_9 n0_10 l0_11 n0_12 n0_13 n0_14 n0_15 a6 a7 a8 a9 a10 a11 a12 a13 n0_24 n0_25 n0_26 n0_27 a14 n0_29 n0_30 f5 hp_n0_6 hp_n0_7 hat) (cwV 0 hts gX11_number_X11_next rfl rfl rfl (by decide +kernel) ⟨Nat.le_of_ble_eq_true rfl, Nat.le_of_ble_eq_true rfl⟩) (wr_preV 11 0 hK (hP.sub [0, 1] rfl) (hD.sub [0, 1] (by decide) rfl) rfl rfl) rfl rfl hl.1 rfl (lv_room (Nat.le_of_ble_eq_true rfl)) dX11_number_52 ⟨Nat.zero_le _, Nat.zero_le _⟩) hS hP hD [0, 1] [] rfl rfl (by decide) (fun _ => rfl) (fun ur52 H locs wr52 hP hD hS => ?_)
        have hP : va_P G vwCl [(a0, .inr (11, [.int n0_0, .ref a1, .ref a2, .ref a3, .ref a4, .ref a5, .int n0_6, .int (ur52.1 0), .int (ur52.1 1), .int (ur52.1 2), .int (ur52.1 3), .long (ur52.2.2 0 0), .int n0_12, .int n0_13, .int n0_14, .int n0_15, .ref a6, .ref a7, .ref a8, .ref a9, .ref a10, .ref a11, .ref a12, .ref a13, .int n0_24, .int n0_25, .int n0_26, .int n0_27, .ref a14, .int n0_29, .int n0_30])), (a5, .inl (ct 1, 900, .inl f5))] H := hP.sub [0, 1] rfl
        have hD : va_D A [(a0, .inr (11, [.int n0_0, .ref a1, .ref a2, .ref a3, .ref a4, .ref a5, .int n0_6, .int (ur52.1 0), .int (ur52.1 1), .int (ur52.1 2), .int (ur52.1 3), .long (ur52.2.2 0 0), .int n0_12, .int n0_13, .int n0_14, .int n0_15, .ref a6, .ref a7, .ref a8, .ref a9, .ref a10, .ref a11, .ref a12, .ref a13, .int n0_24, .int n0_25, .int n0_26, .int n0_27, .ref a14, .int n0_29, .int n0_30])), (a5, .inl (ct 1, 900, .inl f5))] := hD.sub [0, 1] (by decide) rfl
        obtain ⟨p_8, p_9, p_10, p_11, p_12, -⟩ := wr52
        refine lv_iload_n hx hb dX11_number_55 rfl (lv_at hl 0 rfl) ?_
        exact W.iret (v := n0_10) hx hb hr (fun t ht hW => ⟨⟨n0_10, (fun k => ([ur52.1 0, ur52.1 1, ur52.1 2, ur52.1 3, n0_12, n0_13] : List Int32).getD k 0, fun k => ([] : List (Nat → Int32)).getD k (fun _ => 0), fun k => ([fun _ => ur52.2.2 0 0] : List (Nat → Int64)).getD k (fun _ => 0)), rfl, ⟨h_7, p_8, p_9, p_11, ⟨(show n0_7.toInt ≤ (ur52.1 0).toInt from (Int.le_trans (Int.le_refl _) p_12.1)), (show (ur52.1 0).toInt ≤ n0_6.toInt from p_12.2.1), (fun hb ht => Int.lt_of_le_of_lt (Int.le_refl _) (p_12.2.2 hb ht))⟩, trivial⟩, hp_at ht hP⟩, hS.F ht⟩) hS.2.2 dX11_number_56
      · have h_13 : rg 0 0 r33 := r_eq_l_i (e := 0) (f := 0) c36 p_3 (rgn 0 (x := 0) (by decide)) (by decide)
        refine lv_aload_n hx hb dX11_number_39 rfl (lv_at hl 0 rfl) ?_
        refine lv_iconst (v := 2) hx hb dX11_number_40 (by decide) ?_
        refine wj_callv (wr := [(a5, .inl (ct 1, 900, .inl f5))]) (w1 := (fun u : SU => [(a0, .inr (11, [.int n0_0, .ref a1, .ref a2, .ref a3, .ref a4, .ref a5, .int n0_6, .int n0_7, .int n0_8, .int n0_9, .int n0_10, .long l0_11, .int (u.1 0), .int (u.1 1), .int n0_14, .int n0_15, .ref a6, .ref a7, .ref a8, .ref a9, .ref a10, .ref a11, .ref a12, .ref a13, .int n0_24, .int n0_25, .int n0_26, .int n0_27, .ref a14, .int n0_29, .int n0_30]))])) (va_runV (As := [.int 2]) (rest := []) ⟨hx, hb, hml, hown, hts⟩ (a_X11_fails2 l G ct a0 n0_0 a1 a2 a3 a4 a5 n0_6 n0_7 n0_8 n0_9 n0_10 l0_11 n0_12 n0_13 n0_14 n0_15 a6 a7 a8 a9 a10 a11 a12 a13 n0_24 n0_25 n0_26 n0_27 a14 n0_29 n0_30 hp_n0_6) (cwV 1 hts gX11_number_X11_fails rfl rfl rfl (by decide +kernel) ⟨Nat.le_of_ble_eq_true rfl, Nat.le_of_ble_eq_true rfl⟩) (wr_preV 11 0 hK (hP.sub [0] rfl) (hD.sub [0] (by decide) rfl) rfl rfl) rfl rfl hl.1 rfl (lv_room (Nat.le_of_ble_eq_true rfl)) dX11_number_41 ⟨Nat.zero_le _, Nat.zero_le _⟩) hS hP hD [0] [1] rfl rfl (by decide) (fun _ => rfl) (fun ur41 H locs wr41 hP hD hS => ?_)
        have hP : va_P G vwCl [(a0, .inr (11, [.int n0_0, .ref a1, .ref a2, .ref a3, .ref a4, .ref a5, .int n0_6, .int n0_7, .int n0_8, .int n0_9, .int n0_10, .long l0_11, .int (ur41.1 0), .int (ur41.1 1), .int n0_14, .int n0_15, .ref a6, .ref a7, .ref a8, .ref a9, .ref a10, .ref a11, .ref a12, .ref a13, .int n0_24, .int n0_25, .int n0_26, .int n0_27, .ref a14, .int n0_29, .int n0_30])), (a5, .inl (ct 1, 900, .inl f5))] H := hP.sub [1, 0] rfl
        have hD : va_D A [(a0, .inr (11, [.int n0_0, .ref a1, .ref a2, .ref a3, .ref a4, .ref a5, .int n0_6, .int n0_7, .int n0_8, .int n0_9, .int n0_10, .long l0_11, .int (ur41.1 0), .int (ur41.1 1), .int n0_14, .int n0_15, .ref a6, .ref a7, .ref a8, .ref a9, .ref a10, .ref a11, .ref a12, .ref a13, .int n0_24, .int n0_25, .int n0_26, .int n0_27, .ref a14, .int n0_29, .int n0_30])), (a5, .inl (ct 1, 900, .inl f5))] := hD.sub [1, 0] (by decide) rfl
        obtain ⟨p_14, -⟩ := wr41
        refine lv_iload_n hx hb dX11_number_44 rfl (lv_at hl 1 rfl) ?_
        exact W.iret (v := 0) hx hb hr (fun t ht hW => ⟨⟨0, (fun k => ([n0_7, n0_8, n0_9, n0_10, ur41.1 0, ur41.1 1] : List Int32).getD k 0, fun k => ([] : List (Nat → Int32)).getD k (fun _ => 0), fun k => ([fun _ => l0_11] : List (Nat → Int64)).getD k (fun _ => 0)), rfl, ⟨(rg_w (c := 0) (d := 5) (rgn 0 (x := 0) (by decide)) (by decide)), hp_n0_7, (rg_w (c := 0) (d := 4) h_2 (by decide)), hp_n0_10, ⟨(show n0_7.toInt ≤ (n0_7).toInt from (Int.le_refl _)), (show (n0_7).toInt ≤ n0_6.toInt from hat), (fun hb _ => absurd hb p_14)⟩, trivial⟩, hp_at ht hP⟩, hS.F ht⟩) hS.2.2 dX11_number_45
    · refine lv_aload_n hx hb dX11_number_17 rfl (lv_at hl 0 rfl) ?_
      refine lv_iconst (v := 1) hx hb dX11_number_18 (by decide) ?_
      refine wj_callv (wr := [(a5, .inl (ct 1, 900, .inl f5))]) (w1 := (fun u : SU => [(a0, .inr (11, [.int n0_0, .ref a1, .ref a2, .ref a3, .ref a4, .ref a5, .int n0_6, .int n0_7, .int n0_8, .int n0_9, .int n0_10, .long l0_11, .int (u.1 0), .int (u.1 1), .int n0_14, .int n0_15, .ref a6, .ref a7, .ref a8, .ref a9, .ref a10, .ref a11, .ref a12, .ref a13, .int n0_24, .int n0_25, .int n0_26, .int n0_27, .ref a14, .int n0_29, .int n0_30]))])) (va_runV (As := [.int 1]) (rest := []) ⟨hx, hb, hml, hown, hts⟩ (a_X11_fails1 l G ct a0 n0_0 a1 a2 a3 a4 a5 n0_6 n0_7 n0_8 n0_9 n0_10 l0_11 n0_12 n0_13 n0_14 n0_15 a6 a7 a8 a9 a10 a11 a12 a13 n0_24 n0_25 n0_26 n0_27 a14 n0_29 n0_30 hp_n0_6) (cwV 1 hts gX11_number_X11_fails rfl rfl rfl (by decide +kernel) ⟨Nat.le_of_ble_eq_true rfl, Nat.le_of_ble_eq_true rfl⟩) (wr_preV 11 0 hK (hP.sub [0] rfl) (hD.sub [0] (by decide) rfl) rfl rfl) rfl rfl hl.1 rfl (lv_room (Nat.le_of_ble_eq_true rfl)) dX11_number_19 ⟨Nat.zero_le _, Nat.zero_le _⟩) hS hP hD [0] [1] rfl rfl (by decide) (fun _ => rfl) (fun ur19 H locs wr19 hP hD hS => ?_)
      have hP : va_P G vwCl [(a0, .inr (11, [.int n0_0, .ref a1, .ref a2, .ref a3, .ref a4, .ref a5, .int n0_6, .int n0_7, .int n0_8, .int n0_9, .int n0_10, .long l0_11, .int (ur19.1 0), .int (ur19.1 1), .int n0_14, .int n0_15, .ref a6, .ref a7, .ref a8, .ref a9, .ref a10, .ref a11, .ref a12, .ref a13, .int n0_24, .int n0_25, .int n0_26, .int n0_27, .ref a14, .int n0_29, .int n0_30])), (a5, .inl (ct 1, 900, .inl f5))] H := hP.sub [1, 0] rfl
      have hD : va_D A [(a0, .inr (11, [.int n0_0, .ref a1, .ref a2, .ref a3, .ref a4, .ref a5, .int n0_6, .int n0_7, .int n0_8, .int n0_9, .int n0_10, .long l0_11, .int (ur19.1 0), .int (ur19.1 1), .int n0_14, .int n0_15, .ref a6, .ref a7, .ref a8, .ref a9, .ref a10, .ref a11, .ref a12, .ref a13, .int n0_24, .int n0_25, .int n0_26, .int n0_27, .ref a14, .int n0_29, .int n0_30])), (a5, .inl (ct 1, 900, .inl f5))] := hD.sub [1, 0] (by decide) rfl
      obtain ⟨p_15, -⟩ := wr19
      refine lv_iload_n hx hb dX11_number_22 rfl (lv_at hl 1 rfl) ?_
      exact W.iret (v := 0) hx hb hr (fun t ht hW => ⟨⟨0, (fun k => ([n0_7, n0_8, n0_9, n0_10, ur19.1 0, ur19.1 1] : List Int32).getD k 0, fun k => ([] : List (Nat → Int32)).getD k (fun _ => 0), fun k => ([fun _ => l0_11] : List (Nat → Int64)).getD k (fun _ => 0)), rfl, ⟨(rg_w (c := 0) (d := 5) (rgn 0 (x := 0) (by decide)) (by decide)), hp_n0_7, hp_n0_8, hp_n0_10, ⟨(show n0_7.toInt ≤ (n0_7).toInt from (Int.le_refl _)), (show (n0_7).toInt ≤ n0_6.toInt from hat), (fun hb _ => absurd hb p_15)⟩, trivial⟩, hp_at ht hP⟩, hS.F ht⟩) hS.2.2 dX11_number_23
  · refine lv_iload_n hx hb dX11_number_7 rfl (lv_at hl 1 rfl) ?_
    exact W.iret (v := 0) hx hb hr (fun t ht hW => ⟨⟨0, (fun k => ([n0_7, n0_8, n0_9, n0_10, n0_12, n0_13] : List Int32).getD k 0, fun k => ([] : List (Nat → Int32)).getD k (fun _ => 0), fun k => ([fun _ => l0_11] : List (Nat → Int64)).getD k (fun _ => 0)), rfl, ⟨(rg_w (c := 0) (d := 5) (rgn 0 (x := 0) (by decide)) (by decide)), hp_n0_7, hp_n0_8, hp_n0_10, ⟨(show n0_7.toInt ≤ (n0_7).toInt from (Int.le_refl _)), (show (n0_7).toInt ≤ n0_6.toInt from hat), (fun hb _ => absurd hb c4)⟩, trivial⟩, hp_at ht hP⟩, hS.F ht⟩) hS.2.2 dX11_number_8
