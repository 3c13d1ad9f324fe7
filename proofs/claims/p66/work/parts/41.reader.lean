theorem dX5_isBlank_0 : decode cX5_isBlank 0 = .ok (.iload_n 0, 1) := by decide +kernel
theorem dX5_isBlank_1 : decode cX5_isBlank 1 = .ok (.bipush 32, 2) := by decide +kernel
theorem dX5_isBlank_12 : decode cX5_isBlank 12 = .ok (.iconst 1, 1) := by decide +kernel
theorem dX5_isBlank_13 : decode cX5_isBlank 13 = .ok (.goto 4, 3) := by decide +kernel
theorem dX5_isBlank_17 : decode cX5_isBlank 17 = .ok (.ireturn, 1) := by decide +kernel
theorem dX5_isBlank_3 : decode cX5_isBlank 3 = .ok (.if_icmp .eq 9, 3) := by decide +kernel
theorem dX5_isBlank_6 : decode cX5_isBlank 6 = .ok (.iload_n 0, 1) := by decide +kernel
theorem dX5_isBlank_7 : decode cX5_isBlank 7 = .ok (.bipush 10, 2) := by decide +kernel
theorem dX5_isBlank_9 : decode cX5_isBlank 9 = .ok (.if_icmp .ne 7, 3) := by decide +kernel
theorem dX5_isBlank_16 : decode cX5_isBlank 16 = .ok (.iconst 0, 1) := by decide +kernel
theorem dX5_isLetter_0 : decode cX5_isLetter 0 = .ok (.iload_n 0, 1) := by decide +kernel
theorem dX5_isLetter_1 : decode cX5_isLetter 1 = .ok (.bipush 97, 2) := by decide +kernel
theorem dX5_isLetter_3 : decode cX5_isLetter 3 = .ok (.if_icmp .lt 13, 3) := by decide +kernel
theorem dX5_isLetter_16 : decode cX5_isLetter 16 = .ok (.iconst 0, 1) := by decide +kernel
theorem dX5_isLetter_17 : decode cX5_isLetter 17 = .ok (.ireturn, 1) := by decide +kernel
theorem dX5_isLetter_6 : decode cX5_isLetter 6 = .ok (.iload_n 0, 1) := by decide +kernel
theorem dX5_isLetter_7 : decode cX5_isLetter 7 = .ok (.bipush 122, 2) := by decide +kernel
theorem dX5_isLetter_9 : decode cX5_isLetter 9 = .ok (.if_icmp .gt 7, 3) := by decide +kernel
theorem dX5_isLetter_12 : decode cX5_isLetter 12 = .ok (.iconst 1, 1) := by decide +kernel
theorem dX5_isLetter_13 : decode cX5_isLetter 13 = .ok (.goto 4, 3) := by decide +kernel
theorem dX5_isDigit_0 : decode cX5_isDigit 0 = .ok (.iload_n 0, 1) := by decide +kernel
theorem dX5_isDigit_1 : decode cX5_isDigit 1 = .ok (.bipush 48, 2) := by decide +kernel
theorem dX5_isDigit_3 : decode cX5_isDigit 3 = .ok (.if_icmp .lt 13, 3) := by decide +kernel
theorem dX5_isDigit_16 : decode cX5_isDigit 16 = .ok (.iconst 0, 1) := by decide +kernel
theorem dX5_isDigit_17 : decode cX5_isDigit 17 = .ok (.ireturn, 1) := by decide +kernel
theorem dX5_isDigit_6 : decode cX5_isDigit 6 = .ok (.iload_n 0, 1) := by decide +kernel
theorem dX5_isDigit_7 : decode cX5_isDigit 7 = .ok (.bipush 57, 2) := by decide +kernel
theorem dX5_isDigit_9 : decode cX5_isDigit 9 = .ok (.if_icmp .gt 7, 3) := by decide +kernel
theorem dX5_isDigit_12 : decode cX5_isDigit 12 = .ok (.iconst 1, 1) := by decide +kernel
theorem dX5_isDigit_13 : decode cX5_isDigit 13 = .ok (.goto 4, 3) := by decide +kernel
theorem dX5_fail_0 : decode cX5_fail 0 = .ok (.aload_n 0, 1) := by decide +kernel
theorem dX5_fail_1 : decode cX5_fail 1 = .ok (.getfield 29, 3) := by decide +kernel
theorem dX5_fail_4 : decode cX5_fail 4 = .ok (.ifCond .ne 16, 3) := by decide +kernel
theorem dX5_fail_20 : decode cX5_fail 20 = .ok (.return_, 1) := by decide +kernel
theorem dX5_fail_7 : decode cX5_fail 7 = .ok (.aload_n 0, 1) := by decide +kernel
theorem dX5_fail_8 : decode cX5_fail 8 = .ok (.iload_n 1, 1) := by decide +kernel
theorem dX5_fail_9 : decode cX5_fail 9 = .ok (.putfield 29, 3) := by decide +kernel
theorem dX5_fail_12 : decode cX5_fail 12 = .ok (.aload_n 0, 1) := by decide +kernel
theorem dX5_fail_13 : decode cX5_fail 13 = .ok (.aload_n 0, 1) := by decide +kernel
theorem dX5_fail_14 : decode cX5_fail 14 = .ok (.getfield 127, 3) := by decide +kernel
theorem dX5_fail_17 : decode cX5_fail 17 = .ok (.putfield 18, 3) := by decide +kernel
theorem dX5_step_0 : decode cX5_step 0 = .ok (.aload_n 0, 1) := by decide +kernel
theorem dX5_step_1 : decode cX5_step 1 = .ok (.aload_n 0, 1) := by decide +kernel
theorem dX5_step_2 : decode cX5_step 2 = .ok (.getfield 32, 3) := by decide +kernel
theorem dX5_step_5 : decode cX5_step 5 = .ok (.putfield 127, 3) := by decide +kernel
theorem dX5_step_8 : decode cX5_step 8 = .ok (.aload_n 0, 1) := by decide +kernel
theorem dX5_step_9 : decode cX5_step 9 = .ok (.getfield 127, 3) := by decide +kernel
theorem dX5_step_12 : decode cX5_step 12 = .ok (.aload_n 0, 1) := by decide +kernel
theorem dX5_step_13 : decode cX5_step 13 = .ok (.getfield 22, 3) := by decide +kernel
theorem dX5_step_16 : decode cX5_step 16 = .ok (.getfield 145, 3) := by decide +kernel
theorem dX5_step_52 : decode cX5_step 52 = .ok (.aload_n 0, 1) := by decide +kernel
theorem dX5_step_53 : decode cX5_step 53 = .ok (.aload_n 0, 1) := by decide +kernel
theorem dX5_step_54 : decode cX5_step 54 = .ok (.getfield 127, 3) := by decide +kernel
theorem dX5_step_57 : decode cX5_step 57 = .ok (.putfield 32, 3) := by decide +kernel
theorem dX5_step_60 : decode cX5_step 60 = .ok (.aload_n 0, 1) := by decide +kernel
theorem dX5_step_61 : decode cX5_step 61 = .ok (.iconst 0, 1) := by decide +kernel
theorem dX5_step_62 : decode cX5_step 62 = .ok (.putfield 105, 3) := by decide +kernel
theorem dX5_step_65 : decode cX5_step 65 = .ok (.aload_n 0, 1) := by decide +kernel
theorem dX5_step_66 : decode cX5_step 66 = .ok (.getfield 22, 3) := by decide +kernel
theorem dX5_step_69 : decode cX5_step 69 = .ok (.aload_n 0, 1) := by decide +kernel
theorem dX5_step_70 : decode cX5_step 70 = .ok (.getfield 127, 3) := by decide +kernel
set_option maxRecDepth 20000 in
theorem ggX5_step_X8_at : GoodIn wsX5_step wsX8_at := goodIn_r _ [16, 17, 18, 37, 38] (by rfl) (by decide +kernel)
set_option maxRecDepth 20000 in
theorem gX5_step_X8_at : GoodIn wsX5_step (wsV RX5 136 RX8 yX8_at wsX8_at) := goodIn_app (goodIn_r _ [12, 13, 14, 15] (by rfl) (by decide +kernel)) ggX5_step_X8_at
theorem dX5_step_73 : decode cX5_step 73 = .ok (.invokevirtual 136, 3) := by decide +kernel
theorem dX5_step_76 : decode cX5_step 76 = .ok (.istore_n 1, 1) := by decide +kernel
theorem dX5_step_77 : decode cX5_step 77 = .ok (.iload_n 1, 1) := by decide +kernel
theorem dX5_step_78 : decode cX5_step 78 = .ok (.iconst (-1), 1) := by decide +kernel
theorem dX5_step_79 : decode cX5_step 79 = .ok (.if_icmp .ne 11, 3) := by decide +kernel
theorem dX5_step_90 : decode cX5_step 90 = .ok (.iload_n 1, 1) := by decide +kernel
set_option maxRecDepth 20000 in
theorem ggX5_step_X5_isLetter : GoodIn wsX5_step wsX5_isLetter := goodIn_r _ [25] (by rfl) (by decide +kernel)
set_option maxRecDepth 20000 in
theorem gX5_step_X5_isLetter : GoodIn wsX5_step (va_wsS RX5 151 yX5_isLetter wsX5_isLetter) := goodIn_app (goodIn_r _ [23, 24, 21] (by rfl) (by decide +kernel)) ggX5_step_X5_isLetter
theorem dX5_step_91 : decode cX5_step 91 = .ok (.invokestatic 151, 3) := by decide +kernel
theorem dX5_step_94 : decode cX5_step 94 = .ok (.ifCond .eq 52, 3) := by decide +kernel
theorem dX5_step_146 : decode cX5_step 146 = .ok (.iload_n 1, 1) := by decide +kernel
set_option maxRecDepth 20000 in
theorem ggX5_step_X5_isDigit : GoodIn wsX5_step wsX5_isDigit := goodIn_r _ [28] (by rfl) (by decide +kernel)
set_option maxRecDepth 20000 in
theorem gX5_step_X5_isDigit : GoodIn wsX5_step (va_wsS RX5 154 yX5_isDigit wsX5_isDigit) := goodIn_app (goodIn_r _ [26, 27, 21] (by rfl) (by decide +kernel)) ggX5_step_X5_isDigit
theorem dX5_step_147 : decode cX5_step 147 = .ok (.invokestatic 154, 3) := by decide +kernel
theorem dX5_step_150 : decode cX5_step 150 = .ok (.ifCond .eq 83, 3) := by decide +kernel
theorem dX5_step_233 : decode cX5_step 233 = .ok (.aload_n 0, 1) := by decide +kernel
theorem dX5_step_234 : decode cX5_step 234 = .ok (.iload_n 1, 1) := by decide +kernel
theorem dX5_step_235 : decode cX5_step 235 = .ok (.bipush 59, 2) := by decide +kernel
theorem dX5_step_245 : decode cX5_step 245 = .ok (.putfield 38, 3) := by decide +kernel
theorem dX5_step_248 : decode cX5_step 248 = .ok (.aload_n 0, 1) := by decide +kernel
theorem dX5_step_249 : decode cX5_step 249 = .ok (.dup, 1) := by decide +kernel
theorem dX5_step_250 : decode cX5_step 250 = .ok (.getfield 32, 3) := by decide +kernel
theorem dX5_step_253 : decode cX5_step 253 = .ok (.iconst 1, 1) := by decide +kernel
theorem dX5_step_254 : decode cX5_step 254 = .ok (.iadd, 1) := by decide +kernel
theorem dX5_step_255 : decode cX5_step 255 = .ok (.putfield 32, 3) := by decide +kernel
theorem dX5_step_258 : decode cX5_step 258 = .ok (.return_, 1) := by decide +kernel
theorem dX5_step_237 : decode cX5_step 237 = .ok (.if_icmp .ne 7, 3) := by decide +kernel
theorem dX5_step_244 : decode cX5_step 244 = .ok (.iconst 4, 1) := by decide +kernel
theorem dX5_step_240 : decode cX5_step 240 = .ok (.iconst 3, 1) := by decide +kernel
theorem dX5_step_241 : decode cX5_step 241 = .ok (.goto 4, 3) := by decide +kernel
theorem dX5_step_153 : decode cX5_step 153 = .ok (.aload_n 0, 1) := by decide +kernel
theorem dX5_step_154 : decode cX5_step 154 = .ok (.iconst 2, 1) := by decide +kernel
theorem dX5_step_155 : decode cX5_step 155 = .ok (.putfield 38, 3) := by decide +kernel
theorem dX5_step_158 : decode cX5_step 158 = .ok (.aload_n 0, 1) := by decide +kernel
theorem dX5_step_159 : decode cX5_step 159 = .ok (.getfield 32, 3) := by decide +kernel
theorem dX5_step_162 : decode cX5_step 162 = .ok (.aload_n 0, 1) := by decide +kernel
theorem dX5_step_163 : decode cX5_step 163 = .ok (.getfield 22, 3) := by decide +kernel
theorem dX5_step_166 : decode cX5_step 166 = .ok (.getfield 145, 3) := by decide +kernel
theorem dX5_step_169 : decode cX5_step 169 = .ok (.if_icmp .ge 89, 3) := by decide +kernel
theorem dX5_step_172 : decode cX5_step 172 = .ok (.aload_n 0, 1) := by decide +kernel
theorem dX5_step_173 : decode cX5_step 173 = .ok (.getfield 22, 3) := by decide +kernel
theorem dX5_step_176 : decode cX5_step 176 = .ok (.aload_n 0, 1) := by decide +kernel
theorem dX5_step_177 : decode cX5_step 177 = .ok (.getfield 32, 3) := by decide +kernel
theorem dX5_step_180 : decode cX5_step 180 = .ok (.invokevirtual 136, 3) := by decide +kernel
theorem dX5_step_183 : decode cX5_step 183 = .ok (.invokestatic 154, 3) := by decide +kernel
theorem dX5_step_186 : decode cX5_step 186 = .ok (.ifCond .eq 72, 3) := by decide +kernel
theorem dX5_step_189 : decode cX5_step 189 = .ok (.aload_n 0, 1) := by decide +kernel
theorem dX5_step_190 : decode cX5_step 190 = .ok (.ldc 157, 2) := by decide +kernel
theorem dX5_step_192 : decode cX5_step 192 = .ok (.aload_n 0, 1) := by decide +kernel
theorem dX5_step_193 : decode cX5_step 193 = .ok (.getfield 105, 3) := by decide +kernel
theorem dX5_step_196 : decode cX5_step 196 = .ok (.bipush 10, 2) := by decide +kernel
theorem dX5_step_198 : decode cX5_step 198 = .ok (.imul, 1) := by decide +kernel
theorem dX5_step_199 : decode cX5_step 199 = .ok (.aload_n 0, 1) := by decide +kernel
theorem dX5_step_200 : decode cX5_step 200 = .ok (.getfield 22, 3) := by decide +kernel
theorem dX5_step_203 : decode cX5_step 203 = .ok (.aload_n 0, 1) := by decide +kernel
theorem dX5_step_204 : decode cX5_step 204 = .ok (.getfield 32, 3) := by decide +kernel
theorem dX5_step_207 : decode cX5_step 207 = .ok (.invokevirtual 136, 3) := by decide +kernel
theorem dX5_step_210 : decode cX5_step 210 = .ok (.iadd, 1) := by decide +kernel
theorem dX5_step_211 : decode cX5_step 211 = .ok (.bipush 48, 2) := by decide +kernel
theorem dX5_step_213 : decode cX5_step 213 = .ok (.isub, 1) := by decide +kernel
theorem dX5_step_214 : decode cX5_step 214 = .ok (.invokestatic 158, 3) := by decide +kernel
theorem dX5_step_217 : decode cX5_step 217 = .ok (.putfield 105, 3) := by decide +kernel
theorem dX5_step_220 : decode cX5_step 220 = .ok (.aload_n 0, 1) := by decide +kernel
theorem dX5_step_221 : decode cX5_step 221 = .ok (.dup, 1) := by decide +kernel
theorem dX5_step_222 : decode cX5_step 222 = .ok (.getfield 32, 3) := by decide +kernel
theorem dX5_step_225 : decode cX5_step 225 = .ok (.iconst 1, 1) := by decide +kernel
theorem dX5_step_226 : decode cX5_step 226 = .ok (.iadd, 1) := by decide +kernel
theorem dX5_step_227 : decode cX5_step 227 = .ok (.putfield 32, 3) := by decide +kernel
theorem dX5_step_230 : decode cX5_step 230 = .ok (.goto (-72), 3) := by decide +kernel
theorem dX5_step_97 : decode cX5_step 97 = .ok (.aload_n 0, 1) := by decide +kernel
theorem dX5_step_98 : decode cX5_step 98 = .ok (.iconst 1, 1) := by decide +kernel
theorem dX5_step_99 : decode cX5_step 99 = .ok (.putfield 38, 3) := by decide +kernel
theorem dX5_step_102 : decode cX5_step 102 = .ok (.aload_n 0, 1) := by decide +kernel
theorem dX5_step_103 : decode cX5_step 103 = .ok (.getfield 32, 3) := by decide +kernel
theorem dX5_step_106 : decode cX5_step 106 = .ok (.aload_n 0, 1) := by decide +kernel
theorem dX5_step_107 : decode cX5_step 107 = .ok (.getfield 22, 3) := by decide +kernel
theorem dX5_step_110 : decode cX5_step 110 = .ok (.getfield 145, 3) := by decide +kernel
theorem dX5_step_113 : decode cX5_step 113 = .ok (.if_icmp .ge 145, 3) := by decide +kernel
theorem dX5_step_116 : decode cX5_step 116 = .ok (.aload_n 0, 1) := by decide +kernel
theorem dX5_step_117 : decode cX5_step 117 = .ok (.getfield 22, 3) := by decide +kernel
theorem dX5_step_120 : decode cX5_step 120 = .ok (.aload_n 0, 1) := by decide +kernel
theorem dX5_step_121 : decode cX5_step 121 = .ok (.getfield 32, 3) := by decide +kernel
theorem dX5_step_124 : decode cX5_step 124 = .ok (.invokevirtual 136, 3) := by decide +kernel
theorem dX5_step_127 : decode cX5_step 127 = .ok (.invokestatic 151, 3) := by decide +kernel
theorem dX5_step_130 : decode cX5_step 130 = .ok (.ifCond .eq 128, 3) := by decide +kernel
theorem dX5_step_133 : decode cX5_step 133 = .ok (.aload_n 0, 1) := by decide +kernel
theorem dX5_step_134 : decode cX5_step 134 = .ok (.dup, 1) := by decide +kernel
theorem dX5_step_135 : decode cX5_step 135 = .ok (.getfield 32, 3) := by decide +kernel
theorem dX5_step_138 : decode cX5_step 138 = .ok (.iconst 1, 1) := by decide +kernel
theorem dX5_step_139 : decode cX5_step 139 = .ok (.iadd, 1) := by decide +kernel
theorem dX5_step_140 : decode cX5_step 140 = .ok (.putfield 32, 3) := by decide +kernel
theorem dX5_step_143 : decode cX5_step 143 = .ok (.goto (-41), 3) := by decide +kernel
theorem dX5_step_82 : decode cX5_step 82 = .ok (.aload_n 0, 1) := by decide +kernel
theorem dX5_step_83 : decode cX5_step 83 = .ok (.iconst 0, 1) := by decide +kernel
theorem dX5_step_84 : decode cX5_step 84 = .ok (.putfield 38, 3) := by decide +kernel
theorem dX5_step_87 : decode cX5_step 87 = .ok (.goto 171, 3) := by decide +kernel
theorem dX5_step_19 : decode cX5_step 19 = .ok (.if_icmp .ge 33, 3) := by decide +kernel
theorem dX5_step_22 : decode cX5_step 22 = .ok (.aload_n 0, 1) := by decide +kernel
theorem dX5_step_23 : decode cX5_step 23 = .ok (.getfield 22, 3) := by decide +kernel
theorem dX5_step_26 : decode cX5_step 26 = .ok (.aload_n 0, 1) := by decide +kernel
theorem dX5_step_27 : decode cX5_step 27 = .ok (.getfield 127, 3) := by decide +kernel
theorem dX5_step_30 : decode cX5_step 30 = .ok (.invokevirtual 136, 3) := by decide +kernel
set_option maxRecDepth 20000 in
theorem ggX5_step_X5_isBlank : GoodIn wsX5_step wsX5_isBlank := goodIn_r _ [22] (by rfl) (by decide +kernel)
set_option maxRecDepth 20000 in
theorem gX5_step_X5_isBlank : GoodIn wsX5_step (va_wsS RX5 148 yX5_isBlank wsX5_isBlank) := goodIn_app (goodIn_r _ [19, 20, 21] (by rfl) (by decide +kernel)) ggX5_step_X5_isBlank
theorem dX5_step_33 : decode cX5_step 33 = .ok (.invokestatic 148, 3) := by decide +kernel
theorem dX5_step_36 : decode cX5_step 36 = .ok (.ifCond .eq 16, 3) := by decide +kernel
theorem dX5_step_39 : decode cX5_step 39 = .ok (.aload_n 0, 1) := by decide +kernel
theorem dX5_step_40 : decode cX5_step 40 = .ok (.dup, 1) := by decide +kernel
theorem dX5_step_41 : decode cX5_step 41 = .ok (.getfield 127, 3) := by decide +kernel
theorem dX5_step_44 : decode cX5_step 44 = .ok (.iconst 1, 1) := by decide +kernel
theorem dX5_step_45 : decode cX5_step 45 = .ok (.iadd, 1) := by decide +kernel
theorem dX5_step_46 : decode cX5_step 46 = .ok (.putfield 127, 3) := by decide +kernel
theorem dX5_step_49 : decode cX5_step 49 = .ok (.goto (-41), 3) := by decide +kernel
theorem dX5_isWord_0 : decode cX5_isWord 0 = .ok (.aload_n 0, 1) := by decide +kernel
theorem dX5_isWord_1 : decode cX5_isWord 1 = .ok (.getfield 38, 3) := by decide +kernel
theorem dX5_isWord_4 : decode cX5_isWord 4 = .ok (.iconst 1, 1) := by decide +kernel
theorem dX5_isWord_5 : decode cX5_isWord 5 = .ok (.if_icmp .ne 19, 3) := by decide +kernel
theorem dX5_isWord_24 : decode cX5_isWord 24 = .ok (.iconst 0, 1) := by decide +kernel
theorem dX5_isWord_25 : decode cX5_isWord 25 = .ok (.ireturn, 1) := by decide +kernel
theorem dX5_isWord_8 : decode cX5_isWord 8 = .ok (.aload_n 0, 1) := by decide +kernel
theorem dX5_isWord_9 : decode cX5_isWord 9 = .ok (.getfield 32, 3) := by decide +kernel
theorem dX5_isWord_12 : decode cX5_isWord 12 = .ok (.aload_n 0, 1) := by decide +kernel
theorem dX5_isWord_13 : decode cX5_isWord 13 = .ok (.getfield 127, 3) := by decide +kernel
theorem dX5_isWord_16 : decode cX5_isWord 16 = .ok (.isub, 1) := by decide +kernel
theorem dX5_isWord_17 : decode cX5_isWord 17 = .ok (.aload_n 1, 1) := by decide +kernel
set_option maxRecDepth 20000 in
theorem ggX5_isWord_J0_length_8abf5 : GoodIn wsX5_isWord wsJ0_length_8abf5 := goodIn_r _ [9, 10, 11, 12, 13, 8, 14, 15, 16] (by rfl) (by decide +kernel)
set_option maxRecDepth 20000 in
theorem gX5_isWord_J0_length_8abf5 : GoodIn wsX5_isWord (wsV RX5 130 RJ0 yJ0_length_8abf5 wsJ0_length_8abf5) := goodIn_app (goodIn_r _ [5, 6, 7, 8] (by rfl) (by decide +kernel)) ggX5_isWord_J0_length_8abf5
theorem dX5_isWord_18 : decode cX5_isWord 18 = .ok (.invokevirtual 130, 3) := by decide +kernel
theorem dX5_isWord_21 : decode cX5_isWord 21 = .ok (.if_icmp .eq 5, 3) := by decide +kernel
theorem dX5_isWord_26 : decode cX5_isWord 26 = .ok (.iconst 0, 1) := by decide +kernel
theorem dX5_isWord_27 : decode cX5_isWord 27 = .ok (.istore_n 2, 1) := by decide +kernel
theorem dX5_isWord_28 : decode cX5_isWord 28 = .ok (.iload_n 2, 1) := by decide +kernel
theorem dX5_isWord_29 : decode cX5_isWord 29 = .ok (.aload_n 1, 1) := by decide +kernel
theorem dX5_isWord_30 : decode cX5_isWord 30 = .ok (.invokevirtual 130, 3) := by decide +kernel
theorem dX5_isWord_33 : decode cX5_isWord 33 = .ok (.if_icmp .ge 32, 3) := by decide +kernel
theorem dX5_isWord_65 : decode cX5_isWord 65 = .ok (.iconst 1, 1) := by decide +kernel
theorem dX5_isWord_66 : decode cX5_isWord 66 = .ok (.ireturn, 1) := by decide +kernel
theorem dX5_isWord_36 : decode cX5_isWord 36 = .ok (.aload_n 0, 1) := by decide +kernel
theorem dX5_isWord_37 : decode cX5_isWord 37 = .ok (.getfield 22, 3) := by decide +kernel
theorem dX5_isWord_40 : decode cX5_isWord 40 = .ok (.aload_n 0, 1) := by decide +kernel
theorem dX5_isWord_41 : decode cX5_isWord 41 = .ok (.getfield 127, 3) := by decide +kernel
theorem dX5_isWord_44 : decode cX5_isWord 44 = .ok (.iload_n 2, 1) := by decide +kernel
theorem dX5_isWord_45 : decode cX5_isWord 45 = .ok (.iadd, 1) := by decide +kernel
set_option maxRecDepth 20000 in
theorem ggX5_isWord_X8_at : GoodIn wsX5_isWord wsX8_at := goodIn_r _ [21, 22, 23, 69, 70] (by rfl) (by decide +kernel)
set_option maxRecDepth 20000 in
theorem gX5_isWord_X8_at : GoodIn wsX5_isWord (wsV RX5 136 RX8 yX8_at wsX8_at) := goodIn_app (goodIn_r _ [17, 18, 19, 20] (by rfl) (by decide +kernel)) ggX5_isWord_X8_at
theorem dX5_isWord_46 : decode cX5_isWord 46 = .ok (.invokevirtual 136, 3) := by decide +kernel
theorem dX5_isWord_49 : decode cX5_isWord 49 = .ok (.aload_n 1, 1) := by decide +kernel
theorem dX5_isWord_50 : decode cX5_isWord 50 = .ok (.iload_n 2, 1) := by decide +kernel
set_option maxRecDepth 20000 in
theorem ggX5_isWord_J0_charAt_5068e : GoodIn wsX5_isWord wsJ0_charAt_5068e := goodIn_r _ [27, 10, 28, 29, 30, 8, 31, 15, 16, 32, 33, 34, 35, 36, 37, 38, 39, 40, 41, 42, 43, 44, 45, 46, 47, 48, 49, 50, 51, 52, 53, 54, 55, 56, 57, 58, 59, 60] (by rfl) (by decide +kernel)
set_option maxRecDepth 20000 in
theorem gX5_isWord_J0_charAt_5068e : GoodIn wsX5_isWord (wsV RX5 141 RJ0 yJ0_charAt_5068e wsJ0_charAt_5068e) := goodIn_app (goodIn_r _ [24, 25, 26, 8] (by rfl) (by decide +kernel)) ggX5_isWord_J0_charAt_5068e
theorem dX5_isWord_51 : decode cX5_isWord 51 = .ok (.invokevirtual 141, 3) := by decide +kernel
theorem dX5_isWord_54 : decode cX5_isWord 54 = .ok (.if_icmp .eq 5, 3) := by decide +kernel
theorem dX5_isWord_59 : decode cX5_isWord 59 = .ok (.iinc 2 1, 3) := by decide +kernel
theorem dX5_isWord_62 : decode cX5_isWord 62 = .ok (.goto (-34), 3) := by decide +kernel
theorem dX5_isWord_57 : decode cX5_isWord 57 = .ok (.iconst 0, 1) := by decide +kernel
theorem dX5_isWord_58 : decode cX5_isWord 58 = .ok (.ireturn, 1) := by decide +kernel
theorem dX5_takeNumber_0 : decode cX5_takeNumber 0 = .ok (.aload_n 0, 1) := by decide +kernel
theorem dX5_takeNumber_1 : decode cX5_takeNumber 1 = .ok (.getfield 29, 3) := by decide +kernel
theorem dX5_takeNumber_4 : decode cX5_takeNumber 4 = .ok (.ifCond .eq 5, 3) := by decide +kernel
theorem dX5_takeNumber_9 : decode cX5_takeNumber 9 = .ok (.aload_n 0, 1) := by decide +kernel
theorem dX5_takeNumber_10 : decode cX5_takeNumber 10 = .ok (.getfield 38, 3) := by decide +kernel
theorem dX5_takeNumber_13 : decode cX5_takeNumber 13 = .ok (.iconst 2, 1) := by decide +kernel
theorem dX5_takeNumber_14 : decode cX5_takeNumber 14 = .ok (.if_icmp .eq 10, 3) := by decide +kernel
theorem dX5_takeNumber_24 : decode cX5_takeNumber 24 = .ok (.aload_n 0, 1) := by decide +kernel
theorem dX5_takeNumber_25 : decode cX5_takeNumber 25 = .ok (.getfield 105, 3) := by decide +kernel
theorem dX5_takeNumber_28 : decode cX5_takeNumber 28 = .ok (.iload_n 1, 1) := by decide +kernel
theorem dX5_takeNumber_40 : decode cX5_takeNumber 40 = .ok (.aload_n 0, 1) := by decide +kernel
theorem dX5_takeNumber_41 : decode cX5_takeNumber 41 = .ok (.iconst 2, 1) := by decide +kernel
set_option maxRecDepth 20000 in
theorem ggX5_takeNumber_X5_fail : GoodIn wsX5_takeNumber wsX5_fail := goodIn_r _ [8, 1, 9, 10, 39, 40, 41, 42, 43, 44, 45, 46] (by rfl) (by decide +kernel)
set_option maxRecDepth 20000 in
theorem gX5_takeNumber_X5_fail : GoodIn wsX5_takeNumber (wsV RX5 61 RX5 yX5_fail wsX5_fail) := goodIn_app (goodIn_r _ [4, 5, 6, 7] (by rfl) (by decide +kernel)) ggX5_takeNumber_X5_fail
theorem dX5_takeNumber_42 : decode cX5_takeNumber 42 = .ok (.invokevirtual 61, 3) := by decide +kernel
theorem dX5_takeNumber_45 : decode cX5_takeNumber 45 = .ok (.iconst 0, 1) := by decide +kernel
theorem dX5_takeNumber_46 : decode cX5_takeNumber 46 = .ok (.ireturn, 1) := by decide +kernel
theorem dX5_takeNumber_29 : decode cX5_takeNumber 29 = .ok (.if_icmp .lt 11, 3) := by decide +kernel
theorem dX5_takeNumber_32 : decode cX5_takeNumber 32 = .ok (.aload_n 0, 1) := by decide +kernel
theorem dX5_takeNumber_33 : decode cX5_takeNumber 33 = .ok (.getfield 105, 3) := by decide +kernel
theorem dX5_takeNumber_36 : decode cX5_takeNumber 36 = .ok (.iload_n 2, 1) := by decide +kernel
theorem dX5_takeNumber_37 : decode cX5_takeNumber 37 = .ok (.if_icmp .le 10, 3) := by decide +kernel
theorem dX5_takeNumber_47 : decode cX5_takeNumber 47 = .ok (.aload_n 0, 1) := by decide +kernel
theorem dX5_takeNumber_48 : decode cX5_takeNumber 48 = .ok (.getfield 105, 3) := by decide +kernel
theorem dX5_takeNumber_51 : decode cX5_takeNumber 51 = .ok (.istore_n 3, 1) := by decide +kernel
theorem dX5_takeNumber_52 : decode cX5_takeNumber 52 = .ok (.aload_n 0, 1) := by decide +kernel
set_option maxRecDepth 20000 in
theorem ggX5_takeNumber_X5_step : GoodIn wsX5_takeNumber wsX5_step := goodIn_r _ [14, 15, 9, 16, 17, 3, 2, 18, 19, 20, 21, 22, 23, 24, 25, 26, 27, 28, 29, 30, 31, 7, 32, 33, 34, 35, 36, 37, 38, 39, 40, 41, 42, 43, 44, 45, 46, 47, 48] (by rfl) (by decide +kernel)
set_option maxRecDepth 20000 in
theorem gX5_takeNumber_X5_step : GoodIn wsX5_takeNumber (wsV RX5 35 RX5 yX5_step wsX5_step) := goodIn_app (goodIn_r _ [11, 12, 13, 7] (by rfl) (by decide +kernel)) ggX5_takeNumber_X5_step
theorem dX5_takeNumber_53 : decode cX5_takeNumber 53 = .ok (.invokevirtual 35, 3) := by decide +kernel
theorem dX5_takeNumber_56 : decode cX5_takeNumber 56 = .ok (.iload_n 3, 1) := by decide +kernel
theorem dX5_takeNumber_57 : decode cX5_takeNumber 57 = .ok (.ireturn, 1) := by decide +kernel
theorem dX5_takeNumber_17 : decode cX5_takeNumber 17 = .ok (.aload_n 0, 1) := by decide +kernel
theorem dX5_takeNumber_18 : decode cX5_takeNumber 18 = .ok (.iconst 1, 1) := by decide +kernel
theorem dX5_takeNumber_19 : decode cX5_takeNumber 19 = .ok (.invokevirtual 61, 3) := by decide +kernel
theorem dX5_takeNumber_22 : decode cX5_takeNumber 22 = .ok (.iconst 0, 1) := by decide +kernel
theorem dX5_takeNumber_23 : decode cX5_takeNumber 23 = .ok (.ireturn, 1) := by decide +kernel
theorem dX5_takeNumber_7 : decode cX5_takeNumber 7 = .ok (.iconst 0, 1) := by decide +kernel
theorem dX5_takeNumber_8 : decode cX5_takeNumber 8 = .ok (.ireturn, 1) := by decide +kernel
theorem dX5_takeWord_0 : decode cX5_takeWord 0 = .ok (.aload_n 0, 1) := by decide +kernel
theorem dX5_takeWord_1 : decode cX5_takeWord 1 = .ok (.getfield 29, 3) := by decide +kernel
theorem dX5_takeWord_4 : decode cX5_takeWord 4 = .ok (.ifCond .eq 4, 3) := by decide +kernel
theorem dX5_takeWord_8 : decode cX5_takeWord 8 = .ok (.aload_n 0, 1) := by decide +kernel
theorem dX5_takeWord_9 : decode cX5_takeWord 9 = .ok (.aload_n 1, 1) := by decide +kernel
set_option maxRecDepth 20000 in
theorem ggX5_takeWord_X5_isWord : GoodIn wsX5_takeWord wsX5_isWord := goodIn_r _ [6, 7, 8, 9, 10, 11, 12, 13, 14, 15, 16, 17, 18, 19, 20, 21, 22, 23, 24, 25, 26, 27, 28, 29, 30, 31, 32, 33, 34, 35, 36, 37, 38, 39, 40, 41, 42, 43, 44, 45, 46, 47, 48, 49, 50, 51, 52, 53, 54, 55, 56, 57, 58, 59, 60, 61, 62, 63, 64, 65, 66, 92, 93, 94, 95, 96, 97, 98, 99, 100, 101] (by rfl) (by decide +kernel)
set_option maxRecDepth 20000 in
theorem gX5_takeWord_X5_isWord : GoodIn wsX5_takeWord (wsV RX5 49 RX5 yX5_isWord wsX5_isWord) := goodIn_app (goodIn_r _ [2, 3, 4, 5] (by rfl) (by decide +kernel)) ggX5_takeWord_X5_isWord
theorem dX5_takeWord_10 : decode cX5_takeWord 10 = .ok (.invokevirtual 49, 3) := by decide +kernel
theorem dX5_takeWord_13 : decode cX5_takeWord 13 = .ok (.ifCond .eq 10, 3) := by decide +kernel
theorem dX5_takeWord_23 : decode cX5_takeWord 23 = .ok (.aload_n 0, 1) := by decide +kernel
theorem dX5_takeWord_24 : decode cX5_takeWord 24 = .ok (.iconst 1, 1) := by decide +kernel
set_option maxRecDepth 20000 in
theorem ggX5_takeWord_X5_fail : GoodIn wsX5_takeWord wsX5_fail := goodIn_r _ [90, 1, 9, 91, 92, 93, 94, 95, 96, 97, 98, 99] (by rfl) (by decide +kernel)
set_option maxRecDepth 20000 in
theorem gX5_takeWord_X5_fail : GoodIn wsX5_takeWord (wsV RX5 61 RX5 yX5_fail wsX5_fail) := goodIn_app (goodIn_r _ [87, 88, 89, 5] (by rfl) (by decide +kernel)) ggX5_takeWord_X5_fail
theorem dX5_takeWord_25 : decode cX5_takeWord 25 = .ok (.invokevirtual 61, 3) := by decide +kernel
theorem dX5_takeWord_28 : decode cX5_takeWord 28 = .ok (.return_, 1) := by decide +kernel
theorem dX5_takeWord_16 : decode cX5_takeWord 16 = .ok (.aload_n 0, 1) := by decide +kernel
set_option maxRecDepth 20000 in
theorem ggX5_takeWord_X5_step : GoodIn wsX5_takeWord wsX5_step := goodIn_r _ [70, 8, 9, 10, 71, 72, 7, 73, 74, 75, 76, 77, 23, 24, 25, 26, 27, 28, 29, 78, 79, 5, 80, 81, 82, 83, 84, 85, 86, 92, 93, 94, 95, 96, 97, 98, 99, 100, 101] (by rfl) (by decide +kernel)
set_option maxRecDepth 20000 in
theorem gX5_takeWord_X5_step : GoodIn wsX5_takeWord (wsV RX5 35 RX5 yX5_step wsX5_step) := goodIn_app (goodIn_r _ [67, 68, 69, 5] (by rfl) (by decide +kernel)) ggX5_takeWord_X5_step
theorem dX5_takeWord_17 : decode cX5_takeWord 17 = .ok (.invokevirtual 35, 3) := by decide +kernel
theorem dX5_takeWord_20 : decode cX5_takeWord 20 = .ok (.goto 8, 3) := by decide +kernel
theorem dX5_takeWord_7 : decode cX5_takeWord 7 = .ok (.return_, 1) := by decide +kernel
theorem dX5_takeSign_0 : decode cX5_takeSign 0 = .ok (.aload_n 0, 1) := by decide +kernel
theorem dX5_takeSign_1 : decode cX5_takeSign 1 = .ok (.getfield 29, 3) := by decide +kernel
theorem dX5_takeSign_20 : decode cX5_takeSign 20 = .ok (.aload_n 0, 1) := by decide +kernel
theorem dX5_takeSign_21 : decode cX5_takeSign 21 = .ok (.getfield 29, 3) := by decide +kernel
theorem dX5_takeSign_24 : decode cX5_takeSign 24 = .ok (.ifCond .ne 20, 3) := by decide +kernel
theorem dX5_takeSign_44 : decode cX5_takeSign 44 = .ok (.return_, 1) := by decide +kernel
theorem dX5_takeSign_27 : decode cX5_takeSign 27 = .ok (.aload_n 0, 1) := by decide +kernel
theorem dX5_takeSign_28 : decode cX5_takeSign 28 = .ok (.getfield 12, 3) := by decide +kernel
theorem dX5_takeSign_31 : decode cX5_takeSign 31 = .ok (.dup, 1) := by decide +kernel
theorem dX5_takeSign_32 : decode cX5_takeSign 32 = .ok (.getfield 41, 3) := by decide +kernel
theorem dX5_takeSign_35 : decode cX5_takeSign 35 = .ok (.iconst 1, 1) := by decide +kernel
theorem dX5_takeSign_36 : decode cX5_takeSign 36 = .ok (.iadd, 1) := by decide +kernel
theorem dX5_takeSign_37 : decode cX5_takeSign 37 = .ok (.putfield 41, 3) := by decide +kernel
theorem dX5_takeSign_40 : decode cX5_takeSign 40 = .ok (.aload_n 0, 1) := by decide +kernel
set_option maxRecDepth 20000 in
theorem ggX5_takeSign_X5_step : GoodIn wsX5_takeSign wsX5_step := goodIn_r _ [15, 16, 10, 17, 18, 19, 2, 20, 21, 22, 23, 24, 25, 26, 27, 28, 29, 30, 31, 32, 33, 8, 34, 35, 36, 37, 38, 39, 40, 41, 42, 43, 44, 45, 46, 47, 48, 56, 57] (by rfl) (by decide +kernel)
set_option maxRecDepth 20000 in
theorem gX5_takeSign_X5_step : GoodIn wsX5_takeSign (wsV RX5 35 RX5 yX5_step wsX5_step) := goodIn_app (goodIn_r _ [12, 13, 14, 8] (by rfl) (by decide +kernel)) ggX5_takeSign_X5_step
theorem dX5_takeSign_41 : decode cX5_takeSign 41 = .ok (.invokevirtual 35, 3) := by decide +kernel
theorem dX5_takeSign_4 : decode cX5_takeSign 4 = .ok (.ifCond .ne 16, 3) := by decide +kernel
theorem dX5_takeSign_7 : decode cX5_takeSign 7 = .ok (.aload_n 0, 1) := by decide +kernel
theorem dX5_takeSign_8 : decode cX5_takeSign 8 = .ok (.getfield 38, 3) := by decide +kernel
theorem dX5_takeSign_11 : decode cX5_takeSign 11 = .ok (.iconst 3, 1) := by decide +kernel
theorem dX5_takeSign_12 : decode cX5_takeSign 12 = .ok (.if_icmp .eq 8, 3) := by decide +kernel
theorem dX5_takeSign_15 : decode cX5_takeSign 15 = .ok (.aload_n 0, 1) := by decide +kernel
theorem dX5_takeSign_16 : decode cX5_takeSign 16 = .ok (.iconst 1, 1) := by decide +kernel
set_option maxRecDepth 20000 in
theorem ggX5_takeSign_X5_fail : GoodIn wsX5_takeSign wsX5_fail := goodIn_r _ [9, 1, 10, 11, 41, 42, 43, 44, 45, 46, 47, 48] (by rfl) (by decide +kernel)
set_option maxRecDepth 20000 in
theorem gX5_takeSign_X5_fail : GoodIn wsX5_takeSign (wsV RX5 61 RX5 yX5_fail wsX5_fail) := goodIn_app (goodIn_r _ [5, 6, 7, 8] (by rfl) (by decide +kernel)) ggX5_takeSign_X5_fail
theorem dX5_takeSign_17 : decode cX5_takeSign 17 = .ok (.invokevirtual 61, 3) := by decide +kernel
theorem dX5_takeDeeds_0 : decode cX5_takeDeeds 0 = .ok (.aload_n 0, 1) := by decide +kernel
theorem dX5_takeDeeds_1 : decode cX5_takeDeeds 1 = .ok (.getfield 29, 3) := by decide +kernel
theorem dX5_takeDeeds_4 : decode cX5_takeDeeds 4 = .ok (.ifCond .ne 11, 3) := by decide +kernel
theorem dX5_takeDeeds_15 : decode cX5_takeDeeds 15 = .ok (.iconst 0, 1) := by decide +kernel
theorem dX5_takeDeeds_16 : decode cX5_takeDeeds 16 = .ok (.ireturn, 1) := by decide +kernel
theorem dX5_takeDeeds_7 : decode cX5_takeDeeds 7 = .ok (.aload_n 0, 1) := by decide +kernel
theorem dX5_takeDeeds_8 : decode cX5_takeDeeds 8 = .ok (.aload_n 1, 1) := by decide +kernel
set_option maxRecDepth 20000 in
theorem ggX5_takeDeeds_X5_isWord : GoodIn wsX5_takeDeeds wsX5_isWord := goodIn_r _ [7, 2, 8, 9, 10, 11, 12, 13, 14, 15, 16, 17, 18, 19, 20, 21, 22, 23, 24, 25, 26, 27, 28, 29, 30, 31, 32, 33, 34, 35, 36, 37, 38, 39, 40, 41, 42, 43, 44, 45, 46, 47, 48, 49, 50, 51, 52, 53, 54, 55, 56, 57, 58, 59, 60, 61, 62, 63, 64, 65, 66, 96, 97, 98, 99, 100, 101, 102, 103, 104, 105] (by rfl) (by decide +kernel)
set_option maxRecDepth 20000 in
theorem gX5_takeDeeds_X5_isWord : GoodIn wsX5_takeDeeds (wsV RX5 49 RX5 yX5_isWord wsX5_isWord) := goodIn_app (goodIn_r _ [3, 4, 5, 6] (by rfl) (by decide +kernel)) ggX5_takeDeeds_X5_isWord
theorem dX5_takeDeeds_9 : decode cX5_takeDeeds 9 = .ok (.invokevirtual 49, 3) := by decide +kernel
theorem dX5_takeDeeds_12 : decode cX5_takeDeeds 12 = .ok (.ifCond .ne 5, 3) := by decide +kernel
theorem dX5_takeDeeds_17 : decode cX5_takeDeeds 17 = .ok (.aload_n 0, 1) := by decide +kernel
set_option maxRecDepth 20000 in
theorem ggX5_takeDeeds_X5_step : GoodIn wsX5_takeDeeds wsX5_step := goodIn_r _ [70, 8, 9, 10, 71, 72, 2, 73, 74, 75, 76, 77, 23, 24, 25, 26, 27, 28, 29, 78, 79, 6, 80, 81, 82, 83, 84, 85, 86, 96, 97, 98, 99, 100, 101, 102, 103, 104, 105] (by rfl) (by decide +kernel)
set_option maxRecDepth 20000 in
theorem gX5_takeDeeds_X5_step : GoodIn wsX5_takeDeeds (wsV RX5 35 RX5 yX5_step wsX5_step) := goodIn_app (goodIn_r _ [67, 68, 69, 6] (by rfl) (by decide +kernel)) ggX5_takeDeeds_X5_step
theorem dX5_takeDeeds_18 : decode cX5_takeDeeds 18 = .ok (.invokevirtual 35, 3) := by decide +kernel
theorem dX5_takeDeeds_21 : decode cX5_takeDeeds 21 = .ok (.iconst 1, 1) := by decide +kernel
theorem dX5_takeDeeds_22 : decode cX5_takeDeeds 22 = .ok (.aload_n 0, 1) := by decide +kernel
theorem dX5_takeDeeds_23 : decode cX5_takeDeeds 23 = .ok (.iconst 0, 1) := by decide +kernel
theorem dX5_takeDeeds_24 : decode cX5_takeDeeds 24 = .ok (.iconst 5, 1) := by decide +kernel
set_option maxRecDepth 20000 in
theorem ggX5_takeDeeds_X5_takeNumber : GoodIn wsX5_takeDeeds wsX5_takeNumber := goodIn_r _ [90, 1, 2, 72, 91, 92, 93, 6, 94, 9, 95, 67, 68, 69, 70, 8, 10, 71, 73, 74, 75, 76, 77, 23, 24, 25, 26, 27, 28, 29, 78, 79, 80, 81, 82, 83, 84, 85, 86, 96, 97, 98, 99, 100, 101, 102, 103, 104, 105] (by rfl) (by decide +kernel)
set_option maxRecDepth 20000 in
theorem gX5_takeDeeds_X5_takeNumber : GoodIn wsX5_takeDeeds (wsV RX5 76 RX5 yX5_takeNumber wsX5_takeNumber) := goodIn_app (goodIn_r _ [87, 88, 89, 6] (by rfl) (by decide +kernel)) ggX5_takeDeeds_X5_takeNumber
theorem dX5_takeDeeds_25 : decode cX5_takeDeeds 25 = .ok (.invokevirtual 76, 3) := by decide +kernel
theorem dX5_takeDeeds_28 : decode cX5_takeDeeds 28 = .ok (.ishl, 1) := by decide +kernel
theorem dX5_takeDeeds_29 : decode cX5_takeDeeds 29 = .ok (.istore_n 2, 1) := by decide +kernel
theorem dX5_takeDeeds_30 : decode cX5_takeDeeds 30 = .ok (.iconst 0, 1) := by decide +kernel
theorem dX5_takeDeeds_31 : decode cX5_takeDeeds 31 = .ok (.istore_n 3, 1) := by decide +kernel
theorem dX5_takeDeeds_32 : decode cX5_takeDeeds 32 = .ok (.iload_n 3, 1) := by decide +kernel
theorem dX5_takeDeeds_33 : decode cX5_takeDeeds 33 = .ok (.sipush 900, 3) := by decide +kernel
theorem dX5_takeDeeds_36 : decode cX5_takeDeeds 36 = .ok (.if_icmp .ge 35, 3) := by decide +kernel
theorem dX5_takeDeeds_71 : decode cX5_takeDeeds 71 = .ok (.iload_n 2, 1) := by decide +kernel
theorem dX5_takeDeeds_72 : decode cX5_takeDeeds 72 = .ok (.ireturn, 1) := by decide +kernel
theorem dX5_takeDeeds_39 : decode cX5_takeDeeds 39 = .ok (.aload_n 0, 1) := by decide +kernel
theorem dX5_takeDeeds_40 : decode cX5_takeDeeds 40 = .ok (.getfield 29, 3) := by decide +kernel
theorem dX5_takeDeeds_43 : decode cX5_takeDeeds 43 = .ok (.ifCond .ne 28, 3) := by decide +kernel
theorem dX5_takeDeeds_46 : decode cX5_takeDeeds 46 = .ok (.aload_n 0, 1) := by decide +kernel
theorem dX5_takeDeeds_47 : decode cX5_takeDeeds 47 = .ok (.getfield 38, 3) := by decide +kernel
theorem dX5_takeDeeds_50 : decode cX5_takeDeeds 50 = .ok (.iconst 2, 1) := by decide +kernel
theorem dX5_takeDeeds_51 : decode cX5_takeDeeds 51 = .ok (.if_icmp .ne 20, 3) := by decide +kernel
theorem dX5_takeDeeds_54 : decode cX5_takeDeeds 54 = .ok (.iload_n 2, 1) := by decide +kernel
theorem dX5_takeDeeds_55 : decode cX5_takeDeeds 55 = .ok (.iconst 1, 1) := by decide +kernel
theorem dX5_takeDeeds_56 : decode cX5_takeDeeds 56 = .ok (.aload_n 0, 1) := by decide +kernel
theorem dX5_takeDeeds_57 : decode cX5_takeDeeds 57 = .ok (.iconst 0, 1) := by decide +kernel
theorem dX5_takeDeeds_58 : decode cX5_takeDeeds 58 = .ok (.iconst 5, 1) := by decide +kernel
theorem dX5_takeDeeds_59 : decode cX5_takeDeeds 59 = .ok (.invokevirtual 76, 3) := by decide +kernel
theorem dX5_takeDeeds_62 : decode cX5_takeDeeds 62 = .ok (.ishl, 1) := by decide +kernel
theorem dX5_takeDeeds_63 : decode cX5_takeDeeds 63 = .ok (.ior, 1) := by decide +kernel
theorem dX5_takeDeeds_64 : decode cX5_takeDeeds 64 = .ok (.istore_n 2, 1) := by decide +kernel
theorem dX5_takeDeeds_65 : decode cX5_takeDeeds 65 = .ok (.iinc 3 1, 3) := by decide +kernel
theorem dX5_takeDeeds_68 : decode cX5_takeDeeds 68 = .ok (.goto (-36), 3) := by decide +kernel
theorem dX5_readCityLine_0 : decode cX5_readCityLine 0 = .ok (.aload_n 0, 1) := by decide +kernel
theorem dX5_readCityLine_1 : decode cX5_readCityLine 1 = .ok (.ldc 68, 2) := by decide +kernel
set_option maxRecDepth 20000 in
theorem ggX5_readCityLine_X5_takeWord : GoodIn wsX5_readCityLine wsX5_takeWord := goodIn_r _ [7, 8, 9, 10, 11, 6, 12, 13, 14, 15, 16, 17, 18, 19, 20, 21, 22, 23, 24, 25, 26, 27, 28, 29, 30, 31, 32, 33, 34, 35, 36, 37, 38, 39, 40, 41, 42, 43, 44, 45, 46, 47, 48, 49, 50, 51, 52, 53, 54, 55, 56, 57, 58, 59, 60, 61, 62, 63, 64, 65, 66, 67, 68, 69, 70, 71, 72, 73, 74, 75, 76, 77, 78, 79, 80, 81, 82, 83, 84, 85, 86, 87, 88, 89, 90, 91, 92, 93, 94, 95, 96, 97, 102, 103, 104, 105, 106, 107, 108, 109, 117, 118] (by rfl) (by decide +kernel)
set_option maxRecDepth 20000 in
theorem gX5_readCityLine_X5_takeWord : GoodIn wsX5_readCityLine (wsV RX5 70 RX5 yX5_takeWord wsX5_takeWord) := goodIn_app (goodIn_r _ [3, 4, 5, 6] (by rfl) (by decide +kernel)) ggX5_readCityLine_X5_takeWord
theorem dX5_readCityLine_3 : decode cX5_readCityLine 3 = .ok (.invokevirtual 70, 3) := by decide +kernel
theorem dX5_readCityLine_6 : decode cX5_readCityLine 6 = .ok (.aload_n 0, 1) := by decide +kernel
theorem dX5_readCityLine_7 : decode cX5_readCityLine 7 = .ok (.ldc 74, 2) := by decide +kernel
theorem dX5_readCityLine_9 : decode cX5_readCityLine 9 = .ok (.invokevirtual 70, 3) := by decide +kernel
theorem dX5_readCityLine_12 : decode cX5_readCityLine 12 = .ok (.aload_n 0, 1) := by decide +kernel
theorem dX5_readCityLine_13 : decode cX5_readCityLine 13 = .ok (.getfield 12, 3) := by decide +kernel
theorem dX5_readCityLine_16 : decode cX5_readCityLine 16 = .ok (.aload_n 0, 1) := by decide +kernel
theorem dX5_readCityLine_17 : decode cX5_readCityLine 17 = .ok (.iconst 1, 1) := by decide +kernel
theorem dX5_readCityLine_18 : decode cX5_readCityLine 18 = .ok (.bipush 9, 2) := by decide +kernel
set_option maxRecDepth 20000 in
theorem ggX5_readCityLine_X5_takeNumber : GoodIn wsX5_readCityLine wsX5_takeNumber := goodIn_r _ [101, 8, 13, 78, 93, 94, 95, 6, 96, 15, 97, 73, 74, 75, 76, 14, 16, 77, 79, 80, 81, 82, 83, 29, 30, 31, 32, 33, 34, 35, 84, 85, 86, 87, 88, 89, 90, 91, 92, 102, 103, 104, 105, 106, 107, 108, 109, 117, 118] (by rfl) (by decide +kernel)
set_option maxRecDepth 20000 in
theorem gX5_readCityLine_X5_takeNumber : GoodIn wsX5_readCityLine (wsV RX5 76 RX5 yX5_takeNumber wsX5_takeNumber) := goodIn_app (goodIn_r _ [98, 99, 100, 6] (by rfl) (by decide +kernel)) ggX5_readCityLine_X5_takeNumber
theorem dX5_readCityLine_20 : decode cX5_readCityLine 20 = .ok (.invokevirtual 76, 3) := by decide +kernel
theorem dX5_readCityLine_23 : decode cX5_readCityLine 23 = .ok (.putfield 80, 3) := by decide +kernel
theorem dX5_readCityLine_26 : decode cX5_readCityLine 26 = .ok (.return_, 1) := by decide +kernel
theorem dX5_readCardLine_0 : decode cX5_readCardLine 0 = .ok (.aload_n 0, 1) := by decide +kernel
theorem dX5_readCardLine_1 : decode cX5_readCardLine 1 = .ok (.ldc 56, 2) := by decide +kernel
set_option maxRecDepth 20000 in
theorem ggX5_readCardLine_X5_takeWord : GoodIn wsX5_readCardLine wsX5_takeWord := goodIn_r _ [12, 1, 13, 14, 15, 11, 16, 2, 17, 18, 19, 20, 21, 22, 23, 24, 25, 26, 27, 28, 29, 30, 31, 32, 33, 34, 35, 36, 37, 38, 39, 40, 41, 42, 43, 44, 45, 46, 47, 48, 49, 50, 51, 52, 53, 54, 55, 56, 57, 58, 59, 60, 61, 62, 63, 64, 65, 66, 67, 68, 69, 70, 71, 72, 73, 74, 75, 76, 77, 78, 79, 80, 5, 81, 82, 83, 84, 85, 86, 87, 88, 89, 90, 91, 92, 93, 94, 95, 96, 97, 98, 99, 120, 121, 122, 123, 124, 125, 126, 127, 137, 138] (by rfl) (by decide +kernel)
set_option maxRecDepth 20000 in
theorem gX5_readCardLine_X5_takeWord : GoodIn wsX5_readCardLine (wsV RX5 70 RX5 yX5_takeWord wsX5_takeWord) := goodIn_app (goodIn_r _ [8, 9, 10, 11] (by rfl) (by decide +kernel)) ggX5_readCardLine_X5_takeWord
theorem dX5_readCardLine_3 : decode cX5_readCardLine 3 = .ok (.invokevirtual 70, 3) := by decide +kernel
theorem dX5_readCardLine_6 : decode cX5_readCardLine 6 = .ok (.aload_n 0, 1) := by decide +kernel
theorem dX5_readCardLine_7 : decode cX5_readCardLine 7 = .ok (.getfield 29, 3) := by decide +kernel
theorem dX5_readCardLine_44 : decode cX5_readCardLine 44 = .ok (.aload_n 0, 1) := by decide +kernel
theorem dX5_readCardLine_45 : decode cX5_readCardLine 45 = .ok (.getfield 12, 3) := by decide +kernel
theorem dX5_readCardLine_48 : decode cX5_readCardLine 48 = .ok (.getfield 82, 3) := by decide +kernel
theorem dX5_readCardLine_51 : decode cX5_readCardLine 51 = .ok (.getfield 86, 3) := by decide +kernel
theorem dX5_readCardLine_54 : decode cX5_readCardLine 54 = .ok (.iconst 1, 1) := by decide +kernel
theorem dX5_readCardLine_55 : decode cX5_readCardLine 55 = .ok (.isub, 1) := by decide +kernel
theorem dX5_readCardLine_56 : decode cX5_readCardLine 56 = .ok (.istore_n 1, 1) := by decide +kernel
theorem dX5_readCardLine_57 : decode cX5_readCardLine 57 = .ok (.aload_n 0, 1) := by decide +kernel
theorem dX5_readCardLine_58 : decode cX5_readCardLine 58 = .ok (.iconst 0, 1) := by decide +kernel
theorem dX5_readCardLine_59 : decode cX5_readCardLine 59 = .ok (.iload_n 1, 1) := by decide +kernel
set_option maxRecDepth 20000 in
theorem ggX5_readCardLine_X5_takeNumber : GoodIn wsX5_readCardLine wsX5_takeNumber := goodIn_r _ [114, 1, 2, 5, 95, 96, 97, 11, 98, 18, 99, 76, 77, 78, 79, 17, 19, 80, 81, 82, 83, 84, 85, 32, 33, 34, 35, 36, 37, 38, 86, 87, 88, 89, 90, 91, 92, 93, 94, 120, 121, 122, 123, 124, 125, 126, 127, 137, 138] (by rfl) (by decide +kernel)
set_option maxRecDepth 20000 in
theorem gX5_readCardLine_X5_takeNumber : GoodIn wsX5_readCardLine (wsV RX5 76 RX5 yX5_takeNumber wsX5_takeNumber) := goodIn_app (goodIn_r _ [111, 112, 113, 11] (by rfl) (by decide +kernel)) ggX5_readCardLine_X5_takeNumber
theorem dX5_readCardLine_60 : decode cX5_readCardLine 60 = .ok (.invokevirtual 76, 3) := by decide +kernel
theorem dX5_readCardLine_63 : decode cX5_readCardLine 63 = .ok (.istore_n 2, 1) := by decide +kernel
theorem dX5_readCardLine_64 : decode cX5_readCardLine 64 = .ok (.aload_n 0, 1) := by decide +kernel
theorem dX5_readCardLine_65 : decode cX5_readCardLine 65 = .ok (.ldc 112, 2) := by decide +kernel
theorem dX5_readCardLine_67 : decode cX5_readCardLine 67 = .ok (.invokevirtual 70, 3) := by decide +kernel
theorem dX5_readCardLine_70 : decode cX5_readCardLine 70 = .ok (.aload_n 0, 1) := by decide +kernel
theorem dX5_readCardLine_71 : decode cX5_readCardLine 71 = .ok (.iconst 0, 1) := by decide +kernel
theorem dX5_readCardLine_72 : decode cX5_readCardLine 72 = .ok (.iload_n 1, 1) := by decide +kernel
theorem dX5_readCardLine_73 : decode cX5_readCardLine 73 = .ok (.invokevirtual 76, 3) := by decide +kernel
theorem dX5_readCardLine_76 : decode cX5_readCardLine 76 = .ok (.istore_n 3, 1) := by decide +kernel
theorem dX5_readCardLine_77 : decode cX5_readCardLine 77 = .ok (.aload_n 0, 1) := by decide +kernel
theorem dX5_readCardLine_78 : decode cX5_readCardLine 78 = .ok (.getfield 29, 3) := by decide +kernel
theorem dX5_readCardLine_81 : decode cX5_readCardLine 81 = .ok (.ifCond .ne 17, 3) := by decide +kernel
theorem dX5_readCardLine_98 : decode cX5_readCardLine 98 = .ok (.return_, 1) := by decide +kernel
theorem dX5_readCardLine_84 : decode cX5_readCardLine 84 = .ok (.aload_n 0, 1) := by decide +kernel
theorem dX5_readCardLine_85 : decode cX5_readCardLine 85 = .ok (.getfield 12, 3) := by decide +kernel
theorem dX5_readCardLine_88 : decode cX5_readCardLine 88 = .ok (.getfield 82, 3) := by decide +kernel
theorem dX5_readCardLine_91 : decode cX5_readCardLine 91 = .ok (.iload_n 2, 1) := by decide +kernel
set_option maxRecDepth 20000 in
theorem ggX5_readCardLine_X0_has : GoodIn wsX5_readCardLine wsX0_has := goodIn_r _ [109, 110, 135, 136] (by rfl) (by decide +kernel)
set_option maxRecDepth 20000 in
theorem gX5_readCardLine_X0_has : GoodIn wsX5_readCardLine (wsV RX5 114 RX0 yX0_has wsX0_has) := goodIn_app (goodIn_r _ [115, 107, 108, 103] (by rfl) (by decide +kernel)) ggX5_readCardLine_X0_has
theorem dX5_readCardLine_92 : decode cX5_readCardLine 92 = .ok (.invokevirtual 114, 3) := by decide +kernel
theorem dX5_readCardLine_95 : decode cX5_readCardLine 95 = .ok (.ifCond .ne 4, 3) := by decide +kernel
theorem dX5_readCardLine_99 : decode cX5_readCardLine 99 = .ok (.aload_n 0, 1) := by decide +kernel
theorem dX5_readCardLine_100 : decode cX5_readCardLine 100 = .ok (.getfield 12, 3) := by decide +kernel
theorem dX5_readCardLine_103 : decode cX5_readCardLine 103 = .ok (.getfield 82, 3) := by decide +kernel
theorem dX5_readCardLine_106 : decode cX5_readCardLine 106 = .ok (.iload_n 2, 1) := by decide +kernel
theorem dX5_readCardLine_107 : decode cX5_readCardLine 107 = .ok (.iload_n 3, 1) := by decide +kernel
set_option maxRecDepth 20000 in
theorem ggX5_readCardLine_X0_put : GoodIn wsX5_readCardLine wsX0_put := goodIn_r _ [119, 105, 106, 107, 108, 103, 109, 110, 135, 136] (by rfl) (by decide +kernel)
set_option maxRecDepth 20000 in
theorem gX5_readCardLine_X0_put : GoodIn wsX5_readCardLine (wsV RX5 118 RX0 yX0_put wsX0_put) := goodIn_app (goodIn_r _ [116, 117, 118, 103] (by rfl) (by decide +kernel)) ggX5_readCardLine_X0_put
theorem dX5_readCardLine_108 : decode cX5_readCardLine 108 = .ok (.invokevirtual 118, 3) := by decide +kernel
theorem dX5_readCardLine_111 : decode cX5_readCardLine 111 = .ok (.aload_n 0, 1) := by decide +kernel
theorem dX5_readCardLine_112 : decode cX5_readCardLine 112 = .ok (.ldc 122, 2) := by decide +kernel
set_option maxRecDepth 20000 in
theorem ggX5_readCardLine_X5_isWord : GoodIn wsX5_readCardLine wsX5_isWord := goodIn_r _ [16, 2, 17, 18, 19, 20, 21, 22, 23, 24, 25, 26, 27, 28, 29, 30, 31, 32, 33, 34, 35, 36, 37, 38, 39, 40, 41, 42, 43, 44, 45, 46, 47, 48, 49, 50, 51, 52, 53, 54, 55, 56, 57, 58, 59, 60, 61, 62, 63, 64, 65, 66, 67, 68, 69, 70, 71, 72, 73, 74, 75, 120, 121, 122, 123, 124, 125, 126, 127, 137, 138] (by rfl) (by decide +kernel)
set_option maxRecDepth 20000 in
theorem gX5_readCardLine_X5_isWord : GoodIn wsX5_readCardLine (wsV RX5 49 RX5 yX5_isWord wsX5_isWord) := goodIn_app (goodIn_r _ [13, 14, 15, 11] (by rfl) (by decide +kernel)) ggX5_readCardLine_X5_isWord
theorem dX5_readCardLine_114 : decode cX5_readCardLine 114 = .ok (.invokevirtual 49, 3) := by decide +kernel
theorem dX5_readCardLine_117 : decode cX5_readCardLine 117 = .ok (.ifCond .eq 17, 3) := by decide +kernel
theorem dX5_readCardLine_134 : decode cX5_readCardLine 134 = .ok (.return_, 1) := by decide +kernel
theorem dX5_readCardLine_120 : decode cX5_readCardLine 120 = .ok (.aload_n 0, 1) := by decide +kernel
set_option maxRecDepth 20000 in
theorem ggX5_readCardLine_X5_step : GoodIn wsX5_readCardLine wsX5_step := goodIn_r _ [79, 17, 18, 19, 80, 5, 2, 81, 82, 83, 84, 85, 32, 33, 34, 35, 36, 37, 38, 86, 87, 11, 88, 89, 90, 91, 92, 93, 94, 120, 121, 122, 123, 124, 125, 126, 127, 137, 138] (by rfl) (by decide +kernel)
set_option maxRecDepth 20000 in
theorem gX5_readCardLine_X5_step : GoodIn wsX5_readCardLine (wsV RX5 35 RX5 yX5_step wsX5_step) := goodIn_app (goodIn_r _ [76, 77, 78, 11] (by rfl) (by decide +kernel)) ggX5_readCardLine_X5_step
theorem dX5_readCardLine_121 : decode cX5_readCardLine 121 = .ok (.invokevirtual 35, 3) := by decide +kernel
theorem dX5_readCardLine_124 : decode cX5_readCardLine 124 = .ok (.aload_n 0, 1) := by decide +kernel
theorem dX5_readCardLine_125 : decode cX5_readCardLine 125 = .ok (.getfield 12, 3) := by decide +kernel
theorem dX5_readCardLine_128 : decode cX5_readCardLine 128 = .ok (.getfield 124, 3) := by decide +kernel
theorem dX5_readCardLine_131 : decode cX5_readCardLine 131 = .ok (.iload_n 2, 1) := by decide +kernel
theorem dX5_readCardLine_132 : decode cX5_readCardLine 132 = .ok (.iconst 1, 1) := by decide +kernel
theorem dX5_readCardLine_133 : decode cX5_readCardLine 133 = .ok (.iastore, 1) := by decide +kernel
theorem dX5_readCardLine_10 : decode cX5_readCardLine 10 = .ok (.ifCond .ne 34, 3) := by decide +kernel
theorem dX5_readCardLine_13 : decode cX5_readCardLine 13 = .ok (.aload_n 0, 1) := by decide +kernel
theorem dX5_readCardLine_14 : decode cX5_readCardLine 14 = .ok (.getfield 38, 3) := by decide +kernel
theorem dX5_readCardLine_17 : decode cX5_readCardLine 17 = .ok (.iconst 2, 1) := by decide +kernel
theorem dX5_readCardLine_18 : decode cX5_readCardLine 18 = .ok (.if_icmp .ne 26, 3) := by decide +kernel
theorem dX5_readCardLine_21 : decode cX5_readCardLine 21 = .ok (.aload_n 0, 1) := by decide +kernel
theorem dX5_readCardLine_22 : decode cX5_readCardLine 22 = .ok (.getfield 12, 3) := by decide +kernel
theorem dX5_readCardLine_25 : decode cX5_readCardLine 25 = .ok (.getfield 82, 3) := by decide +kernel
theorem dX5_readCardLine_28 : decode cX5_readCardLine 28 = .ok (.aload_n 0, 1) := by decide +kernel
theorem dX5_readCardLine_29 : decode cX5_readCardLine 29 = .ok (.getfield 105, 3) := by decide +kernel
set_option maxRecDepth 20000 in
theorem ggX5_readCardLine_X0_holderOf : GoodIn wsX5_readCardLine wsX0_holderOf := goodIn_r _ [104, 105, 106, 107, 108, 103, 109, 110, 135, 136] (by rfl) (by decide +kernel)
set_option maxRecDepth 20000 in
theorem gX5_readCardLine_X0_holderOf : GoodIn wsX5_readCardLine (wsV RX5 108 RX0 yX0_holderOf wsX0_holderOf) := goodIn_app (goodIn_r _ [100, 101, 102, 103] (by rfl) (by decide +kernel)) ggX5_readCardLine_X0_holderOf
theorem dX5_readCardLine_32 : decode cX5_readCardLine 32 = .ok (.invokevirtual 108, 3) := by decide +kernel
theorem dX5_readCardLine_35 : decode cX5_readCardLine 35 = .ok (.iconst (-1), 1) := by decide +kernel
theorem dX5_readCardLine_36 : decode cX5_readCardLine 36 = .ok (.if_icmp .eq 8, 3) := by decide +kernel
theorem dX5_readCardLine_39 : decode cX5_readCardLine 39 = .ok (.aload_n 0, 1) := by decide +kernel
theorem dX5_readCardLine_40 : decode cX5_readCardLine 40 = .ok (.iconst 2, 1) := by decide +kernel
set_option maxRecDepth 20000 in
theorem ggX5_readCardLine_X5_fail : GoodIn wsX5_readCardLine wsX5_fail := goodIn_r _ [98, 1, 18, 99, 120, 121, 122, 123, 124, 125, 126, 127] (by rfl) (by decide +kernel)
set_option maxRecDepth 20000 in
theorem gX5_readCardLine_X5_fail : GoodIn wsX5_readCardLine (wsV RX5 61 RX5 yX5_fail wsX5_fail) := goodIn_app (goodIn_r _ [95, 96, 97, 11] (by rfl) (by decide +kernel)) ggX5_readCardLine_X5_fail
theorem dX5_readCardLine_41 : decode cX5_readCardLine 41 = .ok (.invokevirtual 61, 3) := by decide +kernel
theorem dX5_readPersonLine_0 : decode cX5_readPersonLine 0 = .ok (.aload_n 0, 1) := by decide +kernel
theorem dX5_readPersonLine_1 : decode cX5_readPersonLine 1 = .ok (.getfield 12, 3) := by decide +kernel
theorem dX5_readPersonLine_4 : decode cX5_readPersonLine 4 = .ok (.getfield 82, 3) := by decide +kernel
theorem dX5_readPersonLine_7 : decode cX5_readPersonLine 7 = .ok (.getfield 86, 3) := by decide +kernel
theorem dX5_readPersonLine_10 : decode cX5_readPersonLine 10 = .ok (.bipush 8, 2) := by decide +kernel
theorem dX5_readPersonLine_12 : decode cX5_readPersonLine 12 = .ok (.if_icmp .lt 9, 3) := by decide +kernel
theorem dX5_readPersonLine_21 : decode cX5_readPersonLine 21 = .ok (.aload_n 0, 1) := by decide +kernel
theorem dX5_readPersonLine_22 : decode cX5_readPersonLine 22 = .ok (.ldc 47, 2) := by decide +kernel
set_option maxRecDepth 20000 in
theorem ggX5_readPersonLine_X5_takeWord : GoodIn wsX5_readPersonLine wsX5_takeWord := goodIn_r _ [15, 9, 16, 17, 18, 7, 19, 20, 21, 10, 22, 23, 24, 25, 26, 27, 28, 29, 30, 31, 32, 33, 34, 35, 36, 37, 38, 39, 40, 41, 42, 43, 44, 45, 46, 47, 48, 49, 50, 51, 52, 53, 54, 55, 56, 57, 58, 59, 60, 61, 62, 63, 64, 65, 66, 67, 68, 69, 70, 71, 72, 73, 74, 75, 76, 77, 78, 79, 80, 81, 82, 83, 84, 85, 86, 87, 88, 89, 90, 91, 92, 93, 94, 95, 96, 97, 98, 4, 5, 6, 8, 11, 129, 130, 131, 132, 133, 134, 135, 136, 146, 147] (by rfl) (by decide +kernel)
set_option maxRecDepth 20000 in
theorem gX5_readPersonLine_X5_takeWord : GoodIn wsX5_readPersonLine (wsV RX5 70 RX5 yX5_takeWord wsX5_takeWord) := goodIn_app (goodIn_r _ [12, 13, 14, 7] (by rfl) (by decide +kernel)) ggX5_readPersonLine_X5_takeWord
theorem dX5_readPersonLine_24 : decode cX5_readPersonLine 24 = .ok (.invokevirtual 70, 3) := by decide +kernel
theorem dX5_readPersonLine_27 : decode cX5_readPersonLine 27 = .ok (.aload_n 0, 1) := by decide +kernel
theorem dX5_readPersonLine_28 : decode cX5_readPersonLine 28 = .ok (.ldc 91, 2) := by decide +kernel
theorem dX5_readPersonLine_30 : decode cX5_readPersonLine 30 = .ok (.invokevirtual 70, 3) := by decide +kernel
theorem dX5_readPersonLine_33 : decode cX5_readPersonLine 33 = .ok (.aload_n 0, 1) := by decide +kernel
theorem dX5_readPersonLine_34 : decode cX5_readPersonLine 34 = .ok (.iconst 1, 1) := by decide +kernel
theorem dX5_readPersonLine_35 : decode cX5_readPersonLine 35 = .ok (.sipush 999, 3) := by decide +kernel
set_option maxRecDepth 20000 in
theorem ggX5_readPersonLine_X5_takeNumber : GoodIn wsX5_readPersonLine wsX5_takeNumber := goodIn_r _ [102, 9, 20, 84, 4, 5, 6, 7, 8, 10, 11, 79, 80, 81, 82, 21, 22, 83, 85, 86, 87, 88, 89, 35, 36, 37, 38, 39, 40, 41, 90, 91, 92, 93, 94, 95, 96, 97, 98, 129, 130, 131, 132, 133, 134, 135, 136, 146, 147] (by rfl) (by decide +kernel)
set_option maxRecDepth 20000 in
theorem gX5_readPersonLine_X5_takeNumber : GoodIn wsX5_readPersonLine (wsV RX5 76 RX5 yX5_takeNumber wsX5_takeNumber) := goodIn_app (goodIn_r _ [99, 100, 101, 7] (by rfl) (by decide +kernel)) ggX5_readPersonLine_X5_takeNumber
theorem dX5_readPersonLine_38 : decode cX5_readPersonLine 38 = .ok (.invokevirtual 76, 3) := by decide +kernel
theorem dX5_readPersonLine_41 : decode cX5_readPersonLine 41 = .ok (.istore_n 1, 1) := by decide +kernel
theorem dX5_readPersonLine_42 : decode cX5_readPersonLine 42 = .ok (.aload_n 0, 1) := by decide +kernel
theorem dX5_readPersonLine_43 : decode cX5_readPersonLine 43 = .ok (.ldc 93, 2) := by decide +kernel
set_option maxRecDepth 20000 in
theorem ggX5_readPersonLine_X5_takeDeeds : GoodIn wsX5_readPersonLine wsX5_takeDeeds := goodIn_r _ [106, 9, 20, 16, 17, 18, 7, 19, 21, 10, 22, 23, 24, 25, 26, 27, 28, 29, 30, 31, 32, 33, 34, 35, 36, 37, 38, 39, 40, 41, 42, 43, 44, 45, 46, 47, 48, 49, 50, 51, 52, 53, 54, 55, 56, 57, 58, 59, 60, 61, 62, 63, 64, 65, 66, 67, 68, 69, 70, 71, 72, 73, 74, 75, 76, 77, 78, 79, 80, 81, 82, 83, 84, 85, 86, 87, 88, 89, 90, 91, 92, 93, 94, 95, 96, 97, 98, 99, 100, 101, 102, 4, 5, 6, 8, 11, 129, 130, 131, 132, 133, 134, 135, 136, 146, 147] (by rfl) (by decide +kernel)
set_option maxRecDepth 20000 in
theorem gX5_readPersonLine_X5_takeDeeds : GoodIn wsX5_readPersonLine (wsV RX5 95 RX5 yX5_takeDeeds wsX5_takeDeeds) := goodIn_app (goodIn_r _ [103, 104, 105, 7] (by rfl) (by decide +kernel)) ggX5_readPersonLine_X5_takeDeeds
theorem dX5_readPersonLine_45 : decode cX5_readPersonLine 45 = .ok (.invokevirtual 95, 3) := by decide +kernel
theorem dX5_readPersonLine_48 : decode cX5_readPersonLine 48 = .ok (.istore_n 2, 1) := by decide +kernel
theorem dX5_readPersonLine_49 : decode cX5_readPersonLine 49 = .ok (.aload_n 0, 1) := by decide +kernel
theorem dX5_readPersonLine_50 : decode cX5_readPersonLine 50 = .ok (.ldc 99, 2) := by decide +kernel
theorem dX5_readPersonLine_52 : decode cX5_readPersonLine 52 = .ok (.invokevirtual 95, 3) := by decide +kernel
theorem dX5_readPersonLine_55 : decode cX5_readPersonLine 55 = .ok (.istore_n 3, 1) := by decide +kernel
theorem dX5_readPersonLine_56 : decode cX5_readPersonLine 56 = .ok (.aload_n 0, 1) := by decide +kernel
theorem dX5_readPersonLine_57 : decode cX5_readPersonLine 57 = .ok (.getfield 12, 3) := by decide +kernel
theorem dX5_readPersonLine_60 : decode cX5_readPersonLine 60 = .ok (.iload_n 1, 1) := by decide +kernel
theorem dX5_readPersonLine_61 : decode cX5_readPersonLine 61 = .ok (.iload_n 2, 1) := by decide +kernel
theorem dX5_readPersonLine_62 : decode cX5_readPersonLine 62 = .ok (.iload_n 3, 1) := by decide +kernel
set_option maxRecDepth 20000 in
theorem ggX5_readPersonLine_X9_addPerson : GoodIn wsX5_readPersonLine wsX9_addPerson := goodIn_r _ [111, 112, 113, 114, 115, 116, 117, 118, 119, 120, 121, 122, 123, 124, 125, 126, 127, 128, 137, 138, 139, 140, 141, 142, 143, 144, 145] (by rfl) (by decide +kernel)
set_option maxRecDepth 20000 in
theorem gX5_readPersonLine_X9_addPerson : GoodIn wsX5_readPersonLine (wsV RX5 101 RX9 yX9_addPerson wsX9_addPerson) := goodIn_app (goodIn_r _ [107, 108, 109, 110] (by rfl) (by decide +kernel)) ggX5_readPersonLine_X9_addPerson
theorem dX5_readPersonLine_63 : decode cX5_readPersonLine 63 = .ok (.invokevirtual 101, 3) := by decide +kernel
theorem dX5_readPersonLine_66 : decode cX5_readPersonLine 66 = .ok (.return_, 1) := by decide +kernel
theorem dX5_readPersonLine_15 : decode cX5_readPersonLine 15 = .ok (.aload_n 0, 1) := by decide +kernel
theorem dX5_readPersonLine_16 : decode cX5_readPersonLine 16 = .ok (.iconst 3, 1) := by decide +kernel
set_option maxRecDepth 20000 in
theorem ggX5_readPersonLine_X5_fail : GoodIn wsX5_readPersonLine wsX5_fail := goodIn_r _ [8, 9, 10, 11, 129, 130, 131, 132, 133, 134, 135, 136] (by rfl) (by decide +kernel)
set_option maxRecDepth 20000 in
theorem gX5_readPersonLine_X5_fail : GoodIn wsX5_readPersonLine (wsV RX5 61 RX5 yX5_fail wsX5_fail) := goodIn_app (goodIn_r _ [4, 5, 6, 7] (by rfl) (by decide +kernel)) ggX5_readPersonLine_X5_fail
theorem dX5_readPersonLine_17 : decode cX5_readPersonLine 17 = .ok (.invokevirtual 61, 3) := by decide +kernel
theorem dX5_readPersonLine_20 : decode cX5_readPersonLine 20 = .ok (.return_, 1) := by decide +kernel
theorem dX5_readTape_0 : decode cX5_readTape 0 = .ok (.aload_n 0, 1) := by decide +kernel
theorem dX5_readTape_1 : decode cX5_readTape 1 = .ok (.getfield 12, 3) := by decide +kernel
set_option maxRecDepth 20000 in
theorem ggX5_readTape_X9_clear : GoodIn wsX5_readTape wsX9_clear := goodIn_r _ [11, 12, 13, 14, 15, 168, 169, 170, 171, 172, 173, 174, 175, 176] (by rfl) (by decide +kernel)
set_option maxRecDepth 20000 in
theorem gX5_readTape_X9_clear : GoodIn wsX5_readTape (wsV RX5 26 RX9 yX9_clear wsX9_clear) := goodIn_app (goodIn_r _ [7, 8, 9, 10] (by rfl) (by decide +kernel)) ggX5_readTape_X9_clear
theorem dX5_readTape_4 : decode cX5_readTape 4 = .ok (.invokevirtual 26, 3) := by decide +kernel
theorem dX5_readTape_7 : decode cX5_readTape 7 = .ok (.aload_n 0, 1) := by decide +kernel
theorem dX5_readTape_8 : decode cX5_readTape 8 = .ok (.iconst 0, 1) := by decide +kernel
theorem dX5_readTape_9 : decode cX5_readTape 9 = .ok (.putfield 29, 3) := by decide +kernel
theorem dX5_readTape_12 : decode cX5_readTape 12 = .ok (.aload_n 0, 1) := by decide +kernel
theorem dX5_readTape_13 : decode cX5_readTape 13 = .ok (.iconst (-1), 1) := by decide +kernel
theorem dX5_readTape_14 : decode cX5_readTape 14 = .ok (.putfield 18, 3) := by decide +kernel
theorem dX5_readTape_17 : decode cX5_readTape 17 = .ok (.aload_n 0, 1) := by decide +kernel
theorem dX5_readTape_18 : decode cX5_readTape 18 = .ok (.iconst 0, 1) := by decide +kernel
theorem dX5_readTape_19 : decode cX5_readTape 19 = .ok (.putfield 32, 3) := by decide +kernel
theorem dX5_readTape_22 : decode cX5_readTape 22 = .ok (.aload_n 0, 1) := by decide +kernel
set_option maxRecDepth 20000 in
theorem ggX5_readTape_X5_step : GoodIn wsX5_readTape wsX5_step := goodIn_r _ [20, 4, 21, 22, 23, 24, 5, 25, 26, 27, 28, 29, 30, 31, 32, 33, 34, 35, 36, 37, 38, 19, 39, 40, 41, 42, 43, 44, 45, 160, 161, 162, 163, 164, 165, 166, 167, 177, 178] (by rfl) (by decide +kernel)
set_option maxRecDepth 20000 in
theorem gX5_readTape_X5_step : GoodIn wsX5_readTape (wsV RX5 35 RX5 yX5_step wsX5_step) := goodIn_app (goodIn_r _ [16, 17, 18, 19] (by rfl) (by decide +kernel)) ggX5_readTape_X5_step
theorem dX5_readTape_23 : decode cX5_readTape 23 = .ok (.invokevirtual 35, 3) := by decide +kernel
theorem dX5_readTape_26 : decode cX5_readTape 26 = .ok (.iconst 0, 1) := by decide +kernel
theorem dX5_readTape_27 : decode cX5_readTape 27 = .ok (.istore_n 1, 1) := by decide +kernel
theorem dX5_readTape_28 : decode cX5_readTape 28 = .ok (.iload_n 1, 1) := by decide +kernel
theorem dX5_readTape_29 : decode cX5_readTape 29 = .ok (.sipush 900, 3) := by decide +kernel
theorem dX5_readTape_113 : decode cX5_readTape 113 = .ok (.aload_n 0, 1) := by decide +kernel
theorem dX5_readTape_114 : decode cX5_readTape 114 = .ok (.getfield 29, 3) := by decide +kernel
theorem dX5_readTape_117 : decode cX5_readTape 117 = .ok (.ifCond .ne 7, 3) := by decide +kernel
theorem dX5_readTape_124 : decode cX5_readTape 124 = .ok (.iconst 0, 1) := by decide +kernel
theorem dX5_readTape_125 : decode cX5_readTape 125 = .ok (.ireturn, 1) := by decide +kernel
theorem dX5_readTape_120 : decode cX5_readTape 120 = .ok (.iconst 1, 1) := by decide +kernel
theorem dX5_readTape_121 : decode cX5_readTape 121 = .ok (.goto 4, 3) := by decide +kernel
theorem dX5_readTape_32 : decode cX5_readTape 32 = .ok (.if_icmp .ge 81, 3) := by decide +kernel
theorem dX5_readTape_35 : decode cX5_readTape 35 = .ok (.aload_n 0, 1) := by decide +kernel
theorem dX5_readTape_36 : decode cX5_readTape 36 = .ok (.getfield 38, 3) := by decide +kernel
theorem dX5_readTape_39 : decode cX5_readTape 39 = .ok (.ifCond .eq 74, 3) := by decide +kernel
theorem dX5_readTape_42 : decode cX5_readTape 42 = .ok (.aload_n 0, 1) := by decide +kernel
theorem dX5_readTape_43 : decode cX5_readTape 43 = .ok (.getfield 29, 3) := by decide +kernel
theorem dX5_readTape_46 : decode cX5_readTape 46 = .ok (.ifCond .ne 67, 3) := by decide +kernel
theorem dX5_readTape_49 : decode cX5_readTape 49 = .ok (.aload_n 0, 1) := by decide +kernel
theorem dX5_readTape_50 : decode cX5_readTape 50 = .ok (.getfield 12, 3) := by decide +kernel
theorem dX5_readTape_53 : decode cX5_readTape 53 = .ok (.getfield 41, 3) := by decide +kernel
theorem dX5_readTape_103 : decode cX5_readTape 103 = .ok (.aload_n 0, 1) := by decide +kernel
set_option maxRecDepth 20000 in
theorem ggX5_readTape_X5_takeSign : GoodIn wsX5_readTape wsX5_takeSign := goodIn_r _ [159, 2, 5, 1, 6, 108, 109, 110, 19, 111, 21, 3, 16, 17, 18, 20, 4, 22, 23, 24, 25, 26, 27, 28, 29, 30, 31, 32, 33, 34, 35, 36, 37, 38, 39, 40, 41, 42, 43, 44, 45, 160, 161, 162, 163, 164, 165, 166, 167, 168, 169, 170, 171, 172, 173, 174, 177, 178] (by rfl) (by decide +kernel)
set_option maxRecDepth 20000 in
theorem gX5_readTape_X5_takeSign : GoodIn wsX5_readTape (wsV RX5 65 RX5 yX5_takeSign wsX5_takeSign) := goodIn_app (goodIn_r _ [156, 157, 158, 19] (by rfl) (by decide +kernel)) ggX5_readTape_X5_takeSign
theorem dX5_readTape_104 : decode cX5_readTape 104 = .ok (.invokevirtual 65, 3) := by decide +kernel
theorem dX5_readTape_107 : decode cX5_readTape 107 = .ok (.iinc 1 1, 3) := by decide +kernel
theorem dX5_readTape_110 : decode cX5_readTape 110 = .ok (.goto (-82), 3) := by decide +kernel
theorem dX5_readTape_56 : decode cX5_readTape 56 = .ok (.ifCond .ne 10, 3) := by decide +kernel
theorem dX5_readTape_66 : decode cX5_readTape 66 = .ok (.aload_n 0, 1) := by decide +kernel
theorem dX5_readTape_67 : decode cX5_readTape 67 = .ok (.ldc 47, 2) := by decide +kernel
set_option maxRecDepth 20000 in
theorem ggX5_readTape_X5_isWord : GoodIn wsX5_readTape wsX5_isWord := goodIn_r _ [58, 5, 4, 21, 22, 59, 60, 61, 62, 63, 64, 65, 66, 67, 68, 69, 70, 30, 31, 32, 33, 34, 35, 36, 71, 72, 73, 74, 75, 76, 77, 78, 79, 80, 81, 82, 83, 84, 85, 86, 87, 88, 89, 90, 91, 92, 93, 94, 95, 96, 97, 98, 99, 100, 101, 102, 103, 104, 105, 106, 107, 160, 161, 162, 163, 164, 165, 166, 167, 177, 178] (by rfl) (by decide +kernel)
set_option maxRecDepth 20000 in
theorem gX5_readTape_X5_isWord : GoodIn wsX5_readTape (wsV RX5 49 RX5 yX5_isWord wsX5_isWord) := goodIn_app (goodIn_r _ [55, 56, 57, 19] (by rfl) (by decide +kernel)) ggX5_readTape_X5_isWord
theorem dX5_readTape_69 : decode cX5_readTape 69 = .ok (.invokevirtual 49, 3) := by decide +kernel
theorem dX5_readTape_72 : decode cX5_readTape 72 = .ok (.ifCond .eq 10, 3) := by decide +kernel
theorem dX5_readTape_82 : decode cX5_readTape 82 = .ok (.aload_n 0, 1) := by decide +kernel
theorem dX5_readTape_83 : decode cX5_readTape 83 = .ok (.ldc 56, 2) := by decide +kernel
theorem dX5_readTape_85 : decode cX5_readTape 85 = .ok (.invokevirtual 49, 3) := by decide +kernel
theorem dX5_readTape_88 : decode cX5_readTape 88 = .ok (.ifCond .eq 10, 3) := by decide +kernel
theorem dX5_readTape_98 : decode cX5_readTape 98 = .ok (.aload_n 0, 1) := by decide +kernel
theorem dX5_readTape_99 : decode cX5_readTape 99 = .ok (.iconst 1, 1) := by decide +kernel
set_option maxRecDepth 20000 in
theorem ggX5_readTape_X5_fail : GoodIn wsX5_readTape wsX5_fail := goodIn_r _ [111, 2, 21, 3, 160, 161, 162, 163, 164, 165, 166, 167] (by rfl) (by decide +kernel)
set_option maxRecDepth 20000 in
theorem gX5_readTape_X5_fail : GoodIn wsX5_readTape (wsV RX5 61 RX5 yX5_fail wsX5_fail) := goodIn_app (goodIn_r _ [108, 109, 110, 19] (by rfl) (by decide +kernel)) ggX5_readTape_X5_fail
theorem dX5_readTape_100 : decode cX5_readTape 100 = .ok (.invokevirtual 61, 3) := by decide +kernel
theorem dX5_readTape_91 : decode cX5_readTape 91 = .ok (.aload_n 0, 1) := by decide +kernel
set_option maxRecDepth 20000 in
theorem ggX5_readTape_X5_readCardLine : GoodIn wsX5_readTape wsX5_readCardLine := goodIn_r _ [148, 2, 5, 1, 120, 24, 121, 149, 51, 52, 53, 19, 54, 55, 56, 57, 58, 4, 21, 22, 59, 60, 61, 62, 63, 64, 65, 66, 67, 68, 69, 70, 30, 31, 32, 33, 34, 35, 36, 71, 72, 73, 74, 75, 76, 77, 78, 79, 80, 81, 82, 83, 84, 85, 86, 87, 88, 89, 90, 91, 92, 93, 94, 95, 96, 97, 98, 99, 100, 101, 102, 103, 104, 105, 106, 107, 16, 17, 18, 20, 23, 25, 26, 27, 28, 29, 37, 38, 39, 40, 41, 42, 43, 44, 45, 108, 109, 110, 111, 3, 150, 151, 152, 137, 153, 139, 140, 141, 142, 143, 144, 112, 113, 114, 115, 154, 155, 135, 136, 138, 160, 161, 162, 163, 164, 165, 166, 167, 168, 169, 170, 171, 172, 173, 174, 175, 176, 177, 178] (by rfl) (by decide +kernel)
set_option maxRecDepth 20000 in
theorem gX5_readTape_X5_readCardLine : GoodIn wsX5_readTape (wsV RX5 58 RX5 yX5_readCardLine wsX5_readCardLine) := goodIn_app (goodIn_r _ [145, 146, 147, 19] (by rfl) (by decide +kernel)) ggX5_readTape_X5_readCardLine
theorem dX5_readTape_92 : decode cX5_readTape 92 = .ok (.invokevirtual 58, 3) := by decide +kernel
theorem dX5_readTape_95 : decode cX5_readTape 95 = .ok (.goto 8, 3) := by decide +kernel
theorem dX5_readTape_75 : decode cX5_readTape 75 = .ok (.aload_n 0, 1) := by decide +kernel
set_option maxRecDepth 20000 in
theorem ggX5_readTape_X5_readPersonLine : GoodIn wsX5_readTape wsX5_readPersonLine := goodIn_r _ [119, 1, 120, 121, 108, 109, 110, 19, 111, 2, 21, 3, 51, 52, 53, 54, 55, 56, 57, 58, 5, 4, 22, 59, 60, 61, 62, 63, 64, 65, 66, 67, 68, 69, 70, 30, 31, 32, 33, 34, 35, 36, 71, 72, 73, 74, 75, 76, 77, 78, 79, 80, 81, 82, 83, 84, 85, 86, 87, 88, 89, 90, 91, 92, 93, 94, 95, 96, 97, 98, 99, 100, 101, 102, 103, 104, 105, 106, 107, 16, 17, 18, 20, 23, 24, 25, 26, 27, 28, 29, 37, 38, 39, 40, 41, 42, 43, 44, 45, 112, 113, 114, 115, 122, 123, 124, 125, 126, 127, 128, 10, 129, 12, 13, 130, 131, 132, 133, 134, 135, 136, 137, 138, 139, 140, 141, 142, 143, 144, 160, 161, 162, 163, 164, 165, 166, 167, 168, 169, 170, 171, 172, 173, 174, 175, 176, 177, 178] (by rfl) (by decide +kernel)
set_option maxRecDepth 20000 in
theorem gX5_readTape_X5_readPersonLine : GoodIn wsX5_readTape (wsV RX5 53 RX5 yX5_readPersonLine wsX5_readPersonLine) := goodIn_app (goodIn_r _ [116, 117, 118, 19] (by rfl) (by decide +kernel)) ggX5_readTape_X5_readPersonLine
theorem dX5_readTape_76 : decode cX5_readTape 76 = .ok (.invokevirtual 53, 3) := by decide +kernel
theorem dX5_readTape_79 : decode cX5_readTape 79 = .ok (.goto 24, 3) := by decide +kernel
theorem dX5_readTape_59 : decode cX5_readTape 59 = .ok (.aload_n 0, 1) := by decide +kernel
set_option maxRecDepth 20000 in
theorem ggX5_readTape_X5_readCityLine : GoodIn wsX5_readTape wsX5_readCityLine := goodIn_r _ [49, 1, 50, 51, 52, 53, 19, 54, 2, 55, 56, 57, 58, 5, 4, 21, 22, 59, 60, 61, 62, 63, 64, 65, 66, 67, 68, 69, 70, 30, 31, 32, 33, 34, 35, 36, 71, 72, 73, 74, 75, 76, 77, 78, 79, 80, 81, 82, 83, 84, 85, 86, 87, 88, 89, 90, 91, 92, 93, 94, 95, 96, 97, 98, 99, 100, 101, 102, 103, 104, 105, 106, 107, 16, 17, 18, 20, 23, 24, 25, 26, 27, 28, 29, 37, 38, 39, 40, 41, 42, 43, 44, 45, 108, 109, 110, 111, 3, 112, 113, 114, 115, 160, 161, 162, 163, 164, 165, 166, 167, 168, 169, 170, 171, 172, 173, 174, 177, 178] (by rfl) (by decide +kernel)
set_option maxRecDepth 20000 in
theorem gX5_readTape_X5_readCityLine : GoodIn wsX5_readTape (wsV RX5 44 RX5 yX5_readCityLine wsX5_readCityLine) := goodIn_app (goodIn_r _ [46, 47, 48, 19] (by rfl) (by decide +kernel)) ggX5_readTape_X5_readCityLine
theorem dX5_readTape_60 : decode cX5_readTape 60 = .ok (.invokevirtual 44, 3) := by decide +kernel
theorem dX5_readTape_63 : decode cX5_readTape 63 = .ok (.goto 40, 3) := by decide +kernel
set_option maxHeartbeats 4000000 in
set_option maxRecDepth 100000 in
theorem a_X5_isBlank (l : Launch) (G : va_G) (ct : Nat → ClassId) (p0 : Int32)  : Met l yX5_isBlank wsX5_isBlank ({ frames := 0, cells := 0, slots := 0, locals := 0 }) (va_Pc [.int p0] (roP G ct [])) (roQ (fun r => rg 0 1 r ∧ True)) 0 0 no := by
  refine Met.ofW (cc := cX5_isBlank) (maxL := 1) (ret := (some .boolean)) (by decide) rfl ?_
  intro p e s m args below meth c s₁ B hml hv
  obtain ⟨rfl, hP, hK⟩ := hv
  have hx := B.exec
  have hb := B.bytes
  have hr := B.returns
  have hts := atoms_spec (ws := wsX5_isBlank) B.pre
  have hown : s.vm.findClass RX5 = some m.cls := findClass_of_methodNamed B.named
  have hlocks := B.notSynchronized
  have hS : va_S no s.heap s.heap [] := va_S.rf
  have hl := lv_entry ([.int p0]) (n := 1) (Nat.le_of_ble_eq_true rfl)
  rw [lg_entry_eq]
  generalize (lg_sl ([.int p0]) ++ List.replicate (1 - (lg_sl ([.int p0])).length) Slot.unset).toArray = ls at hl ⊢
  have hl : lv_has ls 1 [(0, .int p0)] := hl
  refine lv_iload_n hx hb dX5_isBlank_0 rfl (lv_at hl 0 rfl) ?_
  refine lv_bipush (v := 32) hx hb dX5_isBlank_1 (by decide) ?_
  have j12 : ∀ (H : Heap) (locs : List Loc) (ls : Array Slot), va_P G vwCl [] H → va_S no s.heap H locs → lv_has ls 1 [(0, .int p0)] → W p l e (headSpec wsX5_isBlank ({ frames := 0, cells := 0, slots := 0, locals := 0 })).room s m ([.int p0] : List Value).toArray below meth c H locs 0 0 (MQ below (roQ (fun r => rg 0 1 r ∧ True)) ([.int p0] : List Value).toArray s 0 0 no) (F0 m 12 ls []) := by
    intro  H locs ls  hP hS hl
    refine lv_iconst (v := 1) hx hb dX5_isBlank_12 (by decide) ?_
    refine lv_goto (tgt := 17) hx hb dX5_isBlank_13 (by decide) ?_
    exact W.zret (v := 1) (ty := .boolean) hx hb hr (rfl) (fun t ht hW => ⟨⟨1, (), rfl, ⟨(rg_w (c := 0) (d := 1) (rgn 1 (x := 1) (by decide)) (by decide)), trivial⟩, trivial⟩, hS.F ht⟩) hS.2.2 dX5_isBlank_17
  refine lv_icmp_eq (tgt := 12) hx hb dX5_isBlank_3 (by decide) (fun c3 => ?_) (fun c3 => ?_)
  · have h_1 : rg 32 32 p0 := r_eq_l_i (e := 32) (f := 32) c3 (rg_t p0) (rgn 32 (x := 32) (by decide)) (by decide)
    exact j12 _ _ ls hP hS (lv_sub hl [0] rfl)
  · refine lv_iload_n hx hb dX5_isBlank_6 rfl (lv_at hl 0 rfl) ?_
    refine lv_bipush (v := 10) hx hb dX5_isBlank_7 (by decide) ?_
    refine lv_icmp_ne (tgt := 16) hx hb dX5_isBlank_9 (by decide) (fun c9 => ?_) (fun c9 => ?_)
    · refine lv_iconst (v := 0) hx hb dX5_isBlank_16 (by decide) ?_
      exact W.zret (v := 0) (ty := .boolean) hx hb hr (rfl) (fun t ht hW => ⟨⟨0, (), rfl, ⟨(rg_w (c := 0) (d := 1) (rgn 0 (x := 0) (by decide)) (by decide)), trivial⟩, trivial⟩, hS.F ht⟩) hS.2.2 dX5_isBlank_17
    · have h_2 : rg 10 10 p0 := r_eq_l_i (e := 10) (f := 10) c9 (rg_t p0) (rgn 10 (x := 10) (by decide)) (by decide)
      exact j12 _ _ ls hP hS (lv_sub hl [0] rfl)

set_option maxHeartbeats 4000000 in
set_option maxRecDepth 100000 in
theorem a_X5_isLetter (l : Launch) (G : va_G) (ct : Nat → ClassId) (p0 : Int32)  : Met l yX5_isLetter wsX5_isLetter ({ frames := 0, cells := 0, slots := 0, locals := 0 }) (va_Pc [.int p0] (roP G ct [])) (roQ (fun r => rg 0 1 r ∧ (¬ r = 0 → rg 97 122 p0) ∧ True)) 0 0 no := by
  refine Met.ofW (cc := cX5_isLetter) (maxL := 1) (ret := (some .boolean)) (by decide) rfl ?_
  intro p e s m args below meth c s₁ B hml hv
  obtain ⟨rfl, hP, hK⟩ := hv
  have hx := B.exec
  have hb := B.bytes
  have hr := B.returns
  have hts := atoms_spec (ws := wsX5_isLetter) B.pre
  have hown : s.vm.findClass RX5 = some m.cls := findClass_of_methodNamed B.named
  have hlocks := B.notSynchronized
  have hS : va_S no s.heap s.heap [] := va_S.rf
  have hl := lv_entry ([.int p0]) (n := 1) (Nat.le_of_ble_eq_true rfl)
  rw [lg_entry_eq]
  generalize (lg_sl ([.int p0]) ++ List.replicate (1 - (lg_sl ([.int p0])).length) Slot.unset).toArray = ls at hl ⊢
  have hl : lv_has ls 1 [(0, .int p0)] := hl
  refine lv_iload_n hx hb dX5_isLetter_0 rfl (lv_at hl 0 rfl) ?_
  refine lv_bipush (v := 97) hx hb dX5_isLetter_1 (by decide) ?_
  refine lv_icmp_lt (tgt := 16) hx hb dX5_isLetter_3 (by decide) (fun c3 => ?_) (fun c3 => ?_)
  · have h_1 : rg (-2147483648) 96 p0 := r_lt_l_i c3 (rg_t p0) (rgn 97 (x := 97) (by decide)) (by decide)
    refine lv_iconst (v := 0) hx hb dX5_isLetter_16 (by decide) ?_
    exact W.zret (v := 0) (ty := .boolean) hx hb hr (rfl) (fun t ht hW => ⟨⟨0, (), rfl, ⟨(rg_w (c := 0) (d := 1) (rgn 0 (x := 0) (by decide)) (by decide)), (fun hq => absurd (req (rgn 0 (x := 0) (by decide)) (y := 0) (by decide)) hq), trivial⟩, trivial⟩, hS.F ht⟩) hS.2.2 dX5_isLetter_17
  · have h_2 : rg 97 2147483647 p0 := r_le_r_i (nlt_i c3) (rgn 97 (x := 97) (by decide)) (rg_t p0)
    refine lv_iload_n hx hb dX5_isLetter_6 rfl (lv_at hl 0 rfl) ?_
    refine lv_bipush (v := 122) hx hb dX5_isLetter_7 (by decide) ?_
    refine lv_icmp_gt (tgt := 16) hx hb dX5_isLetter_9 (by decide) (fun c9 => ?_) (fun c9 => ?_)
    · have h_3 : rg 123 2147483647 p0 := r_lt_r_i c9 (rgn 122 (x := 122) (by decide)) h_2 (by decide)
      refine lv_iconst (v := 0) hx hb dX5_isLetter_16 (by decide) ?_
      exact W.zret (v := 0) (ty := .boolean) hx hb hr (rfl) (fun t ht hW => ⟨⟨0, (), rfl, ⟨(rg_w (c := 0) (d := 1) (rgn 0 (x := 0) (by decide)) (by decide)), (fun hq => absurd (req (rgn 0 (x := 0) (by decide)) (y := 0) (by decide)) hq), trivial⟩, trivial⟩, hS.F ht⟩) hS.2.2 dX5_isLetter_17
    · have h_4 : rg 97 122 p0 := r_le_l_i (nlt_i c9) h_2 (rgn 122 (x := 122) (by decide))
      refine lv_iconst (v := 1) hx hb dX5_isLetter_12 (by decide) ?_
      refine lv_goto (tgt := 17) hx hb dX5_isLetter_13 (by decide) ?_
      exact W.zret (v := 1) (ty := .boolean) hx hb hr (rfl) (fun t ht hW => ⟨⟨1, (), rfl, ⟨(rg_w (c := 0) (d := 1) (rgn 1 (x := 1) (by decide)) (by decide)), (fun _ => h_4), trivial⟩, trivial⟩, hS.F ht⟩) hS.2.2 dX5_isLetter_17

set_option maxHeartbeats 4000000 in
set_option maxRecDepth 100000 in
theorem a_X5_isDigit (l : Launch) (G : va_G) (ct : Nat → ClassId) (p0 : Int32)  : Met l yX5_isDigit wsX5_isDigit ({ frames := 0, cells := 0, slots := 0, locals := 0 }) (va_Pc [.int p0] (roP G ct [])) (roQ (fun r => rg 0 1 r ∧ (¬ r = 0 → rg 48 57 p0) ∧ True)) 0 0 no := by
  refine Met.ofW (cc := cX5_isDigit) (maxL := 1) (ret := (some .boolean)) (by decide) rfl ?_
  intro p e s m args below meth c s₁ B hml hv
  obtain ⟨rfl, hP, hK⟩ := hv
  have hx := B.exec
  have hb := B.bytes
  have hr := B.returns
  have hts := atoms_spec (ws := wsX5_isDigit) B.pre
  have hown : s.vm.findClass RX5 = some m.cls := findClass_of_methodNamed B.named
  have hlocks := B.notSynchronized
  have hS : va_S no s.heap s.heap [] := va_S.rf
  have hl := lv_entry ([.int p0]) (n := 1) (Nat.le_of_ble_eq_true rfl)
  rw [lg_entry_eq]
  generalize (lg_sl ([.int p0]) ++ List.replicate (1 - (lg_sl ([.int p0])).length) Slot.unset).toArray = ls at hl ⊢
  have hl : lv_has ls 1 [(0, .int p0)] := hl
  refine lv_iload_n hx hb dX5_isDigit_0 rfl (lv_at hl 0 rfl) ?_
  refine lv_bipush (v := 48) hx hb dX5_isDigit_1 (by decide) ?_
  refine lv_icmp_lt (tgt := 16) hx hb dX5_isDigit_3 (by decide) (fun c3 => ?_) (fun c3 => ?_)
  · have h_1 : rg (-2147483648) 47 p0 := r_lt_l_i c3 (rg_t p0) (rgn 48 (x := 48) (by decide)) (by decide)
    refine lv_iconst (v := 0) hx hb dX5_isDigit_16 (by decide) ?_
    exact W.zret (v := 0) (ty := .boolean) hx hb hr (rfl) (fun t ht hW => ⟨⟨0, (), rfl, ⟨(rg_w (c := 0) (d := 1) (rgn 0 (x := 0) (by decide)) (by decide)), (fun hq => absurd (req (rgn 0 (x := 0) (by decide)) (y := 0) (by decide)) hq), trivial⟩, trivial⟩, hS.F ht⟩) hS.2.2 dX5_isDigit_17
  · have h_2 : rg 48 2147483647 p0 := r_le_r_i (nlt_i c3) (rgn 48 (x := 48) (by decide)) (rg_t p0)
    refine lv_iload_n hx hb dX5_isDigit_6 rfl (lv_at hl 0 rfl) ?_
    refine lv_bipush (v := 57) hx hb dX5_isDigit_7 (by decide) ?_
    refine lv_icmp_gt (tgt := 16) hx hb dX5_isDigit_9 (by decide) (fun c9 => ?_) (fun c9 => ?_)
    · have h_3 : rg 58 2147483647 p0 := r_lt_r_i c9 (rgn 57 (x := 57) (by decide)) h_2 (by decide)
      refine lv_iconst (v := 0) hx hb dX5_isDigit_16 (by decide) ?_
      exact W.zret (v := 0) (ty := .boolean) hx hb hr (rfl) (fun t ht hW => ⟨⟨0, (), rfl, ⟨(rg_w (c := 0) (d := 1) (rgn 0 (x := 0) (by decide)) (by decide)), (fun hq => absurd (req (rgn 0 (x := 0) (by decide)) (y := 0) (by decide)) hq), trivial⟩, trivial⟩, hS.F ht⟩) hS.2.2 dX5_isDigit_17
    · have h_4 : rg 48 57 p0 := r_le_l_i (nlt_i c9) h_2 (rgn 57 (x := 57) (by decide))
      refine lv_iconst (v := 1) hx hb dX5_isDigit_12 (by decide) ?_
      refine lv_goto (tgt := 17) hx hb dX5_isDigit_13 (by decide) ?_
      exact W.zret (v := 1) (ty := .boolean) hx hb hr (rfl) (fun t ht hW => ⟨⟨1, (), rfl, ⟨(rg_w (c := 0) (d := 1) (rgn 1 (x := 1) (by decide)) (by decide)), (fun _ => h_4), trivial⟩, trivial⟩, hS.F ht⟩) hS.2.2 dX5_isDigit_17

set_option maxHeartbeats 4000000 in
set_option maxRecDepth 100000 in
theorem a_X5_fail (l : Launch) (G : va_G) (ct : Nat → ClassId) (a0 : Nat) (a1 : Nat) (a3 : Nat) (n0_2 : Int32) (n0_3 : Int32) (n0_4 : Int32) (n0_5 : Int32) (n0_6 : Int32) (n0_7 : Int32) (p0 : Int32)  : Met l yX5_fail wsX5_fail ({ frames := 0, cells := 0, slots := 0, locals := 0 }) (va_Pc [.ref a0, .int p0] (wrP G ct [(a0, .inr (5, [.ref a1, .ref a3, .int n0_2, .int n0_3, .int n0_4, .int n0_5, .int n0_6, .int n0_7]))])) (va_Qv (fun u : SU => True) (fun u t => va_P G vwCl ((fun u : SU => [(a0, .inr (5, [.ref a1, .ref a3, .int (u.1 0), .int (u.1 1), .int n0_4, .int n0_5, .int n0_6, .int n0_7]))]) u) t.heap) (aset [(a0, .inr (5, [.ref a1, .ref a3, .int n0_2, .int n0_3, .int n0_4, .int n0_5, .int n0_6, .int n0_7]))])) 0 0 (aset [(a0, .inr (5, [.ref a1, .ref a3, .int n0_2, .int n0_3, .int n0_4, .int n0_5, .int n0_6, .int n0_7]))]) := by
  refine Met.ofW (cc := cX5_fail) (maxL := 2) (ret := none) (by decide) rfl ?_
  intro p e s m args below meth c s₁ B hml hv
  obtain ⟨rfl, hP, hK, hD0⟩ := hv
  have hx := B.exec
  have hb := B.bytes
  have hr := B.returns
  have hts := atoms_spec (ws := wsX5_fail) B.pre
  have hown : s.vm.findClass RX5 = some m.cls := findClass_of_methodNamed B.named
  have hlocks := B.notSynchronized
  have hD := hD0.aself
  generalize hAe : aset [(a0, .inr (5, [.ref a1, .ref a3, .int n0_2, .int n0_3, .int n0_4, .int n0_5, .int n0_6, .int n0_7]))] = A at hD ⊢
  have hS : va_S A s.heap s.heap [] := va_S.rf
  have hl := lv_entry ([.ref a0, .int p0]) (n := 2) (Nat.le_of_ble_eq_true rfl)
  rw [lg_entry_eq]
  generalize (lg_sl ([.ref a0, .int p0]) ++ List.replicate (2 - (lg_sl ([.ref a0, .int p0])).length) Slot.unset).toArray = ls at hl ⊢
  have hl : lv_has ls 2 [(0, .ref a0), (1, .int p0)] := hl
  refine lv_aload_n hx hb dX5_fail_0 rfl (lv_at hl 0 rfl) ?_
  refine va_get (D := G) (ci := 5) (v := .int n0_2) (C := RX5) (T := TX5) (N := 8) hx hb hts (by decide +kernel) hown hK.1 hP 0 rfl rfl 2 (by decide) (hts (.fieldLink RX5 29 "CardHolder$Reader" "wrong" "I") (by decide +kernel)) (fun _ h9 => h9) rfl dX5_fail_1 ?_
  refine lv_if_ne (tgt := 20) hx hb dX5_fail_4 (by decide) (fun c4 => ?_) (fun c4 => ?_)
  · exact W.vret hx hb hr (fun t ht hW => ⟨⟨(fun k => ([n0_2, n0_3] : List Int32).getD k 0, fun k => ([] : List (Nat → Int32)).getD k (fun _ => 0), fun k => ([] : List (Nat → Int64)).getD k (fun _ => 0)), rfl, trivial, hp_at ht hP⟩, hS.F ht⟩) hS.2.2 dX5_fail_20
  · have h_1 : rg 0 0 n0_2 := r_eq_l_i (e := 0) (f := 0) c4 (rg_t n0_2) (rgn 0 (x := 0) (by decide)) (by decide)
    refine lv_aload_n hx hb dX5_fail_7 rfl (lv_at hl 0 rfl) ?_
    refine lv_iload_n hx hb dX5_fail_8 rfl (lv_at hl 1 rfl) ?_
    refine va_put (D := G) (ci := 5) (v := .int p0) (ty := .int) (C := RX5) (T := TX5) (N := 8) hx hb hts (by decide +kernel) tyX5 tyX5_ok nmX5 hown hK.1 hP hD hS 0 rfl rfl 2 (by decide) (hts (.fieldLink RX5 29 "CardHolder$Reader" "wrong" "I") (by decide +kernel)) (fun _ h9 => h9) rfl (by decide +kernel) rfl rfl (Nat.le_of_ble_eq_true rfl) dX5_fail_9 (fun H locs hP hD hS => ?_)
    refine lv_aload_n hx hb dX5_fail_12 rfl (lv_at hl 0 rfl) ?_
    refine lv_aload_n hx hb dX5_fail_13 rfl (lv_at hl 0 rfl) ?_
    refine va_get (D := G) (ci := 5) (v := .int n0_5) (C := RX5) (T := TX5) (N := 8) hx hb hts (by decide +kernel) hown hK.1 hP 0 rfl rfl 5 (by decide) (hts (.fieldLink RX5 127 "CardHolder$Reader" "place" "I") (by decide +kernel)) (fun _ h9 => h9) rfl dX5_fail_14 ?_
    refine va_put (D := G) (ci := 5) (v := .int n0_5) (ty := .int) (C := RX5) (T := TX5) (N := 8) hx hb hts (by decide +kernel) tyX5 tyX5_ok nmX5 hown hK.1 hP hD hS 0 rfl rfl 3 (by decide) (hts (.fieldLink RX5 18 "CardHolder$Reader" "wrongPlace" "I") (by decide +kernel)) (fun _ h9 => h9) rfl (by decide +kernel) rfl rfl (Nat.le_of_ble_eq_true rfl) dX5_fail_17 (fun H locs hP hD hS => ?_)
    exact W.vret hx hb hr (fun t ht hW => ⟨⟨(fun k => ([p0, n0_5] : List Int32).getD k 0, fun k => ([] : List (Nat → Int32)).getD k (fun _ => 0), fun k => ([] : List (Nat → Int64)).getD k (fun _ => 0)), rfl, trivial, hp_at ht hP⟩, hS.F ht⟩) hS.2.2 dX5_fail_20

set_option maxHeartbeats 4000000 in
set_option maxRecDepth 100000 in
theorem a_X5_step (l : Launch) (G : va_G) (ct : Nat → ClassId) (a0 : Nat) (a1 : Nat) (a3 : Nat) (n0_2 : Int32) (n0_3 : Int32) (n0_4 : Int32) (n0_5 : Int32) (n0_6 : Int32) (n0_7 : Int32) (a2 : Nat) (n1_1 : Int32) (f2 : Nat → Int32) (hp_n1_1 : rg 0 900 n1_1) : Met l yX5_step wsX5_step ({ frames := 1, cells := 0, slots := 0, locals := 60 }) (va_Pc [.ref a0] (wrP G ct [(a0, .inr (5, [.ref a1, .ref a3, .int n0_2, .int n0_3, .int n0_4, .int n0_5, .int n0_6, .int n0_7])), (a1, .inr (8, [.ref a2, .int n1_1])), (a2, .inl (ct 1, 900, .inl f2))])) (va_Qv (fun u : SU => rg 0 4 (u.1 0) ∧ rg (-2147483648) 100000 (u.1 3) ∧ True) (fun u t => va_P G vwCl ((fun u : SU => [(a0, .inr (5, [.ref a1, .ref a3, .int n0_2, .int n0_3, .int (u.1 0), .int (u.1 1), .int (u.1 2), .int (u.1 3)])), (a1, .inr (8, [.ref a2, .int n1_1])), (a2, .inl (ct 1, 900, .inl f2))]) u) t.heap) (aset [(a0, .inr (5, [.ref a1, .ref a3, .int n0_2, .int n0_3, .int n0_4, .int n0_5, .int n0_6, .int n0_7])), (a1, .inr (8, [.ref a2, .int n1_1])), (a2, .inl (ct 1, 900, .inl f2))])) 0 0 (aset [(a0, .inr (5, [.ref a1, .ref a3, .int n0_2, .int n0_3, .int n0_4, .int n0_5, .int n0_6, .int n0_7])), (a1, .inr (8, [.ref a2, .int n1_1])), (a2, .inl (ct 1, 900, .inl f2))]) := by
  refine Met.ofW (cc := cX5_step) (maxL := 2) (ret := none) (by decide) rfl ?_
  intro p e s m args below meth c s₁ B hml hv
  obtain ⟨rfl, hP, hK, hD0⟩ := hv
  have hx := B.exec
  have hb := B.bytes
  have hr := B.returns
  have hts := atoms_spec (ws := wsX5_step) B.pre
  have hown : s.vm.findClass RX5 = some m.cls := findClass_of_methodNamed B.named
  have hlocks := B.notSynchronized
  have hD := hD0.aself
  generalize hAe : aset [(a0, .inr (5, [.ref a1, .ref a3, .int n0_2, .int n0_3, .int n0_4, .int n0_5, .int n0_6, .int n0_7])), (a1, .inr (8, [.ref a2, .int n1_1])), (a2, .inl (ct 1, 900, .inl f2))] = A at hD ⊢
  have hS : va_S A s.heap s.heap [] := va_S.rf
  have hl := lv_entry ([.ref a0]) (n := 2) (Nat.le_of_ble_eq_true rfl)
  rw [lg_entry_eq]
  generalize (lg_sl ([.ref a0]) ++ List.replicate (2 - (lg_sl ([.ref a0])).length) Slot.unset).toArray = ls at hl ⊢
  have hl : lv_has ls 2 [(0, .ref a0)] := hl
  refine lv_aload_n hx hb dX5_step_0 rfl (lv_at hl 0 rfl) ?_
  refine lv_aload_n hx hb dX5_step_1 rfl (lv_at hl 0 rfl) ?_
  refine va_get (D := G) (ci := 5) (v := .int n0_6) (C := RX5) (T := TX5) (N := 8) hx hb hts (by decide +kernel) hown hK.1 hP 0 rfl rfl 6 (by decide) (hts (.fieldLink RX5 32 "CardHolder$Reader" "next" "I") (by decide +kernel)) (fun _ h9 => h9) rfl dX5_step_2 ?_
  refine va_put (D := G) (ci := 5) (v := .int n0_6) (ty := .int) (C := RX5) (T := TX5) (N := 8) hx hb hts (by decide +kernel) tyX5 tyX5_ok nmX5 hown hK.1 hP hD hS 0 rfl rfl 5 (by decide) (hts (.fieldLink RX5 127 "CardHolder$Reader" "place" "I") (by decide +kernel)) (fun _ h9 => h9) rfl (by decide +kernel) rfl rfl (Nat.le_of_ble_eq_true rfl) dX5_step_5 (fun H locs hP hD hS => ?_)
  have j8 : ∀ (n : Nat) (v8_0_5 : Int32) (H : Heap) (locs : List Loc) (ls : Array Slot), 2147483648 ≤ v8_0_5.toInt + (n : Int) → va_P G vwCl [(a0, .inr (5, [.ref a1, .ref a3, .int n0_2, .int n0_3, .int n0_4, .int v8_0_5, .int n0_6, .int n0_7])), (a1, .inr (8, [.ref a2, .int n1_1])), (a2, .inl (ct 1, 900, .inl f2))] H → va_D A [(a0, .inr (5, [.ref a1, .ref a3, .int n0_2, .int n0_3, .int n0_4, .int v8_0_5, .int n0_6, .int n0_7])), (a1, .inr (8, [.ref a2, .int n1_1])), (a2, .inl (ct 1, 900, .inl f2))] → va_S A s.heap H locs → lv_has ls 2 [(0, .ref a0)] → W p l e (headSpec wsX5_step ({ frames := 1, cells := 0, slots := 0, locals := 60 })).room s m ([.ref a0] : List Value).toArray below meth c H locs 0 0 (MQ below (va_Qv (fun u : SU => rg 0 4 (u.1 0) ∧ rg (-2147483648) 100000 (u.1 3) ∧ True) (fun u t => va_P G vwCl ((fun u : SU => [(a0, .inr (5, [.ref a1, .ref a3, .int n0_2, .int n0_3, .int (u.1 0), .int (u.1 1), .int (u.1 2), .int (u.1 3)])), (a1, .inr (8, [.ref a2, .int n1_1])), (a2, .inl (ct 1, 900, .inl f2))]) u) t.heap) A) ([.ref a0] : List Value).toArray s 0 0 A) (F0 m 8 ls []) := by
    intro n
    induction n with
    | zero => intro v8_0_5 H locs ls hn8  hP hD hS hl; exact absurd hn8 (by have := Int32.toInt_lt v8_0_5; have := Int32.le_toInt v8_0_5; omega)
    | succ n ih8 =>
      intro v8_0_5 H locs ls hn8  hP hD hS hl
      refine lv_aload_n hx hb dX5_step_8 rfl (lv_at hl 0 rfl) ?_
      refine va_get (D := G) (ci := 5) (v := .int v8_0_5) (C := RX5) (T := TX5) (N := 8) hx hb hts (by decide +kernel) hown hK.1 hP 0 rfl rfl 5 (by decide) (hts (.fieldLink RX5 127 "CardHolder$Reader" "place" "I") (by decide +kernel)) (fun _ h9 => h9) rfl dX5_step_9 ?_
      refine lv_aload_n hx hb dX5_step_12 rfl (lv_at hl 0 rfl) ?_
      refine va_get (D := G) (ci := 5) (v := .ref a1) (C := RX5) (T := TX5) (N := 8) hx hb hts (by decide +kernel) hown hK.1 hP 0 rfl rfl 0 (by decide) (hts (.fieldLink RX5 22 "CardHolder$Reader" "tape" "LCardHolder$Tape;") (by decide +kernel)) (fun _ h9 => h9) rfl dX5_step_13 ?_
      refine va_get (D := G) (ci := 8) (v := .int n1_1) (C := RX8) (T := TX8) (N := 2) hx hb hts (by decide +kernel) hown hK.1 hP 1 rfl rfl 1 (by decide) (hts (.fieldLink RX5 145 "CardHolder$Tape" "size" "I") (by decide +kernel)) (fun _ h9 => h9) rfl dX5_step_16 ?_
      have j52 : ∀ (H : Heap) (locs : List Loc) (ls : Array Slot), va_P G vwCl [(a0, .inr (5, [.ref a1, .ref a3, .int n0_2, .int n0_3, .int n0_4, .int v8_0_5, .int n0_6, .int n0_7])), (a1, .inr (8, [.ref a2, .int n1_1])), (a2, .inl (ct 1, 900, .inl f2))] H → va_D A [(a0, .inr (5, [.ref a1, .ref a3, .int n0_2, .int n0_3, .int n0_4, .int v8_0_5, .int n0_6, .int n0_7])), (a1, .inr (8, [.ref a2, .int n1_1])), (a2, .inl (ct 1, 900, .inl f2))] → va_S A s.heap H locs → lv_has ls 2 [(0, .ref a0)] → W p l e (headSpec wsX5_step ({ frames := 1, cells := 0, slots := 0, locals := 60 })).room s m ([.ref a0] : List Value).toArray below meth c H locs 0 0 (MQ below (va_Qv (fun u : SU => rg 0 4 (u.1 0) ∧ rg (-2147483648) 100000 (u.1 3) ∧ True) (fun u t => va_P G vwCl ((fun u : SU => [(a0, .inr (5, [.ref a1, .ref a3, .int n0_2, .int n0_3, .int (u.1 0), .int (u.1 1), .int (u.1 2), .int (u.1 3)])), (a1, .inr (8, [.ref a2, .int n1_1])), (a2, .inl (ct 1, 900, .inl f2))]) u) t.heap) A) ([.ref a0] : List Value).toArray s 0 0 A) (F0 m 52 ls []) := by
        intro  H locs ls  hP hD hS hl
        refine lv_aload_n hx hb dX5_step_52 rfl (lv_at hl 0 rfl) ?_
        refine lv_aload_n hx hb dX5_step_53 rfl (lv_at hl 0 rfl) ?_
        refine va_get (D := G) (ci := 5) (v := .int v8_0_5) (C := RX5) (T := TX5) (N := 8) hx hb hts (by decide +kernel) hown hK.1 hP 0 rfl rfl 5 (by decide) (hts (.fieldLink RX5 127 "CardHolder$Reader" "place" "I") (by decide +kernel)) (fun _ h9 => h9) rfl dX5_step_54 ?_
        refine va_put (D := G) (ci := 5) (v := .int v8_0_5) (ty := .int) (C := RX5) (T := TX5) (N := 8) hx hb hts (by decide +kernel) tyX5 tyX5_ok nmX5 hown hK.1 hP hD hS 0 rfl rfl 6 (by decide) (hts (.fieldLink RX5 32 "CardHolder$Reader" "next" "I") (by decide +kernel)) (fun _ h9 => h9) rfl (by decide +kernel) rfl rfl (Nat.le_of_ble_eq_true rfl) dX5_step_57 (fun H locs hP hD hS => ?_)
        refine lv_aload_n hx hb dX5_step_60 rfl (lv_at hl 0 rfl) ?_
        refine lv_iconst (v := 0) hx hb dX5_step_61 (by decide) ?_
        refine va_put (D := G) (ci := 5) (v := .int 0) (ty := .int) (C := RX5) (T := TX5) (N := 8) hx hb hts (by decide +kernel) tyX5 tyX5_ok nmX5 hown hK.1 hP hD hS 0 rfl rfl 7 (by decide) (hts (.fieldLink RX5 105 "CardHolder$Reader" "value" "I") (by decide +kernel)) (fun _ h9 => h9) rfl (by decide +kernel) rfl rfl (Nat.le_of_ble_eq_true rfl) dX5_step_62 (fun H locs hP hD hS => ?_)
        refine lv_aload_n hx hb dX5_step_65 rfl (lv_at hl 0 rfl) ?_
        refine va_get (D := G) (ci := 5) (v := .ref a1) (C := RX5) (T := TX5) (N := 8) hx hb hts (by decide +kernel) hown hK.1 hP 0 rfl rfl 0 (by decide) (hts (.fieldLink RX5 22 "CardHolder$Reader" "tape" "LCardHolder$Tape;") (by decide +kernel)) (fun _ h9 => h9) rfl dX5_step_66 ?_
        refine lv_aload_n hx hb dX5_step_69 rfl (lv_at hl 0 rfl) ?_
        refine va_get (D := G) (ci := 5) (v := .int v8_0_5) (C := RX5) (T := TX5) (N := 8) hx hb hts (by decide +kernel) hown hK.1 hP 0 rfl rfl 5 (by decide) (hts (.fieldLink RX5 127 "CardHolder$Reader" "place" "I") (by decide +kernel)) (fun _ h9 => h9) rfl dX5_step_70 ?_
        refine ro_calli (va_runV (As := [.int v8_0_5]) (rest := []) ⟨hx, hb, hml, hown, hts⟩ (a_X8_at l G ct a1 a2 n1_1 f2 v8_0_5 hp_n1_1) (cwV 1 hts gX5_step_X8_at rfl rfl rfl (by decide +kernel) ⟨Nat.le_of_ble_eq_true rfl, Nat.le_of_ble_eq_true rfl⟩) (ro_preV 8 0 hK (hP.sub [1, 2] rfl) rfl rfl) rfl rfl hl.1 rfl (lv_room (Nat.le_of_ble_eq_true rfl)) dX5_step_73 ⟨Nat.zero_le _, Nat.zero_le _⟩) hS hP (fun r73 H locs wr73 hP hS => ?_)
        obtain ⟨p_1, p_2, p_3, p_4, p_5, -⟩ := wr73
        refine lv_istore_n (lv' := [(1, .int r73), (0, .ref a0)]) hx hb dX5_step_76 rfl hl (by decide) rfl (fun ls hl => ?_)
        refine lv_iload_n hx hb dX5_step_77 rfl (lv_at hl 0 rfl) ?_
        refine lv_iconst (v := (-1)) hx hb dX5_step_78 (by decide) ?_
        refine lv_icmp_ne (tgt := 90) hx hb dX5_step_79 (by decide) (fun c79 => ?_) (fun c79 => ?_)
        · have h_6 : rg 0 255 r73 := r_ne_lo_i c79 p_1 (by decide) (by decide)
          have h_7 : rg 0 899 v8_0_5 := (p_3 (rne h_6 (y := (-1)) (c := (-1)) (by decide) (by decide)))
          have h_8 : rg 1 900 n1_1 := (p_5 (rne h_6 (y := (-1)) (c := (-1)) (by decide) (by decide)))
          refine lv_iload_n hx hb dX5_step_90 rfl (lv_at hl 0 rfl) ?_
          refine ro_calli (va_runS (As := [.int r73]) (rest := []) ⟨hx, hb, hml, hown, hts⟩ (a_X5_isLetter l G ct r73) (va_cwS 1 hts gX5_step_X5_isLetter rfl rfl rfl (by decide +kernel) ⟨Nat.le_of_ble_eq_true rfl, Nat.le_of_ble_eq_true rfl⟩) (ro_pre hK (hP.sub [] rfl)) rfl rfl hl.1 rfl (lv_room (Nat.le_of_ble_eq_true rfl)) dX5_step_91 ⟨Nat.zero_le _, Nat.zero_le _⟩) hS hP (fun r91 H locs wr91 hP hS => ?_)
          obtain ⟨p_9, p_10, -⟩ := wr91
          refine lv_if_eq (tgt := 146) hx hb dX5_step_94 (by decide) (fun c94 => ?_) (fun c94 => ?_)
          · have h_11 : rg 0 0 r91 := r_eq_l_i (e := 0) (f := 0) c94 p_9 (rgn 0 (x := 0) (by decide)) (by decide)
            refine lv_iload_n hx hb dX5_step_146 rfl (lv_at hl 0 rfl) ?_
            refine ro_calli (va_runS (As := [.int r73]) (rest := []) ⟨hx, hb, hml, hown, hts⟩ (a_X5_isDigit l G ct r73) (va_cwS 1 hts gX5_step_X5_isDigit rfl rfl rfl (by decide +kernel) ⟨Nat.le_of_ble_eq_true rfl, Nat.le_of_ble_eq_true rfl⟩) (ro_pre hK (hP.sub [] rfl)) rfl rfl hl.1 rfl (lv_room (Nat.le_of_ble_eq_true rfl)) dX5_step_147 ⟨Nat.zero_le _, Nat.zero_le _⟩) hS hP (fun r147 H locs wr147 hP hS => ?_)
            obtain ⟨p_12, p_13, -⟩ := wr147
            refine lv_if_eq (tgt := 233) hx hb dX5_step_150 (by decide) (fun c150 => ?_) (fun c150 => ?_)
            · have h_14 : rg 0 0 r147 := r_eq_l_i (e := 0) (f := 0) c150 p_12 (rgn 0 (x := 0) (by decide)) (by decide)
              refine lv_aload_n hx hb dX5_step_233 rfl (lv_at hl 1 rfl) ?_
              refine lv_iload_n hx hb dX5_step_234 rfl (lv_at hl 0 rfl) ?_
              refine lv_bipush (v := 59) hx hb dX5_step_235 (by decide) ?_
              have j245 : ∀ (y245_0 : Int32) (H : Heap) (locs : List Loc) (ls : Array Slot), rg 3 4 y245_0 → va_P G vwCl [(a0, .inr (5, [.ref a1, .ref a3, .int n0_2, .int n0_3, .int n0_4, .int v8_0_5, .int v8_0_5, .int 0])), (a1, .inr (8, [.ref a2, .int n1_1])), (a2, .inl (ct 1, 900, .inl f2))] H → va_D A [(a0, .inr (5, [.ref a1, .ref a3, .int n0_2, .int n0_3, .int n0_4, .int v8_0_5, .int v8_0_5, .int 0])), (a1, .inr (8, [.ref a2, .int n1_1])), (a2, .inl (ct 1, 900, .inl f2))] → va_S A s.heap H locs → lv_has ls 2 [(0, .ref a0), (1, .int r73)] → W p l e (headSpec wsX5_step ({ frames := 1, cells := 0, slots := 0, locals := 60 })).room s m ([.ref a0] : List Value).toArray below meth c H locs 0 0 (MQ below (va_Qv (fun u : SU => rg 0 4 (u.1 0) ∧ rg (-2147483648) 100000 (u.1 3) ∧ True) (fun u t => va_P G vwCl ((fun u : SU => [(a0, .inr (5, [.ref a1, .ref a3, .int n0_2, .int n0_3, .int (u.1 0), .int (u.1 1), .int (u.1 2), .int (u.1 3)])), (a1, .inr (8, [.ref a2, .int n1_1])), (a2, .inl (ct 1, 900, .inl f2))]) u) t.heap) A) ([.ref a0] : List Value).toArray s 0 0 A) (F0 m 245 ls [.int y245_0, .ref a0]) := by
                intro y245_0 H locs ls hy245_0 hP hD hS hl
                refine va_put (D := G) (ci := 5) (v := .int y245_0) (ty := .int) (C := RX5) (T := TX5) (N := 8) hx hb hts (by decide +kernel) tyX5 tyX5_ok nmX5 hown hK.1 hP hD hS 0 rfl rfl 4 (by decide) (hts (.fieldLink RX5 38 "CardHolder$Reader" "kind" "I") (by decide +kernel)) (fun _ h9 => h9) rfl (by decide +kernel) rfl rfl (Nat.le_of_ble_eq_true rfl) dX5_step_245 (fun H locs hP hD hS => ?_)
                refine lv_aload_n hx hb dX5_step_248 rfl (lv_at hl 0 rfl) ?_
                refine lv_dup hx hb dX5_step_249 rfl ?_
                refine va_get (D := G) (ci := 5) (v := .int v8_0_5) (C := RX5) (T := TX5) (N := 8) hx hb hts (by decide +kernel) hown hK.1 hP 0 rfl rfl 6 (by decide) (hts (.fieldLink RX5 32 "CardHolder$Reader" "next" "I") (by decide +kernel)) (fun _ h9 => h9) rfl dX5_step_250 ?_
                refine lv_iconst (v := 1) hx hb dX5_step_253 (by decide) ?_
                refine lv_iadd hx hb dX5_step_254 ?_
                refine nm_add (e1 := 1) (f := 900) h_7 (rgn 1 (x := 1) (by decide)) (by decide) (fun z254 hz254 ez254 => ?_)
                replace ez254 := eqc_r ez254 (c := 1) (by decide)
                refine va_put (D := G) (ci := 5) (v := .int z254) (ty := .int) (C := RX5) (T := TX5) (N := 8) hx hb hts (by decide +kernel) tyX5 tyX5_ok nmX5 hown hK.1 hP hD hS 0 rfl rfl 6 (by decide) (hts (.fieldLink RX5 32 "CardHolder$Reader" "next" "I") (by decide +kernel)) (fun _ h9 => h9) rfl (by decide +kernel) rfl rfl (Nat.le_of_ble_eq_true rfl) dX5_step_255 (fun H locs hP hD hS => ?_)
                exact W.vret hx hb hr (fun t ht hW => ⟨⟨(fun k => ([y245_0, v8_0_5, z254, 0] : List Int32).getD k 0, fun k => ([] : List (Nat → Int32)).getD k (fun _ => 0), fun k => ([] : List (Nat → Int64)).getD k (fun _ => 0)), rfl, ⟨(rg_w (c := 0) (d := 4) hy245_0 (by decide)), (rg_w (c := (-2147483648)) (d := 100000) (rgn 0 (x := 0) (by decide)) (by decide)), trivial⟩, hp_at ht hP⟩, hS.F ht⟩) hS.2.2 dX5_step_258
              refine lv_icmp_ne (tgt := 244) hx hb dX5_step_237 (by decide) (fun c237 => ?_) (fun c237 => ?_)
              · refine lv_iconst (v := 4) hx hb dX5_step_244 (by decide) ?_
                exact j245 (4 : Int32) _ _ ls (rg_w (c := 3) (d := 4) (rgn 4 (x := 4) (by decide)) (by decide)) hP hD hS (lv_sub hl [1, 0] rfl)
              · have h_15 : rg 59 59 r73 := r_eq_l_i (e := 59) (f := 59) c237 h_6 (rgn 59 (x := 59) (by decide)) (by decide)
                refine lv_iconst (v := 3) hx hb dX5_step_240 (by decide) ?_
                refine lv_goto (tgt := 245) hx hb dX5_step_241 (by decide) ?_
                exact j245 (3 : Int32) _ _ ls (rg_w (c := 3) (d := 4) (rgn 3 (x := 3) (by decide)) (by decide)) hP hD hS (lv_sub hl [1, 0] rfl)
            · have h_16 : rg 1 1 r147 := r_ne_lo_i c150 p_12 (by decide) (by decide)
              have h_17 : rg 48 57 r73 := (p_13 (rne h_16 (y := 0) (c := 0) (by decide) (by decide)))
              refine lv_aload_n hx hb dX5_step_153 rfl (lv_at hl 1 rfl) ?_
              refine lv_iconst (v := 2) hx hb dX5_step_154 (by decide) ?_
              refine va_put (D := G) (ci := 5) (v := .int 2) (ty := .int) (C := RX5) (T := TX5) (N := 8) hx hb hts (by decide +kernel) tyX5 tyX5_ok nmX5 hown hK.1 hP hD hS 0 rfl rfl 4 (by decide) (hts (.fieldLink RX5 38 "CardHolder$Reader" "kind" "I") (by decide +kernel)) (fun _ h9 => h9) rfl (by decide +kernel) rfl rfl (Nat.le_of_ble_eq_true rfl) dX5_step_155 (fun H locs hP hD hS => ?_)
              have j158 : ∀ (n : Nat) (v158_0_6 : Int32) (v158_0_7 : Int32) (H : Heap) (locs : List Loc) (ls : Array Slot), 2147483648 ≤ v158_0_6.toInt + (n : Int) → rg 0 900 v158_0_6 → rg (-2147483648) 100000 v158_0_7 → va_P G vwCl [(a0, .inr (5, [.ref a1, .ref a3, .int n0_2, .int n0_3, .int 2, .int v8_0_5, .int v158_0_6, .int v158_0_7])), (a1, .inr (8, [.ref a2, .int n1_1])), (a2, .inl (ct 1, 900, .inl f2))] H → va_D A [(a0, .inr (5, [.ref a1, .ref a3, .int n0_2, .int n0_3, .int 2, .int v8_0_5, .int v158_0_6, .int v158_0_7])), (a1, .inr (8, [.ref a2, .int n1_1])), (a2, .inl (ct 1, 900, .inl f2))] → va_S A s.heap H locs → lv_has ls 2 [(0, .ref a0), (1, .int r73)] → W p l e (headSpec wsX5_step ({ frames := 1, cells := 0, slots := 0, locals := 60 })).room s m ([.ref a0] : List Value).toArray below meth c H locs 0 0 (MQ below (va_Qv (fun u : SU => rg 0 4 (u.1 0) ∧ rg (-2147483648) 100000 (u.1 3) ∧ True) (fun u t => va_P G vwCl ((fun u : SU => [(a0, .inr (5, [.ref a1, .ref a3, .int n0_2, .int n0_3, .int (u.1 0), .int (u.1 1), .int (u.1 2), .int (u.1 3)])), (a1, .inr (8, [.ref a2, .int n1_1])), (a2, .inl (ct 1, 900, .inl f2))]) u) t.heap) A) ([.ref a0] : List Value).toArray s 0 0 A) (F0 m 158 ls []) := by
                intro n
                induction n with
                | zero => intro v158_0_6 v158_0_7 H locs ls hn158 hv158_0_6 hv158_0_7 hP hD hS hl; exact absurd hn158 (by have := Int32.toInt_lt v158_0_6; have := Int32.le_toInt v158_0_6; omega)
                | succ n ih158 =>
                  intro v158_0_6 v158_0_7 H locs ls hn158 hv158_0_6 hv158_0_7 hP hD hS hl
                  refine lv_aload_n hx hb dX5_step_158 rfl (lv_at hl 0 rfl) ?_
                  refine va_get (D := G) (ci := 5) (v := .int v158_0_6) (C := RX5) (T := TX5) (N := 8) hx hb hts (by decide +kernel) hown hK.1 hP 0 rfl rfl 6 (by decide) (hts (.fieldLink RX5 32 "CardHolder$Reader" "next" "I") (by decide +kernel)) (fun _ h9 => h9) rfl dX5_step_159 ?_
                  refine lv_aload_n hx hb dX5_step_162 rfl (lv_at hl 0 rfl) ?_
                  refine va_get (D := G) (ci := 5) (v := .ref a1) (C := RX5) (T := TX5) (N := 8) hx hb hts (by decide +kernel) hown hK.1 hP 0 rfl rfl 0 (by decide) (hts (.fieldLink RX5 22 "CardHolder$Reader" "tape" "LCardHolder$Tape;") (by decide +kernel)) (fun _ h9 => h9) rfl dX5_step_163 ?_
                  refine va_get (D := G) (ci := 8) (v := .int n1_1) (C := RX8) (T := TX8) (N := 2) hx hb hts (by decide +kernel) hown hK.1 hP 1 rfl rfl 1 (by decide) (hts (.fieldLink RX5 145 "CardHolder$Tape" "size" "I") (by decide +kernel)) (fun _ h9 => h9) rfl dX5_step_166 ?_
                  refine lv_icmp_ge (tgt := 258) hx hb dX5_step_169 (by decide) (fun c169 => ?_) (fun c169 => ?_)
                  · have h_18 : rg 1 900 v158_0_6 := r_le_r_i c169 h_8 hv158_0_6
                    exact W.vret hx hb hr (fun t ht hW => ⟨⟨(fun k => ([2, v8_0_5, v158_0_6, v158_0_7] : List Int32).getD k 0, fun k => ([] : List (Nat → Int32)).getD k (fun _ => 0), fun k => ([] : List (Nat → Int64)).getD k (fun _ => 0)), rfl, ⟨(rg_w (c := 0) (d := 4) (rgn 2 (x := 2) (by decide)) (by decide)), hv158_0_7, trivial⟩, hp_at ht hP⟩, hS.F ht⟩) hS.2.2 dX5_step_258
                  · have h_19 : rg 0 899 v158_0_6 := r_lt_l_i (nle_i c169) hv158_0_6 h_8 (by decide)
                    refine lv_aload_n hx hb dX5_step_172 rfl (lv_at hl 0 rfl) ?_
                    refine va_get (D := G) (ci := 5) (v := .ref a1) (C := RX5) (T := TX5) (N := 8) hx hb hts (by decide +kernel) hown hK.1 hP 0 rfl rfl 0 (by decide) (hts (.fieldLink RX5 22 "CardHolder$Reader" "tape" "LCardHolder$Tape;") (by decide +kernel)) (fun _ h9 => h9) rfl dX5_step_173 ?_
                    refine lv_aload_n hx hb dX5_step_176 rfl (lv_at hl 0 rfl) ?_
                    refine va_get (D := G) (ci := 5) (v := .int v158_0_6) (C := RX5) (T := TX5) (N := 8) hx hb hts (by decide +kernel) hown hK.1 hP 0 rfl rfl 6 (by decide) (hts (.fieldLink RX5 32 "CardHolder$Reader" "next" "I") (by decide +kernel)) (fun _ h9 => h9) rfl dX5_step_177 ?_
                    refine ro_calli (va_runV (As := [.int v158_0_6]) (rest := []) ⟨hx, hb, hml, hown, hts⟩ (a_X8_at l G ct a1 a2 n1_1 f2 v158_0_6 (rg_w (c := 0) (d := 900) h_8 (by decide))) (cwV 1 hts gX5_step_X8_at rfl rfl rfl (by decide +kernel) ⟨Nat.le_of_ble_eq_true rfl, Nat.le_of_ble_eq_true rfl⟩) (ro_preV 8 0 hK (hP.sub [1, 2] rfl) rfl rfl) rfl rfl hl.1 rfl (lv_room (Nat.le_of_ble_eq_true rfl)) dX5_step_180 ⟨Nat.zero_le _, Nat.zero_le _⟩) hS hP (fun r180 H locs wr180 hP hS => ?_)
                    obtain ⟨p_20, p_21, p_22, p_23, p_24, -⟩ := wr180
                    refine ro_calli (va_runS (As := [.int r180]) (rest := []) ⟨hx, hb, hml, hown, hts⟩ (a_X5_isDigit l G ct r180) (va_cwS 1 hts gX5_step_X5_isDigit rfl rfl rfl (by decide +kernel) ⟨Nat.le_of_ble_eq_true rfl, Nat.le_of_ble_eq_true rfl⟩) (ro_pre hK (hP.sub [] rfl)) rfl rfl hl.1 rfl (lv_room (Nat.le_of_ble_eq_true rfl)) dX5_step_183 ⟨Nat.zero_le _, Nat.zero_le _⟩) hS hP (fun r183 H locs wr183 hP hS => ?_)
                    obtain ⟨p_25, p_26, -⟩ := wr183
                    refine lv_if_eq (tgt := 258) hx hb dX5_step_186 (by decide) (fun c186 => ?_) (fun c186 => ?_)
                    · have h_27 : rg 0 0 r183 := r_eq_l_i (e := 0) (f := 0) c186 p_25 (rgn 0 (x := 0) (by decide)) (by decide)
                      exact W.vret hx hb hr (fun t ht hW => ⟨⟨(fun k => ([2, v8_0_5, v158_0_6, v158_0_7] : List Int32).getD k 0, fun k => ([] : List (Nat → Int32)).getD k (fun _ => 0), fun k => ([] : List (Nat → Int64)).getD k (fun _ => 0)), rfl, ⟨(rg_w (c := 0) (d := 4) (rgn 2 (x := 2) (by decide)) (by decide)), hv158_0_7, trivial⟩, hp_at ht hP⟩, hS.F ht⟩) hS.2.2 dX5_step_258
                    · have h_28 : rg 1 1 r183 := r_ne_lo_i c186 p_25 (by decide) (by decide)
                      have h_29 : rg 48 57 r180 := (p_26 (rne h_28 (y := 0) (c := 0) (by decide) (by decide)))
                      refine lv_aload_n hx hb dX5_step_189 rfl (lv_at hl 0 rfl) ?_
                      refine lv_ldc (own := RX5) (v := 100000) hx hb hown (hts (.constant RX5 157 (100000)) (by decide +kernel)) dX5_step_190 ?_
                      refine lv_aload_n hx hb dX5_step_192 rfl (lv_at hl 0 rfl) ?_
                      refine va_get (D := G) (ci := 5) (v := .int v158_0_7) (C := RX5) (T := TX5) (N := 8) hx hb hts (by decide +kernel) hown hK.1 hP 0 rfl rfl 7 (by decide) (hts (.fieldLink RX5 105 "CardHolder$Reader" "value" "I") (by decide +kernel)) (fun _ h9 => h9) rfl dX5_step_193 ?_
                      refine lv_bipush (v := 10) hx hb dX5_step_196 (by decide) ?_
                      refine lv_imul hx hb dX5_step_198 ?_
                      refine nm_0 (fun z198 => ?_)
                      refine lv_aload_n hx hb dX5_step_199 rfl (lv_at hl 0 rfl) ?_
                      refine va_get (D := G) (ci := 5) (v := .ref a1) (C := RX5) (T := TX5) (N := 8) hx hb hts (by decide +kernel) hown hK.1 hP 0 rfl rfl 0 (by decide) (hts (.fieldLink RX5 22 "CardHolder$Reader" "tape" "LCardHolder$Tape;") (by decide +kernel)) (fun _ h9 => h9) rfl dX5_step_200 ?_
                      refine lv_aload_n hx hb dX5_step_203 rfl (lv_at hl 0 rfl) ?_
                      refine va_get (D := G) (ci := 5) (v := .int v158_0_6) (C := RX5) (T := TX5) (N := 8) hx hb hts (by decide +kernel) hown hK.1 hP 0 rfl rfl 6 (by decide) (hts (.fieldLink RX5 32 "CardHolder$Reader" "next" "I") (by decide +kernel)) (fun _ h9 => h9) rfl dX5_step_204 ?_
                      refine ro_calli (va_runV (As := [.int v158_0_6]) (rest := [.int z198, .int 100000, .ref a0]) ⟨hx, hb, hml, hown, hts⟩ (a_X8_at l G ct a1 a2 n1_1 f2 v158_0_6 (rg_w (c := 0) (d := 900) h_8 (by decide))) (cwV 1 hts gX5_step_X8_at rfl rfl rfl (by decide +kernel) ⟨Nat.le_of_ble_eq_true rfl, Nat.le_of_ble_eq_true rfl⟩) (ro_preV 8 0 hK (hP.sub [1, 2] rfl) rfl rfl) rfl rfl hl.1 rfl (lv_room (Nat.le_of_ble_eq_true rfl)) dX5_step_207 ⟨Nat.zero_le _, Nat.zero_le _⟩) hS hP (fun r207 H locs wr207 hP hS => ?_)
                      obtain ⟨p_30, p_31, p_32, p_33, p_34, -⟩ := wr207
                      refine lv_iadd hx hb dX5_step_210 ?_
                      refine nm_0 (fun z210 => ?_)
                      refine lv_bipush (v := 48) hx hb dX5_step_211 (by decide) ?_
                      refine lv_isub hx hb dX5_step_213 ?_
                      refine nm_0 (fun z213 => ?_)
                      refine va_mmin hx hb (hml.trans hl.1.symm) hown (hts (.methodLink RX5 158 Lib.Math.min.name) (by decide +kernel)) (hts (.static Lib.Math.min.name) (by decide +kernel)) (hts (.initialized "java/lang/Math") (by decide +kernel)) (hts (.code Lib.Math.min.name Lib.Math.min.code 2 (some .int)) (List.mem_of_getElem? (i := 11) rfl)) (Nat.le_of_ble_eq_true rfl) (Nat.le_of_ble_eq_true rfl) (Nat.zero_le _) (Nat.zero_le _) dX5_step_214 ?_
                      refine nm_min (e1 := (-2147483648)) (f := 100000) (rgn 100000 (x := 100000) (by decide)) (rg_t z213) (by decide) (fun z214 hz214 => ?_)
                      refine va_put (D := G) (ci := 5) (v := .int z214) (ty := .int) (C := RX5) (T := TX5) (N := 8) hx hb hts (by decide +kernel) tyX5 tyX5_ok nmX5 hown hK.1 hP hD hS 0 rfl rfl 7 (by decide) (hts (.fieldLink RX5 105 "CardHolder$Reader" "value" "I") (by decide +kernel)) (fun _ h9 => h9) rfl (by decide +kernel) rfl rfl (Nat.le_of_ble_eq_true rfl) dX5_step_217 (fun H locs hP hD hS => ?_)
                      refine lv_aload_n hx hb dX5_step_220 rfl (lv_at hl 0 rfl) ?_
                      refine lv_dup hx hb dX5_step_221 rfl ?_
                      refine va_get (D := G) (ci := 5) (v := .int v158_0_6) (C := RX5) (T := TX5) (N := 8) hx hb hts (by decide +kernel) hown hK.1 hP 0 rfl rfl 6 (by decide) (hts (.fieldLink RX5 32 "CardHolder$Reader" "next" "I") (by decide +kernel)) (fun _ h9 => h9) rfl dX5_step_222 ?_
                      refine lv_iconst (v := 1) hx hb dX5_step_225 (by decide) ?_
                      refine lv_iadd hx hb dX5_step_226 ?_
                      refine nm_add (e1 := 1) (f := 900) h_19 (rgn 1 (x := 1) (by decide)) (by decide) (fun z226 hz226 ez226 => ?_)
                      replace ez226 := eqc_r ez226 (c := 1) (by decide)
                      refine va_put (D := G) (ci := 5) (v := .int z226) (ty := .int) (C := RX5) (T := TX5) (N := 8) hx hb hts (by decide +kernel) tyX5 tyX5_ok nmX5 hown hK.1 hP hD hS 0 rfl rfl 6 (by decide) (hts (.fieldLink RX5 32 "CardHolder$Reader" "next" "I") (by decide +kernel)) (fun _ h9 => h9) rfl (by decide +kernel) rfl rfl (Nat.le_of_ble_eq_true rfl) dX5_step_227 (fun H locs hP hD hS => ?_)
                      refine lv_goto (tgt := 158) hx hb dX5_step_230 (by decide) ?_
                      exact ih158 z226 z214 _ _ ls (by have q := hn158; have := ez226; omega) (rg_w (c := 0) (d := 900) hz226 (by decide)) hz214 hP hD hS (lv_sub hl [0, 1] rfl)
              exact j158 4294967296 v8_0_5 (0 : Int32) _ _ ls (ms_e v8_0_5) (rg_w (c := 0) (d := 900) h_7 (by decide)) (rg_w (c := (-2147483648)) (d := 100000) (rgn 0 (x := 0) (by decide)) (by decide)) hP hD hS (lv_sub hl [1, 0] rfl)
          · have h_35 : rg 1 1 r91 := r_ne_lo_i c94 p_9 (by decide) (by decide)
            have h_36 : rg 97 122 r73 := (p_10 (rne h_35 (y := 0) (c := 0) (by decide) (by decide)))
            refine lv_aload_n hx hb dX5_step_97 rfl (lv_at hl 1 rfl) ?_
            refine lv_iconst (v := 1) hx hb dX5_step_98 (by decide) ?_
            refine va_put (D := G) (ci := 5) (v := .int 1) (ty := .int) (C := RX5) (T := TX5) (N := 8) hx hb hts (by decide +kernel) tyX5 tyX5_ok nmX5 hown hK.1 hP hD hS 0 rfl rfl 4 (by decide) (hts (.fieldLink RX5 38 "CardHolder$Reader" "kind" "I") (by decide +kernel)) (fun _ h9 => h9) rfl (by decide +kernel) rfl rfl (Nat.le_of_ble_eq_true rfl) dX5_step_99 (fun H locs hP hD hS => ?_)
            have j102 : ∀ (n : Nat) (v102_0_6 : Int32) (H : Heap) (locs : List Loc) (ls : Array Slot), 2147483648 ≤ v102_0_6.toInt + (n : Int) → rg 0 900 v102_0_6 → va_P G vwCl [(a0, .inr (5, [.ref a1, .ref a3, .int n0_2, .int n0_3, .int 1, .int v8_0_5, .int v102_0_6, .int 0])), (a1, .inr (8, [.ref a2, .int n1_1])), (a2, .inl (ct 1, 900, .inl f2))] H → va_D A [(a0, .inr (5, [.ref a1, .ref a3, .int n0_2, .int n0_3, .int 1, .int v8_0_5, .int v102_0_6, .int 0])), (a1, .inr (8, [.ref a2, .int n1_1])), (a2, .inl (ct 1, 900, .inl f2))] → va_S A s.heap H locs → lv_has ls 2 [(0, .ref a0), (1, .int r73)] → W p l e (headSpec wsX5_step ({ frames := 1, cells := 0, slots := 0, locals := 60 })).room s m ([.ref a0] : List Value).toArray below meth c H locs 0 0 (MQ below (va_Qv (fun u : SU => rg 0 4 (u.1 0) ∧ rg (-2147483648) 100000 (u.1 3) ∧ True) (fun u t => va_P G vwCl ((fun u : SU => [(a0, .inr (5, [.ref a1, .ref a3, .int n0_2, .int n0_3, .int (u.1 0), .int (u.1 1), .int (u.1 2), .int (u.1 3)])), (a1, .inr (8, [.ref a2, .int n1_1])), (a2, .inl (ct 1, 900, .inl f2))]) u) t.heap) A) ([.ref a0] : List Value).toArray s 0 0 A) (F0 m 102 ls []) := by
              intro n
              induction n with
              | zero => intro v102_0_6 H locs ls hn102 hv102_0_6 hP hD hS hl; exact absurd hn102 (by have := Int32.toInt_lt v102_0_6; have := Int32.le_toInt v102_0_6; omega)
              | succ n ih102 =>
                intro v102_0_6 H locs ls hn102 hv102_0_6 hP hD hS hl
                refine lv_aload_n hx hb dX5_step_102 rfl (lv_at hl 0 rfl) ?_
                refine va_get (D := G) (ci := 5) (v := .int v102_0_6) (C := RX5) (T := TX5) (N := 8) hx hb hts (by decide +kernel) hown hK.1 hP 0 rfl rfl 6 (by decide) (hts (.fieldLink RX5 32 "CardHolder$Reader" "next" "I") (by decide +kernel)) (fun _ h9 => h9) rfl dX5_step_103 ?_
                refine lv_aload_n hx hb dX5_step_106 rfl (lv_at hl 0 rfl) ?_
                refine va_get (D := G) (ci := 5) (v := .ref a1) (C := RX5) (T := TX5) (N := 8) hx hb hts (by decide +kernel) hown hK.1 hP 0 rfl rfl 0 (by decide) (hts (.fieldLink RX5 22 "CardHolder$Reader" "tape" "LCardHolder$Tape;") (by decide +kernel)) (fun _ h9 => h9) rfl dX5_step_107 ?_
                refine va_get (D := G) (ci := 8) (v := .int n1_1) (C := RX8) (T := TX8) (N := 2) hx hb hts (by decide +kernel) hown hK.1 hP 1 rfl rfl 1 (by decide) (hts (.fieldLink RX5 145 "CardHolder$Tape" "size" "I") (by decide +kernel)) (fun _ h9 => h9) rfl dX5_step_110 ?_
                refine lv_icmp_ge (tgt := 258) hx hb dX5_step_113 (by decide) (fun c113 => ?_) (fun c113 => ?_)
                · have h_37 : rg 1 900 v102_0_6 := r_le_r_i c113 h_8 hv102_0_6
                  exact W.vret hx hb hr (fun t ht hW => ⟨⟨(fun k => ([1, v8_0_5, v102_0_6, 0] : List Int32).getD k 0, fun k => ([] : List (Nat → Int32)).getD k (fun _ => 0), fun k => ([] : List (Nat → Int64)).getD k (fun _ => 0)), rfl, ⟨(rg_w (c := 0) (d := 4) (rgn 1 (x := 1) (by decide)) (by decide)), (rg_w (c := (-2147483648)) (d := 100000) (rgn 0 (x := 0) (by decide)) (by decide)), trivial⟩, hp_at ht hP⟩, hS.F ht⟩) hS.2.2 dX5_step_258
                · have h_38 : rg 0 899 v102_0_6 := r_lt_l_i (nle_i c113) hv102_0_6 h_8 (by decide)
                  refine lv_aload_n hx hb dX5_step_116 rfl (lv_at hl 0 rfl) ?_
                  refine va_get (D := G) (ci := 5) (v := .ref a1) (C := RX5) (T := TX5) (N := 8) hx hb hts (by decide +kernel) hown hK.1 hP 0 rfl rfl 0 (by decide) (hts (.fieldLink RX5 22 "CardHolder$Reader" "tape" "LCardHolder$Tape;") (by decide +kernel)) (fun _ h9 => h9) rfl dX5_step_117 ?_
                  refine lv_aload_n hx hb dX5_step_120 rfl (lv_at hl 0 rfl) ?_
                  refine va_get (D := G) (ci := 5) (v := .int v102_0_6) (C := RX5) (T := TX5) (N := 8) hx hb hts (by decide +kernel) hown hK.1 hP 0 rfl rfl 6 (by decide) (hts (.fieldLink RX5 32 "CardHolder$Reader" "next" "I") (by decide +kernel)) (fun _ h9 => h9) rfl dX5_step_121 ?_
                  refine ro_calli (va_runV (As := [.int v102_0_6]) (rest := []) ⟨hx, hb, hml, hown, hts⟩ (a_X8_at l G ct a1 a2 n1_1 f2 v102_0_6 (rg_w (c := 0) (d := 900) h_8 (by decide))) (cwV 1 hts gX5_step_X8_at rfl rfl rfl (by decide +kernel) ⟨Nat.le_of_ble_eq_true rfl, Nat.le_of_ble_eq_true rfl⟩) (ro_preV 8 0 hK (hP.sub [1, 2] rfl) rfl rfl) rfl rfl hl.1 rfl (lv_room (Nat.le_of_ble_eq_true rfl)) dX5_step_124 ⟨Nat.zero_le _, Nat.zero_le _⟩) hS hP (fun r124 H locs wr124 hP hS => ?_)
                  obtain ⟨p_39, p_40, p_41, p_42, p_43, -⟩ := wr124
                  refine ro_calli (va_runS (As := [.int r124]) (rest := []) ⟨hx, hb, hml, hown, hts⟩ (a_X5_isLetter l G ct r124) (va_cwS 1 hts gX5_step_X5_isLetter rfl rfl rfl (by decide +kernel) ⟨Nat.le_of_ble_eq_true rfl, Nat.le_of_ble_eq_true rfl⟩) (ro_pre hK (hP.sub [] rfl)) rfl rfl hl.1 rfl (lv_room (Nat.le_of_ble_eq_true rfl)) dX5_step_127 ⟨Nat.zero_le _, Nat.zero_le _⟩) hS hP (fun r127 H locs wr127 hP hS => ?_)
                  obtain ⟨p_44, p_45, -⟩ := wr127
                  refine lv_if_eq (tgt := 258) hx hb dX5_step_130 (by decide) (fun c130 => ?_) (fun c130 => ?_)
                  · have h_46 : rg 0 0 r127 := r_eq_l_i (e := 0) (f := 0) c130 p_44 (rgn 0 (x := 0) (by decide)) (by decide)
                    exact W.vret hx hb hr (fun t ht hW => ⟨⟨(fun k => ([1, v8_0_5, v102_0_6, 0] : List Int32).getD k 0, fun k => ([] : List (Nat → Int32)).getD k (fun _ => 0), fun k => ([] : List (Nat → Int64)).getD k (fun _ => 0)), rfl, ⟨(rg_w (c := 0) (d := 4) (rgn 1 (x := 1) (by decide)) (by decide)), (rg_w (c := (-2147483648)) (d := 100000) (rgn 0 (x := 0) (by decide)) (by decide)), trivial⟩, hp_at ht hP⟩, hS.F ht⟩) hS.2.2 dX5_step_258
                  · have h_47 : rg 1 1 r127 := r_ne_lo_i c130 p_44 (by decide) (by decide)
                    have h_48 : rg 97 122 r124 := (p_45 (rne h_47 (y := 0) (c := 0) (by decide) (by decide)))
                    refine lv_aload_n hx hb dX5_step_133 rfl (lv_at hl 0 rfl) ?_
                    refine lv_dup hx hb dX5_step_134 rfl ?_
                    refine va_get (D := G) (ci := 5) (v := .int v102_0_6) (C := RX5) (T := TX5) (N := 8) hx hb hts (by decide +kernel) hown hK.1 hP 0 rfl rfl 6 (by decide) (hts (.fieldLink RX5 32 "CardHolder$Reader" "next" "I") (by decide +kernel)) (fun _ h9 => h9) rfl dX5_step_135 ?_
                    refine lv_iconst (v := 1) hx hb dX5_step_138 (by decide) ?_
                    refine lv_iadd hx hb dX5_step_139 ?_
                    refine nm_add (e1 := 1) (f := 900) h_38 (rgn 1 (x := 1) (by decide)) (by decide) (fun z139 hz139 ez139 => ?_)
                    replace ez139 := eqc_r ez139 (c := 1) (by decide)
                    refine va_put (D := G) (ci := 5) (v := .int z139) (ty := .int) (C := RX5) (T := TX5) (N := 8) hx hb hts (by decide +kernel) tyX5 tyX5_ok nmX5 hown hK.1 hP hD hS 0 rfl rfl 6 (by decide) (hts (.fieldLink RX5 32 "CardHolder$Reader" "next" "I") (by decide +kernel)) (fun _ h9 => h9) rfl (by decide +kernel) rfl rfl (Nat.le_of_ble_eq_true rfl) dX5_step_140 (fun H locs hP hD hS => ?_)
                    refine lv_goto (tgt := 102) hx hb dX5_step_143 (by decide) ?_
                    exact ih102 z139 _ _ ls (by have q := hn102; have := ez139; omega) (rg_w (c := 0) (d := 900) hz139 (by decide)) hP hD hS (lv_sub hl [0, 1] rfl)
            exact j102 4294967296 v8_0_5 _ _ ls (ms_e v8_0_5) (rg_w (c := 0) (d := 900) h_7 (by decide)) hP hD hS (lv_sub hl [1, 0] rfl)
        · have h_49 : rg (-1) (-1) r73 := r_eq_l_i (e := (-1)) (f := (-1)) c79 p_1 (rgn (-1) (x := (-1)) (by decide)) (by decide)
          refine lv_aload_n hx hb dX5_step_82 rfl (lv_at hl 1 rfl) ?_
          refine lv_iconst (v := 0) hx hb dX5_step_83 (by decide) ?_
          refine va_put (D := G) (ci := 5) (v := .int 0) (ty := .int) (C := RX5) (T := TX5) (N := 8) hx hb hts (by decide +kernel) tyX5 tyX5_ok nmX5 hown hK.1 hP hD hS 0 rfl rfl 4 (by decide) (hts (.fieldLink RX5 38 "CardHolder$Reader" "kind" "I") (by decide +kernel)) (fun _ h9 => h9) rfl (by decide +kernel) rfl rfl (Nat.le_of_ble_eq_true rfl) dX5_step_84 (fun H locs hP hD hS => ?_)
          refine lv_goto (tgt := 258) hx hb dX5_step_87 (by decide) ?_
          exact W.vret hx hb hr (fun t ht hW => ⟨⟨(fun k => ([0, v8_0_5, v8_0_5, 0] : List Int32).getD k 0, fun k => ([] : List (Nat → Int32)).getD k (fun _ => 0), fun k => ([] : List (Nat → Int64)).getD k (fun _ => 0)), rfl, ⟨(rg_w (c := 0) (d := 4) (rgn 0 (x := 0) (by decide)) (by decide)), (rg_w (c := (-2147483648)) (d := 100000) (rgn 0 (x := 0) (by decide)) (by decide)), trivial⟩, hp_at ht hP⟩, hS.F ht⟩) hS.2.2 dX5_step_258
      refine lv_icmp_ge (tgt := 52) hx hb dX5_step_19 (by decide) (fun c19 => ?_) (fun c19 => ?_)
      · have h_50 : rg 0 2147483647 v8_0_5 := r_le_r_i c19 hp_n1_1 (rg_t v8_0_5)
        exact j52 _ _ ls hP hD hS (lv_sub hl [0] rfl)
      · have h_51 : rg (-2147483648) 899 v8_0_5 := r_lt_l_i (nle_i c19) (rg_t v8_0_5) hp_n1_1 (by decide)
        refine lv_aload_n hx hb dX5_step_22 rfl (lv_at hl 0 rfl) ?_
        refine va_get (D := G) (ci := 5) (v := .ref a1) (C := RX5) (T := TX5) (N := 8) hx hb hts (by decide +kernel) hown hK.1 hP 0 rfl rfl 0 (by decide) (hts (.fieldLink RX5 22 "CardHolder$Reader" "tape" "LCardHolder$Tape;") (by decide +kernel)) (fun _ h9 => h9) rfl dX5_step_23 ?_
        refine lv_aload_n hx hb dX5_step_26 rfl (lv_at hl 0 rfl) ?_
        refine va_get (D := G) (ci := 5) (v := .int v8_0_5) (C := RX5) (T := TX5) (N := 8) hx hb hts (by decide +kernel) hown hK.1 hP 0 rfl rfl 5 (by decide) (hts (.fieldLink RX5 127 "CardHolder$Reader" "place" "I") (by decide +kernel)) (fun _ h9 => h9) rfl dX5_step_27 ?_
        refine ro_calli (va_runV (As := [.int v8_0_5]) (rest := []) ⟨hx, hb, hml, hown, hts⟩ (a_X8_at l G ct a1 a2 n1_1 f2 v8_0_5 hp_n1_1) (cwV 1 hts gX5_step_X8_at rfl rfl rfl (by decide +kernel) ⟨Nat.le_of_ble_eq_true rfl, Nat.le_of_ble_eq_true rfl⟩) (ro_preV 8 0 hK (hP.sub [1, 2] rfl) rfl rfl) rfl rfl hl.1 rfl (lv_room (Nat.le_of_ble_eq_true rfl)) dX5_step_30 ⟨Nat.zero_le _, Nat.zero_le _⟩) hS hP (fun r30 H locs wr30 hP hS => ?_)
        obtain ⟨p_52, p_53, p_54, p_55, p_56, -⟩ := wr30
        refine ro_calli (va_runS (As := [.int r30]) (rest := []) ⟨hx, hb, hml, hown, hts⟩ (a_X5_isBlank l G ct r30) (va_cwS 1 hts gX5_step_X5_isBlank rfl rfl rfl (by decide +kernel) ⟨Nat.le_of_ble_eq_true rfl, Nat.le_of_ble_eq_true rfl⟩) (ro_pre hK (hP.sub [] rfl)) rfl rfl hl.1 rfl (lv_room (Nat.le_of_ble_eq_true rfl)) dX5_step_33 ⟨Nat.zero_le _, Nat.zero_le _⟩) hS hP (fun r33 H locs wr33 hP hS => ?_)
        obtain ⟨p_57, -⟩ := wr33
        refine lv_if_eq (tgt := 52) hx hb dX5_step_36 (by decide) (fun c36 => ?_) (fun c36 => ?_)
        · have h_58 : rg 0 0 r33 := r_eq_l_i (e := 0) (f := 0) c36 p_57 (rgn 0 (x := 0) (by decide)) (by decide)
          exact j52 _ _ ls hP hD hS (lv_sub hl [0] rfl)
        · have h_59 : rg 1 1 r33 := r_ne_lo_i c36 p_57 (by decide) (by decide)
          refine lv_aload_n hx hb dX5_step_39 rfl (lv_at hl 0 rfl) ?_
          refine lv_dup hx hb dX5_step_40 rfl ?_
          refine va_get (D := G) (ci := 5) (v := .int v8_0_5) (C := RX5) (T := TX5) (N := 8) hx hb hts (by decide +kernel) hown hK.1 hP 0 rfl rfl 5 (by decide) (hts (.fieldLink RX5 127 "CardHolder$Reader" "place" "I") (by decide +kernel)) (fun _ h9 => h9) rfl dX5_step_41 ?_
          refine lv_iconst (v := 1) hx hb dX5_step_44 (by decide) ?_
          refine lv_iadd hx hb dX5_step_45 ?_
          refine nm_add (e1 := (-2147483647)) (f := 900) h_51 (rgn 1 (x := 1) (by decide)) (by decide) (fun z45 hz45 ez45 => ?_)
          replace ez45 := eqc_r ez45 (c := 1) (by decide)
          refine va_put (D := G) (ci := 5) (v := .int z45) (ty := .int) (C := RX5) (T := TX5) (N := 8) hx hb hts (by decide +kernel) tyX5 tyX5_ok nmX5 hown hK.1 hP hD hS 0 rfl rfl 5 (by decide) (hts (.fieldLink RX5 127 "CardHolder$Reader" "place" "I") (by decide +kernel)) (fun _ h9 => h9) rfl (by decide +kernel) rfl rfl (Nat.le_of_ble_eq_true rfl) dX5_step_46 (fun H locs hP hD hS => ?_)
          refine lv_goto (tgt := 8) hx hb dX5_step_49 (by decide) ?_
          exact ih8 z45 _ _ ls (by have q := hn8; have := ez45; omega) hP hD hS (lv_sub hl [0] rfl)
  exact j8 4294967296 n0_6 _ _ ls (ms_e n0_6) hP hD hS (lv_sub hl [0] rfl)

set_option maxHeartbeats 4000000 in
set_option maxRecDepth 100000 in
theorem a_X5_isWord (l : Launch) (G : va_G) (ct : Nat → ClassId) (a0 : Nat) (a1 : Nat) (a3 : Nat) (n0_2 : Int32) (n0_3 : Int32) (n0_4 : Int32) (n0_5 : Int32) (n0_6 : Int32) (n0_7 : Int32) (a2 : Nat) (n1_1 : Int32) (f2 : Nat → Int32) (adK : Nat → Nat) (adV : Nat → Nat) (w : Nat) (hw : w < 9) (hp_n1_1 : rg 0 900 n1_1) : Met l yX5_isWord wsX5_isWord ({ frames := 6, cells := 0, slots := 0, locals := 166 }) (va_Pc [.ref a0, .ref (adK w)] (roSP G ct adK adV [(a0, .inr (5, [.ref a1, .ref a3, .int n0_2, .int n0_3, .int n0_4, .int n0_5, .int n0_6, .int n0_7])), (a1, .inr (8, [.ref a2, .int n1_1])), (a2, .inl (ct 1, 900, .inl f2))])) (roQ (fun r => rg 0 1 r ∧ (¬ r = 0 → rg 1 1 n0_4) ∧ True)) 0 0 no := by
  refine Met.ofW (cc := cX5_isWord) (maxL := 3) (ret := (some .boolean)) (by decide) rfl ?_
  intro p e s m args below meth c s₁ B hml hv
  obtain ⟨rfl, hP, hK, hZ⟩ := hv
  have hx := B.exec
  have hb := B.bytes
  have hr := B.returns
  have hts := atoms_spec (ws := wsX5_isWord) B.pre
  have hown : s.vm.findClass RX5 = some m.cls := findClass_of_methodNamed B.named
  have hlocks := B.notSynchronized
  have hS : va_S no s.heap s.heap [] := va_S.rf
  have hl := lv_entry ([.ref a0, .ref (adK w)]) (n := 3) (Nat.le_of_ble_eq_true rfl)
  rw [lg_entry_eq]
  generalize (lg_sl ([.ref a0, .ref (adK w)]) ++ List.replicate (3 - (lg_sl ([.ref a0, .ref (adK w)])).length) Slot.unset).toArray = ls at hl ⊢
  have hl : lv_has ls 3 [(0, .ref a0), (1, .ref (adK w))] := hl
  refine lv_aload_n hx hb dX5_isWord_0 rfl (lv_at hl 0 rfl) ?_
  refine va_get (D := G) (ci := 5) (v := .int n0_4) (C := RX5) (T := TX5) (N := 8) hx hb hts (by decide +kernel) hown hK.1 hP 0 rfl rfl 4 (by decide) (hts (.fieldLink RX5 38 "CardHolder$Reader" "kind" "I") (by decide +kernel)) (fun _ h9 => h9) rfl dX5_isWord_1 ?_
  refine lv_iconst (v := 1) hx hb dX5_isWord_4 (by decide) ?_
  refine lv_icmp_ne (tgt := 24) hx hb dX5_isWord_5 (by decide) (fun c5 => ?_) (fun c5 => ?_)
  · refine lv_iconst (v := 0) hx hb dX5_isWord_24 (by decide) ?_
    exact W.zret (v := 0) (ty := .boolean) hx hb hr (rfl) (fun t ht hW => ⟨⟨0, (), rfl, ⟨(rg_w (c := 0) (d := 1) (rgn 0 (x := 0) (by decide)) (by decide)), (fun hq => absurd (req (rgn 0 (x := 0) (by decide)) (y := 0) (by decide)) hq), trivial⟩, trivial⟩, hS.F ht⟩) hS.2.2 dX5_isWord_25
  · have h_1 : rg 1 1 n0_4 := r_eq_l_i (e := 1) (f := 1) c5 (rg_t n0_4) (rgn 1 (x := 1) (by decide)) (by decide)
    refine lv_aload_n hx hb dX5_isWord_8 rfl (lv_at hl 0 rfl) ?_
    refine va_get (D := G) (ci := 5) (v := .int n0_6) (C := RX5) (T := TX5) (N := 8) hx hb hts (by decide +kernel) hown hK.1 hP 0 rfl rfl 6 (by decide) (hts (.fieldLink RX5 32 "CardHolder$Reader" "next" "I") (by decide +kernel)) (fun _ h9 => h9) rfl dX5_isWord_9 ?_
    refine lv_aload_n hx hb dX5_isWord_12 rfl (lv_at hl 0 rfl) ?_
    refine va_get (D := G) (ci := 5) (v := .int n0_5) (C := RX5) (T := TX5) (N := 8) hx hb hts (by decide +kernel) hown hK.1 hP 0 rfl rfl 5 (by decide) (hts (.fieldLink RX5 127 "CardHolder$Reader" "place" "I") (by decide +kernel)) (fun _ h9 => h9) rfl dX5_isWord_13 ?_
    refine lv_isub hx hb dX5_isWord_16 ?_
    refine nm_0 (fun z16 => ?_)
    refine lv_aload_n hx hb dX5_isWord_17 rfl (lv_at hl 1 rfl) ?_
    refine ro_calli (va_runV (As := []) (rest := [.int z16]) ⟨hx, hb, hml, hown, hts⟩ (t_length l G ct adK adV w hw) (cwV 0 hts gX5_isWord_J0_length_8abf5 rfl rfl rfl (by decide +kernel) ⟨Nat.le_of_ble_eq_true rfl, Nat.le_of_ble_eq_true rfl⟩) (roS_preT hw hK (hP.sub [] rfl) ((hZ.kept hS.2.1).narrow (fun q h => h.elim))) rfl rfl hl.1 rfl (lv_room (Nat.le_of_ble_eq_true rfl)) dX5_isWord_18 ⟨Nat.zero_le _, Nat.zero_le _⟩) hS hP (fun r18 H locs wr18 hP hS => ?_)
    have hr18 : rg 0 6 r18 := by rw [wr18]; exact len_rg hw
    refine lv_icmp_eq (tgt := 26) hx hb dX5_isWord_21 (by decide) (fun c21 => ?_) (fun c21 => ?_)
    · have h_2 : rg 0 6 z16 := r_eq_l_i (e := 0) (f := 6) c21 (rg_t z16) hr18 (by decide)
      refine lv_iconst (v := 0) hx hb dX5_isWord_26 (by decide) ?_
      refine lv_istore_n (lv' := [(2, .int 0), (0, .ref a0), (1, .ref (adK w))]) hx hb dX5_isWord_27 rfl hl (by decide) rfl (fun ls hl => ?_)
      have j28 : ∀ (n : Nat) (x28_2 : Int32) (H : Heap) (locs : List Loc) (ls : Array Slot), 2147483648 ≤ x28_2.toInt + (n : Int) → rg 0 6 x28_2 → va_P G vwCl [(a0, .inr (5, [.ref a1, .ref a3, .int n0_2, .int n0_3, .int n0_4, .int n0_5, .int n0_6, .int n0_7])), (a1, .inr (8, [.ref a2, .int n1_1])), (a2, .inl (ct 1, 900, .inl f2))] H → va_S no s.heap H locs → lv_has ls 3 [(0, .ref a0), (1, .ref (adK w)), (2, .int x28_2)] → W p l e (headSpec wsX5_isWord ({ frames := 6, cells := 0, slots := 0, locals := 166 })).room s m ([.ref a0, .ref (adK w)] : List Value).toArray below meth c H locs 0 0 (MQ below (roQ (fun r => rg 0 1 r ∧ (¬ r = 0 → rg 1 1 n0_4) ∧ True)) ([.ref a0, .ref (adK w)] : List Value).toArray s 0 0 no) (F0 m 28 ls []) := by
        intro n
        induction n with
        | zero => intro x28_2 H locs ls hn28 hx28_2 hP hS hl; exact absurd hn28 (by have := Int32.toInt_lt x28_2; have := Int32.le_toInt x28_2; omega)
        | succ n ih28 =>
          intro x28_2 H locs ls hn28 hx28_2 hP hS hl
          refine lv_iload_n hx hb dX5_isWord_28 rfl (lv_at hl 2 rfl) ?_
          refine lv_aload_n hx hb dX5_isWord_29 rfl (lv_at hl 1 rfl) ?_
          refine ro_calli (va_runV (As := []) (rest := [.int x28_2]) ⟨hx, hb, hml, hown, hts⟩ (t_length l G ct adK adV w hw) (cwV 0 hts gX5_isWord_J0_length_8abf5 rfl rfl rfl (by decide +kernel) ⟨Nat.le_of_ble_eq_true rfl, Nat.le_of_ble_eq_true rfl⟩) (roS_preT hw hK (hP.sub [] rfl) ((hZ.kept hS.2.1).narrow (fun q h => h.elim))) rfl rfl hl.1 rfl (lv_room (Nat.le_of_ble_eq_true rfl)) dX5_isWord_30 ⟨Nat.zero_le _, Nat.zero_le _⟩) hS hP (fun r30 H locs wr30 hP hS => ?_)
          have hr30 : rg 0 6 r30 := by rw [wr30]; exact len_rg hw
          refine lv_icmp_ge (tgt := 65) hx hb dX5_isWord_33 (by decide) (fun c33 => ?_) (fun c33 => ?_)
          · refine lv_iconst (v := 1) hx hb dX5_isWord_65 (by decide) ?_
            exact W.zret (v := 1) (ty := .boolean) hx hb hr (rfl) (fun t ht hW => ⟨⟨1, (), rfl, ⟨(rg_w (c := 0) (d := 1) (rgn 1 (x := 1) (by decide)) (by decide)), (fun _ => h_1), trivial⟩, trivial⟩, hS.F ht⟩) hS.2.2 dX5_isWord_66
          · have h_3 : rg 0 5 x28_2 := r_lt_l_i (nle_i c33) hx28_2 hr30 (by decide)
            have h_4 : rg 1 6 r30 := r_lt_r_i (nle_i c33) hx28_2 hr30 (by decide)
            refine lv_aload_n hx hb dX5_isWord_36 rfl (lv_at hl 0 rfl) ?_
            refine va_get (D := G) (ci := 5) (v := .ref a1) (C := RX5) (T := TX5) (N := 8) hx hb hts (by decide +kernel) hown hK.1 hP 0 rfl rfl 0 (by decide) (hts (.fieldLink RX5 22 "CardHolder$Reader" "tape" "LCardHolder$Tape;") (by decide +kernel)) (fun _ h9 => h9) rfl dX5_isWord_37 ?_
            refine lv_aload_n hx hb dX5_isWord_40 rfl (lv_at hl 0 rfl) ?_
            refine va_get (D := G) (ci := 5) (v := .int n0_5) (C := RX5) (T := TX5) (N := 8) hx hb hts (by decide +kernel) hown hK.1 hP 0 rfl rfl 5 (by decide) (hts (.fieldLink RX5 127 "CardHolder$Reader" "place" "I") (by decide +kernel)) (fun _ h9 => h9) rfl dX5_isWord_41 ?_
            refine lv_iload_n hx hb dX5_isWord_44 rfl (lv_at hl 2 rfl) ?_
            refine lv_iadd hx hb dX5_isWord_45 ?_
            refine nm_0 (fun z45 => ?_)
            refine ro_calli (va_runV (As := [.int z45]) (rest := []) ⟨hx, hb, hml, hown, hts⟩ (a_X8_at l G ct a1 a2 n1_1 f2 z45 hp_n1_1) (cwV 1 hts gX5_isWord_X8_at rfl rfl rfl (by decide +kernel) ⟨Nat.le_of_ble_eq_true rfl, Nat.le_of_ble_eq_true rfl⟩) (ro_preV 8 0 hK (hP.sub [1, 2] rfl) rfl rfl) rfl rfl hl.1 rfl (lv_room (Nat.le_of_ble_eq_true rfl)) dX5_isWord_46 ⟨Nat.zero_le _, Nat.zero_le _⟩) hS hP (fun r46 H locs wr46 hP hS => ?_)
            obtain ⟨p_5, p_6, p_7, p_8, p_9, -⟩ := wr46
            refine lv_aload_n hx hb dX5_isWord_49 rfl (lv_at hl 1 rfl) ?_
            refine lv_iload_n hx hb dX5_isWord_50 rfl (lv_at hl 2 rfl) ?_
            refine ro_calli (va_runV (As := [.int x28_2]) (rest := [.int r46]) ⟨hx, hb, hml, hown, hts⟩ (t_charAt l G ct adK adV w hw x28_2 (len_in hw wr30 c33 (rg_w (c := 0) (d := 2147483647) h_3 (by decide)).1)) (cwV 1 hts gX5_isWord_J0_charAt_5068e rfl rfl rfl (by decide +kernel) ⟨Nat.le_of_ble_eq_true rfl, Nat.le_of_ble_eq_true rfl⟩) (roS_preT hw hK (hP.sub [] rfl) ((hZ.kept hS.2.1).narrow (fun q h => h.elim))) rfl rfl hl.1 rfl (lv_room (Nat.le_of_ble_eq_true rfl)) dX5_isWord_51 ⟨Nat.zero_le _, Nat.zero_le _⟩) hS hP (fun r51 H locs wr51 hP hS => ?_)
            refine lv_icmp_eq (tgt := 59) hx hb dX5_isWord_54 (by decide) (fun c54 => ?_) (fun c54 => ?_)
            · have h_10 : rg (-1) 255 r51 := r_eq_r_i (e := (-1)) (f := 255) c54 p_5 (rg_t r51) (by decide)
              obtain ⟨z59, qz59⟩ : ∃ y : Int32, y = x28_2 + Int32.ofInt 1 := ⟨_, rfl⟩
              obtain ⟨hz59, ez59⟩ := inc_z (e := 1) (f := 6) h_3 qz59 (by decide)
              refine lv_iinc (v := z59) (lv' := [(2, .int z59), (0, .ref a0), (1, .ref (adK w))]) hx hb dX5_isWord_59 hl (k := 2) rfl (qz59.symm) (by decide) rfl (fun ls hl => ?_)
              refine lv_goto (tgt := 28) hx hb dX5_isWord_62 (by decide) ?_
              exact ih28 z59 _ _ ls (by have q := hn28; have := ez59; omega) (rg_w (c := 0) (d := 6) hz59 (by decide)) hP hS (lv_sub hl [1, 2, 0] rfl)
            · refine lv_iconst (v := 0) hx hb dX5_isWord_57 (by decide) ?_
              exact W.zret (v := 0) (ty := .boolean) hx hb hr (rfl) (fun t ht hW => ⟨⟨0, (), rfl, ⟨(rg_w (c := 0) (d := 1) (rgn 0 (x := 0) (by decide)) (by decide)), (fun _ => h_1), trivial⟩, trivial⟩, hS.F ht⟩) hS.2.2 dX5_isWord_58
      exact j28 4294967296 (0 : Int32) _ _ ls (ms_e (0 : Int32)) (rg_w (c := 0) (d := 6) (rgn 0 (x := 0) (by decide)) (by decide)) hP hS (lv_sub hl [1, 2, 0] rfl)
    · refine lv_iconst (v := 0) hx hb dX5_isWord_24 (by decide) ?_
      exact W.zret (v := 0) (ty := .boolean) hx hb hr (rfl) (fun t ht hW => ⟨⟨0, (), rfl, ⟨(rg_w (c := 0) (d := 1) (rgn 0 (x := 0) (by decide)) (by decide)), (fun _ => h_1), trivial⟩, trivial⟩, hS.F ht⟩) hS.2.2 dX5_isWord_25

set_option maxHeartbeats 4000000 in
set_option maxRecDepth 100000 in
theorem a_X5_takeNumber (l : Launch) (G : va_G) (ct : Nat → ClassId) (a0 : Nat) (a1 : Nat) (a3 : Nat) (n0_2 : Int32) (n0_3 : Int32) (n0_4 : Int32) (n0_5 : Int32) (n0_6 : Int32) (n0_7 : Int32) (a2 : Nat) (n1_1 : Int32) (f2 : Nat → Int32) (p0 : Int32) (p1 : Int32) (hp_n1_1 : rg 0 900 n1_1) : Met l yX5_takeNumber wsX5_takeNumber ({ frames := 2, cells := 0, slots := 0, locals := 81 }) (va_Pc [.ref a0, .int p0, .int p1] (wrP G ct [(a0, .inr (5, [.ref a1, .ref a3, .int n0_2, .int n0_3, .int n0_4, .int n0_5, .int n0_6, .int n0_7])), (a1, .inr (8, [.ref a2, .int n1_1])), (a2, .inl (ct 1, 900, .inl f2))])) (va_Qi (fun (r : Int32) (u : SU) => True) (fun u t => va_P G vwCl ((fun u : SU => [(a0, .inr (5, [.ref a1, .ref a3, .int (u.1 0), .int (u.1 1), .int (u.1 2), .int (u.1 3), .int (u.1 4), .int (u.1 5)])), (a1, .inr (8, [.ref a2, .int n1_1])), (a2, .inl (ct 1, 900, .inl f2))]) u) t.heap) (aset [(a0, .inr (5, [.ref a1, .ref a3, .int n0_2, .int n0_3, .int n0_4, .int n0_5, .int n0_6, .int n0_7])), (a1, .inr (8, [.ref a2, .int n1_1])), (a2, .inl (ct 1, 900, .inl f2))])) 0 0 (aset [(a0, .inr (5, [.ref a1, .ref a3, .int n0_2, .int n0_3, .int n0_4, .int n0_5, .int n0_6, .int n0_7])), (a1, .inr (8, [.ref a2, .int n1_1])), (a2, .inl (ct 1, 900, .inl f2))]) := by
  refine Met.ofW (cc := cX5_takeNumber) (maxL := 4) (ret := (some .int)) (by decide) rfl ?_
  intro p e s m args below meth c s₁ B hml hv
  obtain ⟨rfl, hP, hK, hD0⟩ := hv
  have hx := B.exec
  have hb := B.bytes
  have hr := B.returns
  have hts := atoms_spec (ws := wsX5_takeNumber) B.pre
  have hown : s.vm.findClass RX5 = some m.cls := findClass_of_methodNamed B.named
  have hlocks := B.notSynchronized
  have hD := hD0.aself
  generalize hAe : aset [(a0, .inr (5, [.ref a1, .ref a3, .int n0_2, .int n0_3, .int n0_4, .int n0_5, .int n0_6, .int n0_7])), (a1, .inr (8, [.ref a2, .int n1_1])), (a2, .inl (ct 1, 900, .inl f2))] = A at hD ⊢
  have hS : va_S A s.heap s.heap [] := va_S.rf
  have hl := lv_entry ([.ref a0, .int p0, .int p1]) (n := 4) (Nat.le_of_ble_eq_true rfl)
  rw [lg_entry_eq]
  generalize (lg_sl ([.ref a0, .int p0, .int p1]) ++ List.replicate (4 - (lg_sl ([.ref a0, .int p0, .int p1])).length) Slot.unset).toArray = ls at hl ⊢
  have hl : lv_has ls 4 [(0, .ref a0), (1, .int p0), (2, .int p1)] := hl
  refine lv_aload_n hx hb dX5_takeNumber_0 rfl (lv_at hl 0 rfl) ?_
  refine va_get (D := G) (ci := 5) (v := .int n0_2) (C := RX5) (T := TX5) (N := 8) hx hb hts (by decide +kernel) hown hK.1 hP 0 rfl rfl 2 (by decide) (hts (.fieldLink RX5 29 "CardHolder$Reader" "wrong" "I") (by decide +kernel)) (fun _ h9 => h9) rfl dX5_takeNumber_1 ?_
  refine lv_if_eq (tgt := 9) hx hb dX5_takeNumber_4 (by decide) (fun c4 => ?_) (fun c4 => ?_)
  · have h_1 : rg 0 0 n0_2 := r_eq_l_i (e := 0) (f := 0) c4 (rg_t n0_2) (rgn 0 (x := 0) (by decide)) (by decide)
    refine lv_aload_n hx hb dX5_takeNumber_9 rfl (lv_at hl 0 rfl) ?_
    refine va_get (D := G) (ci := 5) (v := .int n0_4) (C := RX5) (T := TX5) (N := 8) hx hb hts (by decide +kernel) hown hK.1 hP 0 rfl rfl 4 (by decide) (hts (.fieldLink RX5 38 "CardHolder$Reader" "kind" "I") (by decide +kernel)) (fun _ h9 => h9) rfl dX5_takeNumber_10 ?_
    refine lv_iconst (v := 2) hx hb dX5_takeNumber_13 (by decide) ?_
    refine lv_icmp_eq (tgt := 24) hx hb dX5_takeNumber_14 (by decide) (fun c14 => ?_) (fun c14 => ?_)
    · have h_2 : rg 2 2 n0_4 := r_eq_l_i (e := 2) (f := 2) c14 (rg_t n0_4) (rgn 2 (x := 2) (by decide)) (by decide)
      refine lv_aload_n hx hb dX5_takeNumber_24 rfl (lv_at hl 0 rfl) ?_
      refine va_get (D := G) (ci := 5) (v := .int n0_7) (C := RX5) (T := TX5) (N := 8) hx hb hts (by decide +kernel) hown hK.1 hP 0 rfl rfl 7 (by decide) (hts (.fieldLink RX5 105 "CardHolder$Reader" "value" "I") (by decide +kernel)) (fun _ h9 => h9) rfl dX5_takeNumber_25 ?_
      refine lv_iload_n hx hb dX5_takeNumber_28 rfl (lv_at hl 1 rfl) ?_
      have j40 : ∀ (H : Heap) (locs : List Loc) (ls : Array Slot), va_P G vwCl [(a0, .inr (5, [.ref a1, .ref a3, .int n0_2, .int n0_3, .int n0_4, .int n0_5, .int n0_6, .int n0_7])), (a1, .inr (8, [.ref a2, .int n1_1])), (a2, .inl (ct 1, 900, .inl f2))] H → va_D A [(a0, .inr (5, [.ref a1, .ref a3, .int n0_2, .int n0_3, .int n0_4, .int n0_5, .int n0_6, .int n0_7])), (a1, .inr (8, [.ref a2, .int n1_1])), (a2, .inl (ct 1, 900, .inl f2))] → va_S A s.heap H locs → lv_has ls 4 [(0, .ref a0), (1, .int p0), (2, .int p1)] → W p l e (headSpec wsX5_takeNumber ({ frames := 2, cells := 0, slots := 0, locals := 81 })).room s m ([.ref a0, .int p0, .int p1] : List Value).toArray below meth c H locs 0 0 (MQ below (va_Qi (fun (r : Int32) (u : SU) => True) (fun u t => va_P G vwCl ((fun u : SU => [(a0, .inr (5, [.ref a1, .ref a3, .int (u.1 0), .int (u.1 1), .int (u.1 2), .int (u.1 3), .int (u.1 4), .int (u.1 5)])), (a1, .inr (8, [.ref a2, .int n1_1])), (a2, .inl (ct 1, 900, .inl f2))]) u) t.heap) A) ([.ref a0, .int p0, .int p1] : List Value).toArray s 0 0 A) (F0 m 40 ls []) := by
        intro  H locs ls  hP hD hS hl
        refine lv_aload_n hx hb dX5_takeNumber_40 rfl (lv_at hl 0 rfl) ?_
        refine lv_iconst (v := 2) hx hb dX5_takeNumber_41 (by decide) ?_
        refine wj_callv (wr := [(a1, .inr (8, [.ref a2, .int n1_1])), (a2, .inl (ct 1, 900, .inl f2))]) (w1 := (fun u : SU => [(a0, .inr (5, [.ref a1, .ref a3, .int (u.1 0), .int (u.1 1), .int n0_4, .int n0_5, .int n0_6, .int n0_7]))])) (va_runV (As := [.int 2]) (rest := []) ⟨hx, hb, hml, hown, hts⟩ (a_X5_fail l G ct a0 a1 a3 n0_2 n0_3 n0_4 n0_5 n0_6 n0_7 (2 : Int32)) (cwV 1 hts gX5_takeNumber_X5_fail rfl rfl rfl (by decide +kernel) ⟨Nat.le_of_ble_eq_true rfl, Nat.le_of_ble_eq_true rfl⟩) (wr_preV 5 0 hK (hP.sub [0] rfl) (hD.sub [0] (by decide) rfl) rfl rfl) rfl rfl hl.1 rfl (lv_room (Nat.le_of_ble_eq_true rfl)) dX5_takeNumber_42 ⟨Nat.zero_le _, Nat.zero_le _⟩) hS hP hD [0] [1, 2] rfl rfl (by decide) (fun _ => rfl) (fun ur42 H locs wr42 hP hD hS => ?_)
        have hP : va_P G vwCl [(a0, .inr (5, [.ref a1, .ref a3, .int (ur42.1 0), .int (ur42.1 1), .int n0_4, .int n0_5, .int n0_6, .int n0_7])), (a1, .inr (8, [.ref a2, .int n1_1])), (a2, .inl (ct 1, 900, .inl f2))] H := hP.sub [2, 0, 1] rfl
        have hD : va_D A [(a0, .inr (5, [.ref a1, .ref a3, .int (ur42.1 0), .int (ur42.1 1), .int n0_4, .int n0_5, .int n0_6, .int n0_7])), (a1, .inr (8, [.ref a2, .int n1_1])), (a2, .inl (ct 1, 900, .inl f2))] := hD.sub [2, 0, 1] (by decide) rfl
        refine lv_iconst (v := 0) hx hb dX5_takeNumber_45 (by decide) ?_
        exact W.iret (v := 0) hx hb hr (fun t ht hW => ⟨⟨0, (fun k => ([ur42.1 0, ur42.1 1, n0_4, n0_5, n0_6, n0_7] : List Int32).getD k 0, fun k => ([] : List (Nat → Int32)).getD k (fun _ => 0), fun k => ([] : List (Nat → Int64)).getD k (fun _ => 0)), rfl, trivial, hp_at ht hP⟩, hS.F ht⟩) hS.2.2 dX5_takeNumber_46
      refine lv_icmp_lt (tgt := 40) hx hb dX5_takeNumber_29 (by decide) (fun c29 => ?_) (fun c29 => ?_)
      · have h_3 : rg (-2147483648) 2147483646 n0_7 := r_lt_l_i c29 (rg_t n0_7) (rg_t p0) (by decide)
        have h_4 : rg (-2147483647) 2147483647 p0 := r_lt_r_i c29 (rg_t n0_7) (rg_t p0) (by decide)
        exact j40 _ _ ls hP hD hS (lv_sub hl [0, 1, 2] rfl)
      · refine lv_aload_n hx hb dX5_takeNumber_32 rfl (lv_at hl 0 rfl) ?_
        refine va_get (D := G) (ci := 5) (v := .int n0_7) (C := RX5) (T := TX5) (N := 8) hx hb hts (by decide +kernel) hown hK.1 hP 0 rfl rfl 7 (by decide) (hts (.fieldLink RX5 105 "CardHolder$Reader" "value" "I") (by decide +kernel)) (fun _ h9 => h9) rfl dX5_takeNumber_33 ?_
        refine lv_iload_n hx hb dX5_takeNumber_36 rfl (lv_at hl 2 rfl) ?_
        refine lv_icmp_le (tgt := 47) hx hb dX5_takeNumber_37 (by decide) (fun c37 => ?_) (fun c37 => ?_)
        · refine lv_aload_n hx hb dX5_takeNumber_47 rfl (lv_at hl 0 rfl) ?_
          refine va_get (D := G) (ci := 5) (v := .int n0_7) (C := RX5) (T := TX5) (N := 8) hx hb hts (by decide +kernel) hown hK.1 hP 0 rfl rfl 7 (by decide) (hts (.fieldLink RX5 105 "CardHolder$Reader" "value" "I") (by decide +kernel)) (fun _ h9 => h9) rfl dX5_takeNumber_48 ?_
          refine lv_istore_n (lv' := [(3, .int n0_7), (0, .ref a0), (1, .int p0), (2, .int p1)]) hx hb dX5_takeNumber_51 rfl hl (by decide) rfl (fun ls hl => ?_)
          refine lv_aload_n hx hb dX5_takeNumber_52 rfl (lv_at hl 1 rfl) ?_
          refine wj_callv (wr := []) (w1 := (fun u : SU => [(a0, .inr (5, [.ref a1, .ref a3, .int n0_2, .int n0_3, .int (u.1 0), .int (u.1 1), .int (u.1 2), .int (u.1 3)])), (a1, .inr (8, [.ref a2, .int n1_1])), (a2, .inl (ct 1, 900, .inl f2))])) (va_runV (As := []) (rest := []) ⟨hx, hb, hml, hown, hts⟩ (a_X5_step l G ct a0 a1 a3 n0_2 n0_3 n0_4 n0_5 n0_6 n0_7 a2 n1_1 f2 hp_n1_1) (cwV 0 hts gX5_takeNumber_X5_step rfl rfl rfl (by decide +kernel) ⟨Nat.le_of_ble_eq_true rfl, Nat.le_of_ble_eq_true rfl⟩) (wr_preV 5 0 hK (hP.sub [0, 1, 2] rfl) (hD.sub [0, 1, 2] (by decide) rfl) rfl rfl) rfl rfl hl.1 rfl (lv_room (Nat.le_of_ble_eq_true rfl)) dX5_takeNumber_53 ⟨Nat.zero_le _, Nat.zero_le _⟩) hS hP hD [0, 1, 2] [] rfl rfl (by decide) (fun _ => rfl) (fun ur53 H locs wr53 hP hD hS => ?_)
          have hP : va_P G vwCl [(a0, .inr (5, [.ref a1, .ref a3, .int n0_2, .int n0_3, .int (ur53.1 0), .int (ur53.1 1), .int (ur53.1 2), .int (ur53.1 3)])), (a1, .inr (8, [.ref a2, .int n1_1])), (a2, .inl (ct 1, 900, .inl f2))] H := hP.sub [0, 1, 2] rfl
          have hD : va_D A [(a0, .inr (5, [.ref a1, .ref a3, .int n0_2, .int n0_3, .int (ur53.1 0), .int (ur53.1 1), .int (ur53.1 2), .int (ur53.1 3)])), (a1, .inr (8, [.ref a2, .int n1_1])), (a2, .inl (ct 1, 900, .inl f2))] := hD.sub [0, 1, 2] (by decide) rfl
          obtain ⟨p_5, p_6, -⟩ := wr53
          refine lv_iload_n hx hb dX5_takeNumber_56 rfl (lv_at hl 0 rfl) ?_
          exact W.iret (v := n0_7) hx hb hr (fun t ht hW => ⟨⟨n0_7, (fun k => ([n0_2, n0_3, ur53.1 0, ur53.1 1, ur53.1 2, ur53.1 3] : List Int32).getD k 0, fun k => ([] : List (Nat → Int32)).getD k (fun _ => 0), fun k => ([] : List (Nat → Int64)).getD k (fun _ => 0)), rfl, trivial, hp_at ht hP⟩, hS.F ht⟩) hS.2.2 dX5_takeNumber_57
        · have h_7 : rg (-2147483648) 2147483646 p1 := r_lt_l_i (nle_i c37) (rg_t p1) (rg_t n0_7) (by decide)
          have h_8 : rg (-2147483647) 2147483647 n0_7 := r_lt_r_i (nle_i c37) (rg_t p1) (rg_t n0_7) (by decide)
          exact j40 _ _ ls hP hD hS (lv_sub hl [0, 1, 2] rfl)
    · refine lv_aload_n hx hb dX5_takeNumber_17 rfl (lv_at hl 0 rfl) ?_
      refine lv_iconst (v := 1) hx hb dX5_takeNumber_18 (by decide) ?_
      refine wj_callv (wr := [(a1, .inr (8, [.ref a2, .int n1_1])), (a2, .inl (ct 1, 900, .inl f2))]) (w1 := (fun u : SU => [(a0, .inr (5, [.ref a1, .ref a3, .int (u.1 0), .int (u.1 1), .int n0_4, .int n0_5, .int n0_6, .int n0_7]))])) (va_runV (As := [.int 1]) (rest := []) ⟨hx, hb, hml, hown, hts⟩ (a_X5_fail l G ct a0 a1 a3 n0_2 n0_3 n0_4 n0_5 n0_6 n0_7 (1 : Int32)) (cwV 1 hts gX5_takeNumber_X5_fail rfl rfl rfl (by decide +kernel) ⟨Nat.le_of_ble_eq_true rfl, Nat.le_of_ble_eq_true rfl⟩) (wr_preV 5 0 hK (hP.sub [0] rfl) (hD.sub [0] (by decide) rfl) rfl rfl) rfl rfl hl.1 rfl (lv_room (Nat.le_of_ble_eq_true rfl)) dX5_takeNumber_19 ⟨Nat.zero_le _, Nat.zero_le _⟩) hS hP hD [0] [1, 2] rfl rfl (by decide) (fun _ => rfl) (fun ur19 H locs wr19 hP hD hS => ?_)
      have hP : va_P G vwCl [(a0, .inr (5, [.ref a1, .ref a3, .int (ur19.1 0), .int (ur19.1 1), .int n0_4, .int n0_5, .int n0_6, .int n0_7])), (a1, .inr (8, [.ref a2, .int n1_1])), (a2, .inl (ct 1, 900, .inl f2))] H := hP.sub [2, 0, 1] rfl
      have hD : va_D A [(a0, .inr (5, [.ref a1, .ref a3, .int (ur19.1 0), .int (ur19.1 1), .int n0_4, .int n0_5, .int n0_6, .int n0_7])), (a1, .inr (8, [.ref a2, .int n1_1])), (a2, .inl (ct 1, 900, .inl f2))] := hD.sub [2, 0, 1] (by decide) rfl
      refine lv_iconst (v := 0) hx hb dX5_takeNumber_22 (by decide) ?_
      exact W.iret (v := 0) hx hb hr (fun t ht hW => ⟨⟨0, (fun k => ([ur19.1 0, ur19.1 1, n0_4, n0_5, n0_6, n0_7] : List Int32).getD k 0, fun k => ([] : List (Nat → Int32)).getD k (fun _ => 0), fun k => ([] : List (Nat → Int64)).getD k (fun _ => 0)), rfl, trivial, hp_at ht hP⟩, hS.F ht⟩) hS.2.2 dX5_takeNumber_23
  · refine lv_iconst (v := 0) hx hb dX5_takeNumber_7 (by decide) ?_
    exact W.iret (v := 0) hx hb hr (fun t ht hW => ⟨⟨0, (fun k => ([n0_2, n0_3, n0_4, n0_5, n0_6, n0_7] : List Int32).getD k 0, fun k => ([] : List (Nat → Int32)).getD k (fun _ => 0), fun k => ([] : List (Nat → Int64)).getD k (fun _ => 0)), rfl, trivial, hp_at ht hP⟩, hS.F ht⟩) hS.2.2 dX5_takeNumber_8

set_option maxHeartbeats 4000000 in
set_option maxRecDepth 100000 in
theorem a_X5_takeWord (l : Launch) (G : va_G) (ct : Nat → ClassId) (a0 : Nat) (a1 : Nat) (a3 : Nat) (n0_2 : Int32) (n0_3 : Int32) (n0_4 : Int32) (n0_5 : Int32) (n0_6 : Int32) (n0_7 : Int32) (a2 : Nat) (n1_1 : Int32) (f2 : Nat → Int32) (adK : Nat → Nat) (adV : Nat → Nat) (w : Nat) (hw : w < 9) (hp_n1_1 : rg 0 900 n1_1) : Met l yX5_takeWord wsX5_takeWord ({ frames := 7, cells := 0, slots := 0, locals := 188 }) (va_Pc [.ref a0, .ref (adK w)] (wrSP G ct adK adV [(a0, .inr (5, [.ref a1, .ref a3, .int n0_2, .int n0_3, .int n0_4, .int n0_5, .int n0_6, .int n0_7])), (a1, .inr (8, [.ref a2, .int n1_1])), (a2, .inl (ct 1, 900, .inl f2))])) (va_Qv (fun u : SU => True) (fun u t => va_P G vwCl ((fun u : SU => [(a0, .inr (5, [.ref a1, .ref a3, .int (u.1 0), .int (u.1 1), .int (u.1 2), .int (u.1 3), .int (u.1 4), .int (u.1 5)])), (a1, .inr (8, [.ref a2, .int n1_1])), (a2, .inl (ct 1, 900, .inl f2))]) u) t.heap) (aset [(a0, .inr (5, [.ref a1, .ref a3, .int n0_2, .int n0_3, .int n0_4, .int n0_5, .int n0_6, .int n0_7])), (a1, .inr (8, [.ref a2, .int n1_1])), (a2, .inl (ct 1, 900, .inl f2))])) 0 0 (aset [(a0, .inr (5, [.ref a1, .ref a3, .int n0_2, .int n0_3, .int n0_4, .int n0_5, .int n0_6, .int n0_7])), (a1, .inr (8, [.ref a2, .int n1_1])), (a2, .inl (ct 1, 900, .inl f2))]) := by
  refine Met.ofW (cc := cX5_takeWord) (maxL := 2) (ret := none) (by decide) rfl ?_
  intro p e s m args below meth c s₁ B hml hv
  obtain ⟨rfl, hP, hK, hD0, hZ⟩ := hv
  have hx := B.exec
  have hb := B.bytes
  have hr := B.returns
  have hts := atoms_spec (ws := wsX5_takeWord) B.pre
  have hown : s.vm.findClass RX5 = some m.cls := findClass_of_methodNamed B.named
  have hlocks := B.notSynchronized
  have hD := hD0.aself
  generalize hAe : aset [(a0, .inr (5, [.ref a1, .ref a3, .int n0_2, .int n0_3, .int n0_4, .int n0_5, .int n0_6, .int n0_7])), (a1, .inr (8, [.ref a2, .int n1_1])), (a2, .inl (ct 1, 900, .inl f2))] = A at hD hZ ⊢
  have hS : va_S A s.heap s.heap [] := va_S.rf
  have hl := lv_entry ([.ref a0, .ref (adK w)]) (n := 2) (Nat.le_of_ble_eq_true rfl)
  rw [lg_entry_eq]
  generalize (lg_sl ([.ref a0, .ref (adK w)]) ++ List.replicate (2 - (lg_sl ([.ref a0, .ref (adK w)])).length) Slot.unset).toArray = ls at hl ⊢
  have hl : lv_has ls 2 [(0, .ref a0), (1, .ref (adK w))] := hl
  refine lv_aload_n hx hb dX5_takeWord_0 rfl (lv_at hl 0 rfl) ?_
  refine va_get (D := G) (ci := 5) (v := .int n0_2) (C := RX5) (T := TX5) (N := 8) hx hb hts (by decide +kernel) hown hK.1 hP 0 rfl rfl 2 (by decide) (hts (.fieldLink RX5 29 "CardHolder$Reader" "wrong" "I") (by decide +kernel)) (fun _ h9 => h9) rfl dX5_takeWord_1 ?_
  refine lv_if_eq (tgt := 8) hx hb dX5_takeWord_4 (by decide) (fun c4 => ?_) (fun c4 => ?_)
  · have h_1 : rg 0 0 n0_2 := r_eq_l_i (e := 0) (f := 0) c4 (rg_t n0_2) (rgn 0 (x := 0) (by decide)) (by decide)
    refine lv_aload_n hx hb dX5_takeWord_8 rfl (lv_at hl 0 rfl) ?_
    refine lv_aload_n hx hb dX5_takeWord_9 rfl (lv_at hl 1 rfl) ?_
    refine ro_calli (va_runV (As := [.ref (adK w)]) (rest := []) ⟨hx, hb, hml, hown, hts⟩ (a_X5_isWord l G ct a0 a1 a3 n0_2 n0_3 n0_4 n0_5 n0_6 n0_7 a2 n1_1 f2 adK adV w hw hp_n1_1) (cwV 1 hts gX5_takeWord_X5_isWord rfl rfl rfl (by decide +kernel) ⟨Nat.le_of_ble_eq_true rfl, Nat.le_of_ble_eq_true rfl⟩) (roS_preV 5 0 hK (hP.sub [0, 1, 2] rfl) ((hZ.kept hS.2.1).narrow (fun q h => h.elim)) rfl rfl) rfl rfl hl.1 rfl (lv_room (Nat.le_of_ble_eq_true rfl)) dX5_takeWord_10 ⟨Nat.zero_le _, Nat.zero_le _⟩) hS hP (fun r10 H locs wr10 hP hS => ?_)
    obtain ⟨p_2, p_3, -⟩ := wr10
    refine lv_if_eq (tgt := 23) hx hb dX5_takeWord_13 (by decide) (fun c13 => ?_) (fun c13 => ?_)
    · have h_4 : rg 0 0 r10 := r_eq_l_i (e := 0) (f := 0) c13 p_2 (rgn 0 (x := 0) (by decide)) (by decide)
      refine lv_aload_n hx hb dX5_takeWord_23 rfl (lv_at hl 0 rfl) ?_
      refine lv_iconst (v := 1) hx hb dX5_takeWord_24 (by decide) ?_
      refine wj_callv (wr := [(a1, .inr (8, [.ref a2, .int n1_1])), (a2, .inl (ct 1, 900, .inl f2))]) (w1 := (fun u : SU => [(a0, .inr (5, [.ref a1, .ref a3, .int (u.1 0), .int (u.1 1), .int n0_4, .int n0_5, .int n0_6, .int n0_7]))])) (va_runV (As := [.int 1]) (rest := []) ⟨hx, hb, hml, hown, hts⟩ (a_X5_fail l G ct a0 a1 a3 n0_2 n0_3 n0_4 n0_5 n0_6 n0_7 (1 : Int32)) (cwV 1 hts gX5_takeWord_X5_fail rfl rfl rfl (by decide +kernel) ⟨Nat.le_of_ble_eq_true rfl, Nat.le_of_ble_eq_true rfl⟩) (wr_preV 5 0 hK (hP.sub [0] rfl) (hD.sub [0] (by decide) rfl) rfl rfl) rfl rfl hl.1 rfl (lv_room (Nat.le_of_ble_eq_true rfl)) dX5_takeWord_25 ⟨Nat.zero_le _, Nat.zero_le _⟩) hS hP hD [0] [1, 2] rfl rfl (by decide) (fun _ => rfl) (fun ur25 H locs wr25 hP hD hS => ?_)
      have hP : va_P G vwCl [(a0, .inr (5, [.ref a1, .ref a3, .int (ur25.1 0), .int (ur25.1 1), .int n0_4, .int n0_5, .int n0_6, .int n0_7])), (a1, .inr (8, [.ref a2, .int n1_1])), (a2, .inl (ct 1, 900, .inl f2))] H := hP.sub [2, 0, 1] rfl
      have hD : va_D A [(a0, .inr (5, [.ref a1, .ref a3, .int (ur25.1 0), .int (ur25.1 1), .int n0_4, .int n0_5, .int n0_6, .int n0_7])), (a1, .inr (8, [.ref a2, .int n1_1])), (a2, .inl (ct 1, 900, .inl f2))] := hD.sub [2, 0, 1] (by decide) rfl
      exact W.vret hx hb hr (fun t ht hW => ⟨⟨(fun k => ([ur25.1 0, ur25.1 1, n0_4, n0_5, n0_6, n0_7] : List Int32).getD k 0, fun k => ([] : List (Nat → Int32)).getD k (fun _ => 0), fun k => ([] : List (Nat → Int64)).getD k (fun _ => 0)), rfl, trivial, hp_at ht hP⟩, hS.F ht⟩) hS.2.2 dX5_takeWord_28
    · have h_5 : rg 1 1 r10 := r_ne_lo_i c13 p_2 (by decide) (by decide)
      have h_6 : rg 1 1 n0_4 := (p_3 (rne h_5 (y := 0) (c := 0) (by decide) (by decide)))
      refine lv_aload_n hx hb dX5_takeWord_16 rfl (lv_at hl 0 rfl) ?_
      refine wj_callv (wr := []) (w1 := (fun u : SU => [(a0, .inr (5, [.ref a1, .ref a3, .int n0_2, .int n0_3, .int (u.1 0), .int (u.1 1), .int (u.1 2), .int (u.1 3)])), (a1, .inr (8, [.ref a2, .int n1_1])), (a2, .inl (ct 1, 900, .inl f2))])) (va_runV (As := []) (rest := []) ⟨hx, hb, hml, hown, hts⟩ (a_X5_step l G ct a0 a1 a3 n0_2 n0_3 n0_4 n0_5 n0_6 n0_7 a2 n1_1 f2 hp_n1_1) (cwV 0 hts gX5_takeWord_X5_step rfl rfl rfl (by decide +kernel) ⟨Nat.le_of_ble_eq_true rfl, Nat.le_of_ble_eq_true rfl⟩) (wr_preV 5 0 hK (hP.sub [0, 1, 2] rfl) (hD.sub [0, 1, 2] (by decide) rfl) rfl rfl) rfl rfl hl.1 rfl (lv_room (Nat.le_of_ble_eq_true rfl)) dX5_takeWord_17 ⟨Nat.zero_le _, Nat.zero_le _⟩) hS hP hD [0, 1, 2] [] rfl rfl (by decide) (fun _ => rfl) (fun ur17 H locs wr17 hP hD hS => ?_)
      have hP : va_P G vwCl [(a0, .inr (5, [.ref a1, .ref a3, .int n0_2, .int n0_3, .int (ur17.1 0), .int (ur17.1 1), .int (ur17.1 2), .int (ur17.1 3)])), (a1, .inr (8, [.ref a2, .int n1_1])), (a2, .inl (ct 1, 900, .inl f2))] H := hP.sub [0, 1, 2] rfl
      have hD : va_D A [(a0, .inr (5, [.ref a1, .ref a3, .int n0_2, .int n0_3, .int (ur17.1 0), .int (ur17.1 1), .int (ur17.1 2), .int (ur17.1 3)])), (a1, .inr (8, [.ref a2, .int n1_1])), (a2, .inl (ct 1, 900, .inl f2))] := hD.sub [0, 1, 2] (by decide) rfl
      obtain ⟨p_7, p_8, -⟩ := wr17
      refine lv_goto (tgt := 28) hx hb dX5_takeWord_20 (by decide) ?_
      exact W.vret hx hb hr (fun t ht hW => ⟨⟨(fun k => ([n0_2, n0_3, ur17.1 0, ur17.1 1, ur17.1 2, ur17.1 3] : List Int32).getD k 0, fun k => ([] : List (Nat → Int32)).getD k (fun _ => 0), fun k => ([] : List (Nat → Int64)).getD k (fun _ => 0)), rfl, trivial, hp_at ht hP⟩, hS.F ht⟩) hS.2.2 dX5_takeWord_28
  · exact W.vret hx hb hr (fun t ht hW => ⟨⟨(fun k => ([n0_2, n0_3, n0_4, n0_5, n0_6, n0_7] : List Int32).getD k 0, fun k => ([] : List (Nat → Int32)).getD k (fun _ => 0), fun k => ([] : List (Nat → Int64)).getD k (fun _ => 0)), rfl, trivial, hp_at ht hP⟩, hS.F ht⟩) hS.2.2 dX5_takeWord_7

set_option maxHeartbeats 4000000 in
set_option maxRecDepth 100000 in
theorem a_X5_takeSign (l : Launch) (G : va_G) (ct : Nat → ClassId) (a0 : Nat) (a1 : Nat) (a3 : Nat) (n0_2 : Int32) (n0_3 : Int32) (n0_4 : Int32) (n0_5 : Int32) (n0_6 : Int32) (n0_7 : Int32) (a2 : Nat) (n1_1 : Int32) (f2 : Nat → Int32) (a4 : Nat) (a6 : Nat) (a7 : Nat) (a8 : Nat) (a9 : Nat) (n3_5 : Int32) (n3_6 : Int32) (hp_n1_1 : rg 0 900 n1_1) : Met l yX5_takeSign wsX5_takeSign ({ frames := 2, cells := 0, slots := 0, locals := 81 }) (va_Pc [.ref a0] (wrP G ct [(a0, .inr (5, [.ref a1, .ref a3, .int n0_2, .int n0_3, .int n0_4, .int n0_5, .int n0_6, .int n0_7])), (a1, .inr (8, [.ref a2, .int n1_1])), (a2, .inl (ct 1, 900, .inl f2)), (a3, .inr (9, [.ref a4, .ref a6, .ref a7, .ref a8, .ref a9, .int n3_5, .int n3_6]))])) (va_Qv (fun u : SU => True) (fun u t => va_P G vwCl ((fun u : SU => [(a0, .inr (5, [.ref a1, .ref a3, .int (u.1 0), .int (u.1 1), .int (u.1 2), .int (u.1 3), .int (u.1 4), .int (u.1 5)])), (a1, .inr (8, [.ref a2, .int n1_1])), (a2, .inl (ct 1, 900, .inl f2)), (a3, .inr (9, [.ref a4, .ref a6, .ref a7, .ref a8, .ref a9, .int (u.1 6), .int n3_6]))]) u) t.heap) (aset [(a0, .inr (5, [.ref a1, .ref a3, .int n0_2, .int n0_3, .int n0_4, .int n0_5, .int n0_6, .int n0_7])), (a1, .inr (8, [.ref a2, .int n1_1])), (a2, .inl (ct 1, 900, .inl f2)), (a3, .inr (9, [.ref a4, .ref a6, .ref a7, .ref a8, .ref a9, .int n3_5, .int n3_6]))])) 0 0 (aset [(a0, .inr (5, [.ref a1, .ref a3, .int n0_2, .int n0_3, .int n0_4, .int n0_5, .int n0_6, .int n0_7])), (a1, .inr (8, [.ref a2, .int n1_1])), (a2, .inl (ct 1, 900, .inl f2)), (a3, .inr (9, [.ref a4, .ref a6, .ref a7, .ref a8, .ref a9, .int n3_5, .int n3_6]))]) := by
  refine Met.ofW (cc := cX5_takeSign) (maxL := 1) (ret := none) (by decide) rfl ?_
  intro p e s m args below meth c s₁ B hml hv
  obtain ⟨rfl, hP, hK, hD0⟩ := hv
  have hx := B.exec
  have hb := B.bytes
  have hr := B.returns
  have hts := atoms_spec (ws := wsX5_takeSign) B.pre
  have hown : s.vm.findClass RX5 = some m.cls := findClass_of_methodNamed B.named
  have hlocks := B.notSynchronized
  have hD := hD0.aself
  generalize hAe : aset [(a0, .inr (5, [.ref a1, .ref a3, .int n0_2, .int n0_3, .int n0_4, .int n0_5, .int n0_6, .int n0_7])), (a1, .inr (8, [.ref a2, .int n1_1])), (a2, .inl (ct 1, 900, .inl f2)), (a3, .inr (9, [.ref a4, .ref a6, .ref a7, .ref a8, .ref a9, .int n3_5, .int n3_6]))] = A at hD ⊢
  have hS : va_S A s.heap s.heap [] := va_S.rf
  have hl := lv_entry ([.ref a0]) (n := 1) (Nat.le_of_ble_eq_true rfl)
  rw [lg_entry_eq]
  generalize (lg_sl ([.ref a0]) ++ List.replicate (1 - (lg_sl ([.ref a0])).length) Slot.unset).toArray = ls at hl ⊢
  have hl : lv_has ls 1 [(0, .ref a0)] := hl
  refine lv_aload_n hx hb dX5_takeSign_0 rfl (lv_at hl 0 rfl) ?_
  refine va_get (D := G) (ci := 5) (v := .int n0_2) (C := RX5) (T := TX5) (N := 8) hx hb hts (by decide +kernel) hown hK.1 hP 0 rfl rfl 2 (by decide) (hts (.fieldLink RX5 29 "CardHolder$Reader" "wrong" "I") (by decide +kernel)) (fun _ h9 => h9) rfl dX5_takeSign_1 ?_
  have j20 : ∀ (v20_0_2 : Int32) (v20_0_3 : Int32) (H : Heap) (locs : List Loc) (ls : Array Slot), va_P G vwCl [(a0, .inr (5, [.ref a1, .ref a3, .int v20_0_2, .int v20_0_3, .int n0_4, .int n0_5, .int n0_6, .int n0_7])), (a1, .inr (8, [.ref a2, .int n1_1])), (a2, .inl (ct 1, 900, .inl f2)), (a3, .inr (9, [.ref a4, .ref a6, .ref a7, .ref a8, .ref a9, .int n3_5, .int n3_6]))] H → va_D A [(a0, .inr (5, [.ref a1, .ref a3, .int v20_0_2, .int v20_0_3, .int n0_4, .int n0_5, .int n0_6, .int n0_7])), (a1, .inr (8, [.ref a2, .int n1_1])), (a2, .inl (ct 1, 900, .inl f2)), (a3, .inr (9, [.ref a4, .ref a6, .ref a7, .ref a8, .ref a9, .int n3_5, .int n3_6]))] → va_S A s.heap H locs → lv_has ls 1 [(0, .ref a0)] → W p l e (headSpec wsX5_takeSign ({ frames := 2, cells := 0, slots := 0, locals := 81 })).room s m ([.ref a0] : List Value).toArray below meth c H locs 0 0 (MQ below (va_Qv (fun u : SU => True) (fun u t => va_P G vwCl ((fun u : SU => [(a0, .inr (5, [.ref a1, .ref a3, .int (u.1 0), .int (u.1 1), .int (u.1 2), .int (u.1 3), .int (u.1 4), .int (u.1 5)])), (a1, .inr (8, [.ref a2, .int n1_1])), (a2, .inl (ct 1, 900, .inl f2)), (a3, .inr (9, [.ref a4, .ref a6, .ref a7, .ref a8, .ref a9, .int (u.1 6), .int n3_6]))]) u) t.heap) A) ([.ref a0] : List Value).toArray s 0 0 A) (F0 m 20 ls []) := by
    intro v20_0_2 v20_0_3 H locs ls  hP hD hS hl
    refine lv_aload_n hx hb dX5_takeSign_20 rfl (lv_at hl 0 rfl) ?_
    refine va_get (D := G) (ci := 5) (v := .int v20_0_2) (C := RX5) (T := TX5) (N := 8) hx hb hts (by decide +kernel) hown hK.1 hP 0 rfl rfl 2 (by decide) (hts (.fieldLink RX5 29 "CardHolder$Reader" "wrong" "I") (by decide +kernel)) (fun _ h9 => h9) rfl dX5_takeSign_21 ?_
    refine lv_if_ne (tgt := 44) hx hb dX5_takeSign_24 (by decide) (fun c24 => ?_) (fun c24 => ?_)
    · exact W.vret hx hb hr (fun t ht hW => ⟨⟨(fun k => ([v20_0_2, v20_0_3, n0_4, n0_5, n0_6, n0_7, n3_5] : List Int32).getD k 0, fun k => ([] : List (Nat → Int32)).getD k (fun _ => 0), fun k => ([] : List (Nat → Int64)).getD k (fun _ => 0)), rfl, trivial, hp_at ht hP⟩, hS.F ht⟩) hS.2.2 dX5_takeSign_44
    · have h_1 : rg 0 0 v20_0_2 := r_eq_l_i (e := 0) (f := 0) c24 (rg_t v20_0_2) (rgn 0 (x := 0) (by decide)) (by decide)
      refine lv_aload_n hx hb dX5_takeSign_27 rfl (lv_at hl 0 rfl) ?_
      refine va_get (D := G) (ci := 5) (v := .ref a3) (C := RX5) (T := TX5) (N := 8) hx hb hts (by decide +kernel) hown hK.1 hP 0 rfl rfl 1 (by decide) (hts (.fieldLink RX5 12 "CardHolder$Reader" "draft" "LCardHolder$Town;") (by decide +kernel)) (fun _ h9 => h9) rfl dX5_takeSign_28 ?_
      refine lv_dup hx hb dX5_takeSign_31 rfl ?_
      refine va_get (D := G) (ci := 9) (v := .int n3_5) (C := RX9) (T := TX9) (N := 7) hx hb hts (by decide +kernel) hown hK.1 hP 3 rfl rfl 5 (by decide) (hts (.fieldLink RX5 41 "CardHolder$Town" "lines" "I") (by decide +kernel)) (fun _ h9 => h9) rfl dX5_takeSign_32 ?_
      refine lv_iconst (v := 1) hx hb dX5_takeSign_35 (by decide) ?_
      refine lv_iadd hx hb dX5_takeSign_36 ?_
      refine nm_0 (fun z36 => ?_)
      refine va_put (D := G) (ci := 9) (v := .int z36) (ty := .int) (C := RX9) (T := TX9) (N := 7) hx hb hts (by decide +kernel) tyX9 tyX9_ok nmX9 hown hK.1 hP hD hS 3 rfl rfl 5 (by decide) (hts (.fieldLink RX5 41 "CardHolder$Town" "lines" "I") (by decide +kernel)) (fun _ h9 => h9) rfl (by decide +kernel) rfl rfl (Nat.le_of_ble_eq_true rfl) dX5_takeSign_37 (fun H locs hP hD hS => ?_)
      refine lv_aload_n hx hb dX5_takeSign_40 rfl (lv_at hl 0 rfl) ?_
      refine wj_callv (wr := [(a3, .inr (9, [.ref a4, .ref a6, .ref a7, .ref a8, .ref a9, .int z36, .int n3_6]))]) (w1 := (fun u : SU => [(a0, .inr (5, [.ref a1, .ref a3, .int v20_0_2, .int v20_0_3, .int (u.1 0), .int (u.1 1), .int (u.1 2), .int (u.1 3)])), (a1, .inr (8, [.ref a2, .int n1_1])), (a2, .inl (ct 1, 900, .inl f2))])) (va_runV (As := []) (rest := []) ⟨hx, hb, hml, hown, hts⟩ (a_X5_step l G ct a0 a1 a3 v20_0_2 v20_0_3 n0_4 n0_5 n0_6 n0_7 a2 n1_1 f2 hp_n1_1) (cwV 0 hts gX5_takeSign_X5_step rfl rfl rfl (by decide +kernel) ⟨Nat.le_of_ble_eq_true rfl, Nat.le_of_ble_eq_true rfl⟩) (wr_preV 5 0 hK (hP.sub [0, 1, 2] rfl) (hD.sub [0, 1, 2] (by decide) rfl) rfl rfl) rfl rfl hl.1 rfl (lv_room (Nat.le_of_ble_eq_true rfl)) dX5_takeSign_41 ⟨Nat.zero_le _, Nat.zero_le _⟩) hS hP hD [0, 1, 2] [3] rfl rfl (by decide) (fun _ => rfl) (fun ur41 H locs wr41 hP hD hS => ?_)
      have hP : va_P G vwCl [(a0, .inr (5, [.ref a1, .ref a3, .int v20_0_2, .int v20_0_3, .int (ur41.1 0), .int (ur41.1 1), .int (ur41.1 2), .int (ur41.1 3)])), (a1, .inr (8, [.ref a2, .int n1_1])), (a2, .inl (ct 1, 900, .inl f2)), (a3, .inr (9, [.ref a4, .ref a6, .ref a7, .ref a8, .ref a9, .int z36, .int n3_6]))] H := hP.sub [1, 2, 3, 0] rfl
      have hD : va_D A [(a0, .inr (5, [.ref a1, .ref a3, .int v20_0_2, .int v20_0_3, .int (ur41.1 0), .int (ur41.1 1), .int (ur41.1 2), .int (ur41.1 3)])), (a1, .inr (8, [.ref a2, .int n1_1])), (a2, .inl (ct 1, 900, .inl f2)), (a3, .inr (9, [.ref a4, .ref a6, .ref a7, .ref a8, .ref a9, .int z36, .int n3_6]))] := hD.sub [1, 2, 3, 0] (by decide) rfl
      obtain ⟨p_2, p_3, -⟩ := wr41
      exact W.vret hx hb hr (fun t ht hW => ⟨⟨(fun k => ([v20_0_2, v20_0_3, ur41.1 0, ur41.1 1, ur41.1 2, ur41.1 3, z36] : List Int32).getD k 0, fun k => ([] : List (Nat → Int32)).getD k (fun _ => 0), fun k => ([] : List (Nat → Int64)).getD k (fun _ => 0)), rfl, trivial, hp_at ht hP⟩, hS.F ht⟩) hS.2.2 dX5_takeSign_44
  refine lv_if_ne (tgt := 20) hx hb dX5_takeSign_4 (by decide) (fun c4 => ?_) (fun c4 => ?_)
  · exact j20 n0_2 n0_3 _ _ ls hP hD hS (lv_sub hl [0] rfl)
  · have h_4 : rg 0 0 n0_2 := r_eq_l_i (e := 0) (f := 0) c4 (rg_t n0_2) (rgn 0 (x := 0) (by decide)) (by decide)
    refine lv_aload_n hx hb dX5_takeSign_7 rfl (lv_at hl 0 rfl) ?_
    refine va_get (D := G) (ci := 5) (v := .int n0_4) (C := RX5) (T := TX5) (N := 8) hx hb hts (by decide +kernel) hown hK.1 hP 0 rfl rfl 4 (by decide) (hts (.fieldLink RX5 38 "CardHolder$Reader" "kind" "I") (by decide +kernel)) (fun _ h9 => h9) rfl dX5_takeSign_8 ?_
    refine lv_iconst (v := 3) hx hb dX5_takeSign_11 (by decide) ?_
    refine lv_icmp_eq (tgt := 20) hx hb dX5_takeSign_12 (by decide) (fun c12 => ?_) (fun c12 => ?_)
    · have h_5 : rg 3 3 n0_4 := r_eq_l_i (e := 3) (f := 3) c12 (rg_t n0_4) (rgn 3 (x := 3) (by decide)) (by decide)
      exact j20 n0_2 n0_3 _ _ ls hP hD hS (lv_sub hl [0] rfl)
    · refine lv_aload_n hx hb dX5_takeSign_15 rfl (lv_at hl 0 rfl) ?_
      refine lv_iconst (v := 1) hx hb dX5_takeSign_16 (by decide) ?_
      refine wj_callv (wr := [(a1, .inr (8, [.ref a2, .int n1_1])), (a2, .inl (ct 1, 900, .inl f2)), (a3, .inr (9, [.ref a4, .ref a6, .ref a7, .ref a8, .ref a9, .int n3_5, .int n3_6]))]) (w1 := (fun u : SU => [(a0, .inr (5, [.ref a1, .ref a3, .int (u.1 0), .int (u.1 1), .int n0_4, .int n0_5, .int n0_6, .int n0_7]))])) (va_runV (As := [.int 1]) (rest := []) ⟨hx, hb, hml, hown, hts⟩ (a_X5_fail l G ct a0 a1 a3 n0_2 n0_3 n0_4 n0_5 n0_6 n0_7 (1 : Int32)) (cwV 1 hts gX5_takeSign_X5_fail rfl rfl rfl (by decide +kernel) ⟨Nat.le_of_ble_eq_true rfl, Nat.le_of_ble_eq_true rfl⟩) (wr_preV 5 0 hK (hP.sub [0] rfl) (hD.sub [0] (by decide) rfl) rfl rfl) rfl rfl hl.1 rfl (lv_room (Nat.le_of_ble_eq_true rfl)) dX5_takeSign_17 ⟨Nat.zero_le _, Nat.zero_le _⟩) hS hP hD [0] [1, 2, 3] rfl rfl (by decide) (fun _ => rfl) (fun ur17 H locs wr17 hP hD hS => ?_)
      have hP : va_P G vwCl [(a0, .inr (5, [.ref a1, .ref a3, .int (ur17.1 0), .int (ur17.1 1), .int n0_4, .int n0_5, .int n0_6, .int n0_7])), (a1, .inr (8, [.ref a2, .int n1_1])), (a2, .inl (ct 1, 900, .inl f2)), (a3, .inr (9, [.ref a4, .ref a6, .ref a7, .ref a8, .ref a9, .int n3_5, .int n3_6]))] H := hP.sub [3, 0, 1, 2] rfl
      have hD : va_D A [(a0, .inr (5, [.ref a1, .ref a3, .int (ur17.1 0), .int (ur17.1 1), .int n0_4, .int n0_5, .int n0_6, .int n0_7])), (a1, .inr (8, [.ref a2, .int n1_1])), (a2, .inl (ct 1, 900, .inl f2)), (a3, .inr (9, [.ref a4, .ref a6, .ref a7, .ref a8, .ref a9, .int n3_5, .int n3_6]))] := hD.sub [3, 0, 1, 2] (by decide) rfl
      exact j20 (ur17.1 0) (ur17.1 1) _ _ ls hP hD hS (lv_sub hl [0] rfl)

set_option maxHeartbeats 4000000 in
set_option maxRecDepth 100000 in
theorem a_X5_takeDeeds (l : Launch) (G : va_G) (ct : Nat → ClassId) (a0 : Nat) (a1 : Nat) (a3 : Nat) (n0_2 : Int32) (n0_3 : Int32) (n0_4 : Int32) (n0_5 : Int32) (n0_6 : Int32) (n0_7 : Int32) (a2 : Nat) (n1_1 : Int32) (f2 : Nat → Int32) (adK : Nat → Nat) (adV : Nat → Nat) (w : Nat) (hw : w < 9) (hp_n1_1 : rg 0 900 n1_1) : Met l yX5_takeDeeds wsX5_takeDeeds ({ frames := 7, cells := 0, slots := 0, locals := 188 }) (va_Pc [.ref a0, .ref (adK w)] (wrSP G ct adK adV [(a0, .inr (5, [.ref a1, .ref a3, .int n0_2, .int n0_3, .int n0_4, .int n0_5, .int n0_6, .int n0_7])), (a1, .inr (8, [.ref a2, .int n1_1])), (a2, .inl (ct 1, 900, .inl f2))])) (va_Qi (fun (r : Int32) (u : SU) => True) (fun u t => va_P G vwCl ((fun u : SU => [(a0, .inr (5, [.ref a1, .ref a3, .int (u.1 0), .int (u.1 1), .int (u.1 2), .int (u.1 3), .int (u.1 4), .int (u.1 5)])), (a1, .inr (8, [.ref a2, .int n1_1])), (a2, .inl (ct 1, 900, .inl f2))]) u) t.heap) (aset [(a0, .inr (5, [.ref a1, .ref a3, .int n0_2, .int n0_3, .int n0_4, .int n0_5, .int n0_6, .int n0_7])), (a1, .inr (8, [.ref a2, .int n1_1])), (a2, .inl (ct 1, 900, .inl f2))])) 0 0 (aset [(a0, .inr (5, [.ref a1, .ref a3, .int n0_2, .int n0_3, .int n0_4, .int n0_5, .int n0_6, .int n0_7])), (a1, .inr (8, [.ref a2, .int n1_1])), (a2, .inl (ct 1, 900, .inl f2))]) := by
  refine Met.ofW (cc := cX5_takeDeeds) (maxL := 4) (ret := (some .int)) (by decide) rfl ?_
  intro p e s m args below meth c s₁ B hml hv
  obtain ⟨rfl, hP, hK, hD0, hZ⟩ := hv
  have hx := B.exec
  have hb := B.bytes
  have hr := B.returns
  have hts := atoms_spec (ws := wsX5_takeDeeds) B.pre
  have hown : s.vm.findClass RX5 = some m.cls := findClass_of_methodNamed B.named
  have hlocks := B.notSynchronized
  have hD := hD0.aself
  generalize hAe : aset [(a0, .inr (5, [.ref a1, .ref a3, .int n0_2, .int n0_3, .int n0_4, .int n0_5, .int n0_6, .int n0_7])), (a1, .inr (8, [.ref a2, .int n1_1])), (a2, .inl (ct 1, 900, .inl f2))] = A at hD hZ ⊢
  have hS : va_S A s.heap s.heap [] := va_S.rf
  have hl := lv_entry ([.ref a0, .ref (adK w)]) (n := 4) (Nat.le_of_ble_eq_true rfl)
  rw [lg_entry_eq]
  generalize (lg_sl ([.ref a0, .ref (adK w)]) ++ List.replicate (4 - (lg_sl ([.ref a0, .ref (adK w)])).length) Slot.unset).toArray = ls at hl ⊢
  have hl : lv_has ls 4 [(0, .ref a0), (1, .ref (adK w))] := hl
  refine lv_aload_n hx hb dX5_takeDeeds_0 rfl (lv_at hl 0 rfl) ?_
  refine va_get (D := G) (ci := 5) (v := .int n0_2) (C := RX5) (T := TX5) (N := 8) hx hb hts (by decide +kernel) hown hK.1 hP 0 rfl rfl 2 (by decide) (hts (.fieldLink RX5 29 "CardHolder$Reader" "wrong" "I") (by decide +kernel)) (fun _ h9 => h9) rfl dX5_takeDeeds_1 ?_
  refine lv_if_ne (tgt := 15) hx hb dX5_takeDeeds_4 (by decide) (fun c4 => ?_) (fun c4 => ?_)
  · refine lv_iconst (v := 0) hx hb dX5_takeDeeds_15 (by decide) ?_
    exact W.iret (v := 0) hx hb hr (fun t ht hW => ⟨⟨0, (fun k => ([n0_2, n0_3, n0_4, n0_5, n0_6, n0_7] : List Int32).getD k 0, fun k => ([] : List (Nat → Int32)).getD k (fun _ => 0), fun k => ([] : List (Nat → Int64)).getD k (fun _ => 0)), rfl, trivial, hp_at ht hP⟩, hS.F ht⟩) hS.2.2 dX5_takeDeeds_16
  · have h_1 : rg 0 0 n0_2 := r_eq_l_i (e := 0) (f := 0) c4 (rg_t n0_2) (rgn 0 (x := 0) (by decide)) (by decide)
    refine lv_aload_n hx hb dX5_takeDeeds_7 rfl (lv_at hl 0 rfl) ?_
    refine lv_aload_n hx hb dX5_takeDeeds_8 rfl (lv_at hl 1 rfl) ?_
    refine ro_calli (va_runV (As := [.ref (adK w)]) (rest := []) ⟨hx, hb, hml, hown, hts⟩ (a_X5_isWord l G ct a0 a1 a3 n0_2 n0_3 n0_4 n0_5 n0_6 n0_7 a2 n1_1 f2 adK adV w hw hp_n1_1) (cwV 1 hts gX5_takeDeeds_X5_isWord rfl rfl rfl (by decide +kernel) ⟨Nat.le_of_ble_eq_true rfl, Nat.le_of_ble_eq_true rfl⟩) (roS_preV 5 0 hK (hP.sub [0, 1, 2] rfl) ((hZ.kept hS.2.1).narrow (fun q h => h.elim)) rfl rfl) rfl rfl hl.1 rfl (lv_room (Nat.le_of_ble_eq_true rfl)) dX5_takeDeeds_9 ⟨Nat.zero_le _, Nat.zero_le _⟩) hS hP (fun r9 H locs wr9 hP hS => ?_)
    obtain ⟨p_2, p_3, -⟩ := wr9
    refine lv_if_ne (tgt := 17) hx hb dX5_takeDeeds_12 (by decide) (fun c12 => ?_) (fun c12 => ?_)
    · have h_4 : rg 1 1 r9 := r_ne_lo_i c12 p_2 (by decide) (by decide)
      have h_5 : rg 1 1 n0_4 := (p_3 (rne h_4 (y := 0) (c := 0) (by decide) (by decide)))
      refine lv_aload_n hx hb dX5_takeDeeds_17 rfl (lv_at hl 0 rfl) ?_
      refine wj_callv (wr := []) (w1 := (fun u : SU => [(a0, .inr (5, [.ref a1, .ref a3, .int n0_2, .int n0_3, .int (u.1 0), .int (u.1 1), .int (u.1 2), .int (u.1 3)])), (a1, .inr (8, [.ref a2, .int n1_1])), (a2, .inl (ct 1, 900, .inl f2))])) (va_runV (As := []) (rest := []) ⟨hx, hb, hml, hown, hts⟩ (a_X5_step l G ct a0 a1 a3 n0_2 n0_3 n0_4 n0_5 n0_6 n0_7 a2 n1_1 f2 hp_n1_1) (cwV 0 hts gX5_takeDeeds_X5_step rfl rfl rfl (by decide +kernel) ⟨Nat.le_of_ble_eq_true rfl, Nat.le_of_ble_eq_true rfl⟩) (wr_preV 5 0 hK (hP.sub [0, 1, 2] rfl) (hD.sub [0, 1, 2] (by decide) rfl) rfl rfl) rfl rfl hl.1 rfl (lv_room (Nat.le_of_ble_eq_true rfl)) dX5_takeDeeds_18 ⟨Nat.zero_le _, Nat.zero_le _⟩) hS hP hD [0, 1, 2] [] rfl rfl (by decide) (fun _ => rfl) (fun ur18 H locs wr18 hP hD hS => ?_)
      have hP : va_P G vwCl [(a0, .inr (5, [.ref a1, .ref a3, .int n0_2, .int n0_3, .int (ur18.1 0), .int (ur18.1 1), .int (ur18.1 2), .int (ur18.1 3)])), (a1, .inr (8, [.ref a2, .int n1_1])), (a2, .inl (ct 1, 900, .inl f2))] H := hP.sub [0, 1, 2] rfl
      have hD : va_D A [(a0, .inr (5, [.ref a1, .ref a3, .int n0_2, .int n0_3, .int (ur18.1 0), .int (ur18.1 1), .int (ur18.1 2), .int (ur18.1 3)])), (a1, .inr (8, [.ref a2, .int n1_1])), (a2, .inl (ct 1, 900, .inl f2))] := hD.sub [0, 1, 2] (by decide) rfl
      obtain ⟨p_6, p_7, -⟩ := wr18
      refine lv_iconst (v := 1) hx hb dX5_takeDeeds_21 (by decide) ?_
      refine lv_aload_n hx hb dX5_takeDeeds_22 rfl (lv_at hl 0 rfl) ?_
      refine lv_iconst (v := 0) hx hb dX5_takeDeeds_23 (by decide) ?_
      refine lv_iconst (v := 5) hx hb dX5_takeDeeds_24 (by decide) ?_
      refine wj_calli (wr := []) (w1 := (fun u : SU => [(a0, .inr (5, [.ref a1, .ref a3, .int (u.1 0), .int (u.1 1), .int (u.1 2), .int (u.1 3), .int (u.1 4), .int (u.1 5)])), (a1, .inr (8, [.ref a2, .int n1_1])), (a2, .inl (ct 1, 900, .inl f2))])) (va_runV (As := [.int 0, .int 5]) (rest := [.int 1]) ⟨hx, hb, hml, hown, hts⟩ (a_X5_takeNumber l G ct a0 a1 a3 n0_2 n0_3 (ur18.1 0) (ur18.1 1) (ur18.1 2) (ur18.1 3) a2 n1_1 f2 (0 : Int32) (5 : Int32) hp_n1_1) (cwV 2 hts gX5_takeDeeds_X5_takeNumber rfl rfl rfl (by decide +kernel) ⟨Nat.le_of_ble_eq_true rfl, Nat.le_of_ble_eq_true rfl⟩) (wr_preV 5 0 hK (hP.sub [0, 1, 2] rfl) (hD.sub [0, 1, 2] (by decide) rfl) rfl rfl) rfl rfl hl.1 rfl (lv_room (Nat.le_of_ble_eq_true rfl)) dX5_takeDeeds_25 ⟨Nat.zero_le _, Nat.zero_le _⟩) hS hP hD [0, 1, 2] [] rfl rfl (by decide) (fun _ => rfl) (fun r25 ur25 H locs wr25 hP hD hS => ?_)
      have hP : va_P G vwCl [(a0, .inr (5, [.ref a1, .ref a3, .int (ur25.1 0), .int (ur25.1 1), .int (ur25.1 2), .int (ur25.1 3), .int (ur25.1 4), .int (ur25.1 5)])), (a1, .inr (8, [.ref a2, .int n1_1])), (a2, .inl (ct 1, 900, .inl f2))] H := hP.sub [0, 1, 2] rfl
      have hD : va_D A [(a0, .inr (5, [.ref a1, .ref a3, .int (ur25.1 0), .int (ur25.1 1), .int (ur25.1 2), .int (ur25.1 3), .int (ur25.1 4), .int (ur25.1 5)])), (a1, .inr (8, [.ref a2, .int n1_1])), (a2, .inl (ct 1, 900, .inl f2))] := hD.sub [0, 1, 2] (by decide) rfl
      refine lv_ishl hx hb dX5_takeDeeds_28 ?_
      refine nm_0 (fun z28 => ?_)
      refine lv_istore_n (lv' := [(2, .int z28), (0, .ref a0), (1, .ref (adK w))]) hx hb dX5_takeDeeds_29 rfl hl (by decide) rfl (fun ls hl => ?_)
      refine lv_iconst (v := 0) hx hb dX5_takeDeeds_30 (by decide) ?_
      refine lv_istore_n (lv' := [(3, .int 0), (2, .int z28), (0, .ref a0), (1, .ref (adK w))]) hx hb dX5_takeDeeds_31 rfl hl (by decide) rfl (fun ls hl => ?_)
      have j32 : ∀ (n : Nat) (x32_2 : Int32) (x32_3 : Int32) (v32_0_2 : Int32) (v32_0_3 : Int32) (v32_0_4 : Int32) (v32_0_5 : Int32) (v32_0_6 : Int32) (v32_0_7 : Int32) (H : Heap) (locs : List Loc) (ls : Array Slot), 2147483648 ≤ x32_3.toInt + (n : Int) → rg 0 900 x32_3 → va_P G vwCl [(a0, .inr (5, [.ref a1, .ref a3, .int v32_0_2, .int v32_0_3, .int v32_0_4, .int v32_0_5, .int v32_0_6, .int v32_0_7])), (a1, .inr (8, [.ref a2, .int n1_1])), (a2, .inl (ct 1, 900, .inl f2))] H → va_D A [(a0, .inr (5, [.ref a1, .ref a3, .int v32_0_2, .int v32_0_3, .int v32_0_4, .int v32_0_5, .int v32_0_6, .int v32_0_7])), (a1, .inr (8, [.ref a2, .int n1_1])), (a2, .inl (ct 1, 900, .inl f2))] → va_S A s.heap H locs → lv_has ls 4 [(0, .ref a0), (1, .ref (adK w)), (2, .int x32_2), (3, .int x32_3)] → W p l e (headSpec wsX5_takeDeeds ({ frames := 7, cells := 0, slots := 0, locals := 188 })).room s m ([.ref a0, .ref (adK w)] : List Value).toArray below meth c H locs 0 0 (MQ below (va_Qi (fun (r : Int32) (u : SU) => True) (fun u t => va_P G vwCl ((fun u : SU => [(a0, .inr (5, [.ref a1, .ref a3, .int (u.1 0), .int (u.1 1), .int (u.1 2), .int (u.1 3), .int (u.1 4), .int (u.1 5)])), (a1, .inr (8, [.ref a2, .int n1_1])), (a2, .inl (ct 1, 900, .inl f2))]) u) t.heap) A) ([.ref a0, .ref (adK w)] : List Value).toArray s 0 0 A) (F0 m 32 ls []) := by
        intro n
        induction n with
        | zero => intro x32_2 x32_3 v32_0_2 v32_0_3 v32_0_4 v32_0_5 v32_0_6 v32_0_7 H locs ls hn32 hx32_3 hP hD hS hl; exact absurd hn32 (by have := Int32.toInt_lt x32_3; have := Int32.le_toInt x32_3; omega)
        | succ n ih32 =>
          intro x32_2 x32_3 v32_0_2 v32_0_3 v32_0_4 v32_0_5 v32_0_6 v32_0_7 H locs ls hn32 hx32_3 hP hD hS hl
          refine lv_iload_n hx hb dX5_takeDeeds_32 rfl (lv_at hl 3 rfl) ?_
          refine lv_sipush (v := 900) hx hb dX5_takeDeeds_33 (by decide) ?_
          refine lv_icmp_ge (tgt := 71) hx hb dX5_takeDeeds_36 (by decide) (fun c36 => ?_) (fun c36 => ?_)
          · have h_8 : rg 900 900 x32_3 := r_le_r_i c36 (rgn 900 (x := 900) (by decide)) hx32_3
            refine lv_iload_n hx hb dX5_takeDeeds_71 rfl (lv_at hl 2 rfl) ?_
            exact W.iret (v := x32_2) hx hb hr (fun t ht hW => ⟨⟨x32_2, (fun k => ([v32_0_2, v32_0_3, v32_0_4, v32_0_5, v32_0_6, v32_0_7] : List Int32).getD k 0, fun k => ([] : List (Nat → Int32)).getD k (fun _ => 0), fun k => ([] : List (Nat → Int64)).getD k (fun _ => 0)), rfl, trivial, hp_at ht hP⟩, hS.F ht⟩) hS.2.2 dX5_takeDeeds_72
          · have h_9 : rg 0 899 x32_3 := r_lt_l_i (nle_i c36) hx32_3 (rgn 900 (x := 900) (by decide)) (by decide)
            refine lv_aload_n hx hb dX5_takeDeeds_39 rfl (lv_at hl 0 rfl) ?_
            refine va_get (D := G) (ci := 5) (v := .int v32_0_2) (C := RX5) (T := TX5) (N := 8) hx hb hts (by decide +kernel) hown hK.1 hP 0 rfl rfl 2 (by decide) (hts (.fieldLink RX5 29 "CardHolder$Reader" "wrong" "I") (by decide +kernel)) (fun _ h9 => h9) rfl dX5_takeDeeds_40 ?_
            refine lv_if_ne (tgt := 71) hx hb dX5_takeDeeds_43 (by decide) (fun c43 => ?_) (fun c43 => ?_)
            · refine lv_iload_n hx hb dX5_takeDeeds_71 rfl (lv_at hl 2 rfl) ?_
              exact W.iret (v := x32_2) hx hb hr (fun t ht hW => ⟨⟨x32_2, (fun k => ([v32_0_2, v32_0_3, v32_0_4, v32_0_5, v32_0_6, v32_0_7] : List Int32).getD k 0, fun k => ([] : List (Nat → Int32)).getD k (fun _ => 0), fun k => ([] : List (Nat → Int64)).getD k (fun _ => 0)), rfl, trivial, hp_at ht hP⟩, hS.F ht⟩) hS.2.2 dX5_takeDeeds_72
            · have h_10 : rg 0 0 v32_0_2 := r_eq_l_i (e := 0) (f := 0) c43 (rg_t v32_0_2) (rgn 0 (x := 0) (by decide)) (by decide)
              refine lv_aload_n hx hb dX5_takeDeeds_46 rfl (lv_at hl 0 rfl) ?_
              refine va_get (D := G) (ci := 5) (v := .int v32_0_4) (C := RX5) (T := TX5) (N := 8) hx hb hts (by decide +kernel) hown hK.1 hP 0 rfl rfl 4 (by decide) (hts (.fieldLink RX5 38 "CardHolder$Reader" "kind" "I") (by decide +kernel)) (fun _ h9 => h9) rfl dX5_takeDeeds_47 ?_
              refine lv_iconst (v := 2) hx hb dX5_takeDeeds_50 (by decide) ?_
              refine lv_icmp_ne (tgt := 71) hx hb dX5_takeDeeds_51 (by decide) (fun c51 => ?_) (fun c51 => ?_)
              · refine lv_iload_n hx hb dX5_takeDeeds_71 rfl (lv_at hl 2 rfl) ?_
                exact W.iret (v := x32_2) hx hb hr (fun t ht hW => ⟨⟨x32_2, (fun k => ([v32_0_2, v32_0_3, v32_0_4, v32_0_5, v32_0_6, v32_0_7] : List Int32).getD k 0, fun k => ([] : List (Nat → Int32)).getD k (fun _ => 0), fun k => ([] : List (Nat → Int64)).getD k (fun _ => 0)), rfl, trivial, hp_at ht hP⟩, hS.F ht⟩) hS.2.2 dX5_takeDeeds_72
              · have h_11 : rg 2 2 v32_0_4 := r_eq_l_i (e := 2) (f := 2) c51 (rg_t v32_0_4) (rgn 2 (x := 2) (by decide)) (by decide)
                refine lv_iload_n hx hb dX5_takeDeeds_54 rfl (lv_at hl 2 rfl) ?_
                refine lv_iconst (v := 1) hx hb dX5_takeDeeds_55 (by decide) ?_
                refine lv_aload_n hx hb dX5_takeDeeds_56 rfl (lv_at hl 0 rfl) ?_
                refine lv_iconst (v := 0) hx hb dX5_takeDeeds_57 (by decide) ?_
                refine lv_iconst (v := 5) hx hb dX5_takeDeeds_58 (by decide) ?_
                refine wj_calli (wr := []) (w1 := (fun u : SU => [(a0, .inr (5, [.ref a1, .ref a3, .int (u.1 0), .int (u.1 1), .int (u.1 2), .int (u.1 3), .int (u.1 4), .int (u.1 5)])), (a1, .inr (8, [.ref a2, .int n1_1])), (a2, .inl (ct 1, 900, .inl f2))])) (va_runV (As := [.int 0, .int 5]) (rest := [.int 1, .int x32_2]) ⟨hx, hb, hml, hown, hts⟩ (a_X5_takeNumber l G ct a0 a1 a3 v32_0_2 v32_0_3 v32_0_4 v32_0_5 v32_0_6 v32_0_7 a2 n1_1 f2 (0 : Int32) (5 : Int32) hp_n1_1) (cwV 2 hts gX5_takeDeeds_X5_takeNumber rfl rfl rfl (by decide +kernel) ⟨Nat.le_of_ble_eq_true rfl, Nat.le_of_ble_eq_true rfl⟩) (wr_preV 5 0 hK (hP.sub [0, 1, 2] rfl) (hD.sub [0, 1, 2] (by decide) rfl) rfl rfl) rfl rfl hl.1 rfl (lv_room (Nat.le_of_ble_eq_true rfl)) dX5_takeDeeds_59 ⟨Nat.zero_le _, Nat.zero_le _⟩) hS hP hD [0, 1, 2] [] rfl rfl (by decide) (fun _ => rfl) (fun r59 ur59 H locs wr59 hP hD hS => ?_)
                have hP : va_P G vwCl [(a0, .inr (5, [.ref a1, .ref a3, .int (ur59.1 0), .int (ur59.1 1), .int (ur59.1 2), .int (ur59.1 3), .int (ur59.1 4), .int (ur59.1 5)])), (a1, .inr (8, [.ref a2, .int n1_1])), (a2, .inl (ct 1, 900, .inl f2))] H := hP.sub [0, 1, 2] rfl
                have hD : va_D A [(a0, .inr (5, [.ref a1, .ref a3, .int (ur59.1 0), .int (ur59.1 1), .int (ur59.1 2), .int (ur59.1 3), .int (ur59.1 4), .int (ur59.1 5)])), (a1, .inr (8, [.ref a2, .int n1_1])), (a2, .inl (ct 1, 900, .inl f2))] := hD.sub [0, 1, 2] (by decide) rfl
                refine lv_ishl hx hb dX5_takeDeeds_62 ?_
                refine nm_0 (fun z62 => ?_)
                refine lv_ior hx hb dX5_takeDeeds_63 ?_
                refine nm_0 (fun z63 => ?_)
                refine lv_istore_n (lv' := [(2, .int z63), (0, .ref a0), (1, .ref (adK w)), (3, .int x32_3)]) hx hb dX5_takeDeeds_64 rfl hl (by decide) rfl (fun ls hl => ?_)
                obtain ⟨z65, qz65⟩ : ∃ y : Int32, y = x32_3 + Int32.ofInt 1 := ⟨_, rfl⟩
                obtain ⟨hz65, ez65⟩ := inc_z (e := 1) (f := 900) h_9 qz65 (by decide)
                refine lv_iinc (v := z65) (lv' := [(3, .int z65), (2, .int z63), (0, .ref a0), (1, .ref (adK w))]) hx hb dX5_takeDeeds_65 hl (k := 3) rfl (qz65.symm) (by decide) rfl (fun ls hl => ?_)
                refine lv_goto (tgt := 32) hx hb dX5_takeDeeds_68 (by decide) ?_
                exact ih32 z63 z65 (ur59.1 0) (ur59.1 1) (ur59.1 2) (ur59.1 3) (ur59.1 4) (ur59.1 5) _ _ ls (by have q := hn32; have := ez65; omega) (rg_w (c := 0) (d := 900) hz65 (by decide)) hP hD hS (lv_sub hl [2, 3, 1, 0] rfl)
      exact j32 4294967296 z28 (0 : Int32) (ur25.1 0) (ur25.1 1) (ur25.1 2) (ur25.1 3) (ur25.1 4) (ur25.1 5) _ _ ls (ms_e (0 : Int32)) (rg_w (c := 0) (d := 900) (rgn 0 (x := 0) (by decide)) (by decide)) hP hD hS (lv_sub hl [2, 3, 1, 0] rfl)
    · have h_12 : rg 0 0 r9 := r_eq_l_i (e := 0) (f := 0) c12 p_2 (rgn 0 (x := 0) (by decide)) (by decide)
      refine lv_iconst (v := 0) hx hb dX5_takeDeeds_15 (by decide) ?_
      exact W.iret (v := 0) hx hb hr (fun t ht hW => ⟨⟨0, (fun k => ([n0_2, n0_3, n0_4, n0_5, n0_6, n0_7] : List Int32).getD k 0, fun k => ([] : List (Nat → Int32)).getD k (fun _ => 0), fun k => ([] : List (Nat → Int64)).getD k (fun _ => 0)), rfl, trivial, hp_at ht hP⟩, hS.F ht⟩) hS.2.2 dX5_takeDeeds_16

set_option maxHeartbeats 4000000 in
set_option maxRecDepth 100000 in
theorem a_X5_readCityLine (l : Launch) (G : va_G) (ct : Nat → ClassId) (a0 : Nat) (a1 : Nat) (a3 : Nat) (n0_2 : Int32) (n0_3 : Int32) (n0_4 : Int32) (n0_5 : Int32) (n0_6 : Int32) (n0_7 : Int32) (a2 : Nat) (n1_1 : Int32) (f2 : Nat → Int32) (a4 : Nat) (a6 : Nat) (a7 : Nat) (a8 : Nat) (a9 : Nat) (n3_5 : Int32) (n3_6 : Int32) (adK : Nat → Nat) (adV : Nat → Nat) (hp_n1_1 : rg 0 900 n1_1) : Met l yX5_readCityLine wsX5_readCityLine ({ frames := 8, cells := 0, slots := 0, locals := 209 }) (va_Pc [.ref a0] (wrSP G ct adK adV [(a0, .inr (5, [.ref a1, .ref a3, .int n0_2, .int n0_3, .int n0_4, .int n0_5, .int n0_6, .int n0_7])), (a1, .inr (8, [.ref a2, .int n1_1])), (a2, .inl (ct 1, 900, .inl f2)), (a3, .inr (9, [.ref a4, .ref a6, .ref a7, .ref a8, .ref a9, .int n3_5, .int n3_6]))])) (va_Qv (fun u : SU => True) (fun u t => va_P G vwCl ((fun u : SU => [(a0, .inr (5, [.ref a1, .ref a3, .int (u.1 0), .int (u.1 1), .int (u.1 2), .int (u.1 3), .int (u.1 4), .int (u.1 5)])), (a1, .inr (8, [.ref a2, .int n1_1])), (a2, .inl (ct 1, 900, .inl f2)), (a3, .inr (9, [.ref a4, .ref a6, .ref a7, .ref a8, .ref a9, .int n3_5, .int (u.1 6)]))]) u) t.heap) (aset [(a0, .inr (5, [.ref a1, .ref a3, .int n0_2, .int n0_3, .int n0_4, .int n0_5, .int n0_6, .int n0_7])), (a1, .inr (8, [.ref a2, .int n1_1])), (a2, .inl (ct 1, 900, .inl f2)), (a3, .inr (9, [.ref a4, .ref a6, .ref a7, .ref a8, .ref a9, .int n3_5, .int n3_6]))])) 0 0 (aset [(a0, .inr (5, [.ref a1, .ref a3, .int n0_2, .int n0_3, .int n0_4, .int n0_5, .int n0_6, .int n0_7])), (a1, .inr (8, [.ref a2, .int n1_1])), (a2, .inl (ct 1, 900, .inl f2)), (a3, .inr (9, [.ref a4, .ref a6, .ref a7, .ref a8, .ref a9, .int n3_5, .int n3_6]))]) := by
  refine Met.ofW (cc := cX5_readCityLine) (maxL := 1) (ret := none) (by decide) rfl ?_
  intro p e s m args below meth c s₁ B hml hv
  obtain ⟨rfl, hP, hK, hD0, hZ⟩ := hv
  have hx := B.exec
  have hb := B.bytes
  have hr := B.returns
  have hts := atoms_spec (ws := wsX5_readCityLine) B.pre
  have hown : s.vm.findClass RX5 = some m.cls := findClass_of_methodNamed B.named
  have hlocks := B.notSynchronized
  have hD := hD0.aself
  generalize hAe : aset [(a0, .inr (5, [.ref a1, .ref a3, .int n0_2, .int n0_3, .int n0_4, .int n0_5, .int n0_6, .int n0_7])), (a1, .inr (8, [.ref a2, .int n1_1])), (a2, .inl (ct 1, 900, .inl f2)), (a3, .inr (9, [.ref a4, .ref a6, .ref a7, .ref a8, .ref a9, .int n3_5, .int n3_6]))] = A at hD hZ ⊢
  have hS : va_S A s.heap s.heap [] := va_S.rf
  have hl := lv_entry ([.ref a0]) (n := 1) (Nat.le_of_ble_eq_true rfl)
  rw [lg_entry_eq]
  generalize (lg_sl ([.ref a0]) ++ List.replicate (1 - (lg_sl ([.ref a0])).length) Slot.unset).toArray = ls at hl ⊢
  have hl : lv_has ls 1 [(0, .ref a0)] := hl
  refine lv_aload_n hx hb dX5_readCityLine_0 rfl (lv_at hl 0 rfl) ?_
  refine va_ldcS hx hb hown (show vk_R RX5 68 "city" (adK 2) s from hZ.2.2.2 2 (by decide)) dX5_readCityLine_1 ?_
  refine wj_callv (wr := [(a3, .inr (9, [.ref a4, .ref a6, .ref a7, .ref a8, .ref a9, .int n3_5, .int n3_6]))]) (w1 := (fun u : SU => [(a0, .inr (5, [.ref a1, .ref a3, .int (u.1 0), .int (u.1 1), .int (u.1 2), .int (u.1 3), .int (u.1 4), .int (u.1 5)])), (a1, .inr (8, [.ref a2, .int n1_1])), (a2, .inl (ct 1, 900, .inl f2))])) (va_runV (As := [.ref (adK 2)]) (rest := []) ⟨hx, hb, hml, hown, hts⟩ (a_X5_takeWord l G ct a0 a1 a3 n0_2 n0_3 n0_4 n0_5 n0_6 n0_7 a2 n1_1 f2 adK adV (2 : Nat) (by decide) hp_n1_1) (cwV 1 hts gX5_readCityLine_X5_takeWord rfl rfl rfl (by decide +kernel) ⟨Nat.le_of_ble_eq_true rfl, Nat.le_of_ble_eq_true rfl⟩) (wrS_preV 5 0 hK (hP.sub [0, 1, 2] rfl) (hD.sub [0, 1, 2] (by decide) rfl) ((hZ.kept hS.2.1).narrow (fun q h => aset_in hD [0, 1, 2] rfl q h)) rfl rfl) rfl rfl hl.1 rfl (lv_room (Nat.le_of_ble_eq_true rfl)) dX5_readCityLine_3 ⟨Nat.zero_le _, Nat.zero_le _⟩) hS hP hD [0, 1, 2] [3] rfl rfl (by decide) (fun _ => rfl) (fun ur3 H locs wr3 hP hD hS => ?_)
  have hP : va_P G vwCl [(a0, .inr (5, [.ref a1, .ref a3, .int (ur3.1 0), .int (ur3.1 1), .int (ur3.1 2), .int (ur3.1 3), .int (ur3.1 4), .int (ur3.1 5)])), (a1, .inr (8, [.ref a2, .int n1_1])), (a2, .inl (ct 1, 900, .inl f2)), (a3, .inr (9, [.ref a4, .ref a6, .ref a7, .ref a8, .ref a9, .int n3_5, .int n3_6]))] H := hP.sub [1, 2, 3, 0] rfl
  have hD : va_D A [(a0, .inr (5, [.ref a1, .ref a3, .int (ur3.1 0), .int (ur3.1 1), .int (ur3.1 2), .int (ur3.1 3), .int (ur3.1 4), .int (ur3.1 5)])), (a1, .inr (8, [.ref a2, .int n1_1])), (a2, .inl (ct 1, 900, .inl f2)), (a3, .inr (9, [.ref a4, .ref a6, .ref a7, .ref a8, .ref a9, .int n3_5, .int n3_6]))] := hD.sub [1, 2, 3, 0] (by decide) rfl
  refine lv_aload_n hx hb dX5_readCityLine_6 rfl (lv_at hl 0 rfl) ?_
  refine va_ldcS hx hb hown (show vk_R RX5 74 "wear" (adK 3) s from hZ.2.2.2 3 (by decide)) dX5_readCityLine_7 ?_
  refine wj_callv (wr := [(a3, .inr (9, [.ref a4, .ref a6, .ref a7, .ref a8, .ref a9, .int n3_5, .int n3_6]))]) (w1 := (fun u : SU => [(a0, .inr (5, [.ref a1, .ref a3, .int (u.1 0), .int (u.1 1), .int (u.1 2), .int (u.1 3), .int (u.1 4), .int (u.1 5)])), (a1, .inr (8, [.ref a2, .int n1_1])), (a2, .inl (ct 1, 900, .inl f2))])) (va_runV (As := [.ref (adK 3)]) (rest := []) ⟨hx, hb, hml, hown, hts⟩ (a_X5_takeWord l G ct a0 a1 a3 (ur3.1 0) (ur3.1 1) (ur3.1 2) (ur3.1 3) (ur3.1 4) (ur3.1 5) a2 n1_1 f2 adK adV (3 : Nat) (by decide) hp_n1_1) (cwV 1 hts gX5_readCityLine_X5_takeWord rfl rfl rfl (by decide +kernel) ⟨Nat.le_of_ble_eq_true rfl, Nat.le_of_ble_eq_true rfl⟩) (wrS_preV 5 0 hK (hP.sub [0, 1, 2] rfl) (hD.sub [0, 1, 2] (by decide) rfl) ((hZ.kept hS.2.1).narrow (fun q h => aset_in hD [0, 1, 2] rfl q h)) rfl rfl) rfl rfl hl.1 rfl (lv_room (Nat.le_of_ble_eq_true rfl)) dX5_readCityLine_9 ⟨Nat.zero_le _, Nat.zero_le _⟩) hS hP hD [0, 1, 2] [3] rfl rfl (by decide) (fun _ => rfl) (fun ur9 H locs wr9 hP hD hS => ?_)
  have hP : va_P G vwCl [(a0, .inr (5, [.ref a1, .ref a3, .int (ur9.1 0), .int (ur9.1 1), .int (ur9.1 2), .int (ur9.1 3), .int (ur9.1 4), .int (ur9.1 5)])), (a1, .inr (8, [.ref a2, .int n1_1])), (a2, .inl (ct 1, 900, .inl f2)), (a3, .inr (9, [.ref a4, .ref a6, .ref a7, .ref a8, .ref a9, .int n3_5, .int n3_6]))] H := hP.sub [1, 2, 3, 0] rfl
  have hD : va_D A [(a0, .inr (5, [.ref a1, .ref a3, .int (ur9.1 0), .int (ur9.1 1), .int (ur9.1 2), .int (ur9.1 3), .int (ur9.1 4), .int (ur9.1 5)])), (a1, .inr (8, [.ref a2, .int n1_1])), (a2, .inl (ct 1, 900, .inl f2)), (a3, .inr (9, [.ref a4, .ref a6, .ref a7, .ref a8, .ref a9, .int n3_5, .int n3_6]))] := hD.sub [1, 2, 3, 0] (by decide) rfl
  refine lv_aload_n hx hb dX5_readCityLine_12 rfl (lv_at hl 0 rfl) ?_
  refine va_get (D := G) (ci := 5) (v := .ref a3) (C := RX5) (T := TX5) (N := 8) hx hb hts (by decide +kernel) hown hK.1 hP 0 rfl rfl 1 (by decide) (hts (.fieldLink RX5 12 "CardHolder$Reader" "draft" "LCardHolder$Town;") (by decide +kernel)) (fun _ h9 => h9) rfl dX5_readCityLine_13 ?_
  refine lv_aload_n hx hb dX5_readCityLine_16 rfl (lv_at hl 0 rfl) ?_
  refine lv_iconst (v := 1) hx hb dX5_readCityLine_17 (by decide) ?_
  refine lv_bipush (v := 9) hx hb dX5_readCityLine_18 (by decide) ?_
  refine wj_calli (wr := [(a3, .inr (9, [.ref a4, .ref a6, .ref a7, .ref a8, .ref a9, .int n3_5, .int n3_6]))]) (w1 := (fun u : SU => [(a0, .inr (5, [.ref a1, .ref a3, .int (u.1 0), .int (u.1 1), .int (u.1 2), .int (u.1 3), .int (u.1 4), .int (u.1 5)])), (a1, .inr (8, [.ref a2, .int n1_1])), (a2, .inl (ct 1, 900, .inl f2))])) (va_runV (As := [.int 1, .int 9]) (rest := [.ref a3]) ⟨hx, hb, hml, hown, hts⟩ (a_X5_takeNumber l G ct a0 a1 a3 (ur9.1 0) (ur9.1 1) (ur9.1 2) (ur9.1 3) (ur9.1 4) (ur9.1 5) a2 n1_1 f2 (1 : Int32) (9 : Int32) hp_n1_1) (cwV 2 hts gX5_readCityLine_X5_takeNumber rfl rfl rfl (by decide +kernel) ⟨Nat.le_of_ble_eq_true rfl, Nat.le_of_ble_eq_true rfl⟩) (wr_preV 5 0 hK (hP.sub [0, 1, 2] rfl) (hD.sub [0, 1, 2] (by decide) rfl) rfl rfl) rfl rfl hl.1 rfl (lv_room (Nat.le_of_ble_eq_true rfl)) dX5_readCityLine_20 ⟨Nat.zero_le _, Nat.zero_le _⟩) hS hP hD [0, 1, 2] [3] rfl rfl (by decide) (fun _ => rfl) (fun r20 ur20 H locs wr20 hP hD hS => ?_)
  have hP : va_P G vwCl [(a0, .inr (5, [.ref a1, .ref a3, .int (ur20.1 0), .int (ur20.1 1), .int (ur20.1 2), .int (ur20.1 3), .int (ur20.1 4), .int (ur20.1 5)])), (a1, .inr (8, [.ref a2, .int n1_1])), (a2, .inl (ct 1, 900, .inl f2)), (a3, .inr (9, [.ref a4, .ref a6, .ref a7, .ref a8, .ref a9, .int n3_5, .int n3_6]))] H := hP.sub [1, 2, 3, 0] rfl
  have hD : va_D A [(a0, .inr (5, [.ref a1, .ref a3, .int (ur20.1 0), .int (ur20.1 1), .int (ur20.1 2), .int (ur20.1 3), .int (ur20.1 4), .int (ur20.1 5)])), (a1, .inr (8, [.ref a2, .int n1_1])), (a2, .inl (ct 1, 900, .inl f2)), (a3, .inr (9, [.ref a4, .ref a6, .ref a7, .ref a8, .ref a9, .int n3_5, .int n3_6]))] := hD.sub [1, 2, 3, 0] (by decide) rfl
  refine va_put (D := G) (ci := 9) (v := .int r20) (ty := .int) (C := RX9) (T := TX9) (N := 7) hx hb hts (by decide +kernel) tyX9 tyX9_ok nmX9 hown hK.1 hP hD hS 3 rfl rfl 6 (by decide) (hts (.fieldLink RX5 80 "CardHolder$Town" "wear" "I") (by decide +kernel)) (fun _ h9 => h9) rfl (by decide +kernel) rfl rfl (Nat.le_of_ble_eq_true rfl) dX5_readCityLine_23 (fun H locs hP hD hS => ?_)
  exact W.vret hx hb hr (fun t ht hW => ⟨⟨(fun k => ([ur20.1 0, ur20.1 1, ur20.1 2, ur20.1 3, ur20.1 4, ur20.1 5, r20] : List Int32).getD k 0, fun k => ([] : List (Nat → Int32)).getD k (fun _ => 0), fun k => ([] : List (Nat → Int64)).getD k (fun _ => 0)), rfl, trivial, hp_at ht hP⟩, hS.F ht⟩) hS.2.2 dX5_readCityLine_26

set_option maxHeartbeats 4000000 in
set_option maxRecDepth 100000 in
theorem a_X5_readCardLine (l : Launch) (G : va_G) (ct : Nat → ClassId) (a0 : Nat) (a1 : Nat) (a3 : Nat) (n0_2 : Int32) (n0_3 : Int32) (n0_4 : Int32) (n0_5 : Int32) (n0_6 : Int32) (n0_7 : Int32) (a2 : Nat) (n1_1 : Int32) (f2 : Nat → Int32) (a4 : Nat) (a6 : Nat) (a7 : Nat) (a8 : Nat) (a9 : Nat) (n3_5 : Int32) (n3_6 : Int32) (a5 : Nat) (n4_1 : Int32) (f5 : Nat → Int32) (f9 : Nat → Int32) (adK : Nat → Nat) (adV : Nat → Nat) (hp_n1_1 : rg 0 900 n1_1) (hp_n4_1 : rg 0 8 n4_1) : Met l yX5_readCardLine wsX5_readCardLine ({ frames := 8, cells := 0, slots := 0, locals := 209 }) (va_Pc [.ref a0] (wrSP G ct adK adV [(a0, .inr (5, [.ref a1, .ref a3, .int n0_2, .int n0_3, .int n0_4, .int n0_5, .int n0_6, .int n0_7])), (a1, .inr (8, [.ref a2, .int n1_1])), (a2, .inl (ct 1, 900, .inl f2)), (a3, .inr (9, [.ref a4, .ref a6, .ref a7, .ref a8, .ref a9, .int n3_5, .int n3_6])), (a4, .inr (0, [.ref a5, .int n4_1])), (a5, .inl (ct 0, 8, .inl f5)), (a9, .inl (ct 0, 8, .inl f9))])) (va_Qv (fun u : SU => True) (fun u t => va_P G vwCl ((fun u : SU => [(a0, .inr (5, [.ref a1, .ref a3, .int (u.1 0), .int (u.1 1), .int (u.1 2), .int (u.1 3), .int (u.1 4), .int (u.1 5)])), (a1, .inr (8, [.ref a2, .int n1_1])), (a2, .inl (ct 1, 900, .inl f2)), (a3, .inr (9, [.ref a4, .ref a6, .ref a7, .ref a8, .ref a9, .int n3_5, .int n3_6])), (a4, .inr (0, [.ref a5, .int n4_1])), (a5, .inl (ct 0, 8, .inl (u.2.1 0))), (a9, .inl (ct 0, 8, .inl (u.2.1 1)))]) u) t.heap) (aset [(a0, .inr (5, [.ref a1, .ref a3, .int n0_2, .int n0_3, .int n0_4, .int n0_5, .int n0_6, .int n0_7])), (a1, .inr (8, [.ref a2, .int n1_1])), (a2, .inl (ct 1, 900, .inl f2)), (a3, .inr (9, [.ref a4, .ref a6, .ref a7, .ref a8, .ref a9, .int n3_5, .int n3_6])), (a4, .inr (0, [.ref a5, .int n4_1])), (a5, .inl (ct 0, 8, .inl f5)), (a9, .inl (ct 0, 8, .inl f9))])) 0 0 (aset [(a0, .inr (5, [.ref a1, .ref a3, .int n0_2, .int n0_3, .int n0_4, .int n0_5, .int n0_6, .int n0_7])), (a1, .inr (8, [.ref a2, .int n1_1])), (a2, .inl (ct 1, 900, .inl f2)), (a3, .inr (9, [.ref a4, .ref a6, .ref a7, .ref a8, .ref a9, .int n3_5, .int n3_6])), (a4, .inr (0, [.ref a5, .int n4_1])), (a5, .inl (ct 0, 8, .inl f5)), (a9, .inl (ct 0, 8, .inl f9))]) := by
  refine Met.ofW (cc := cX5_readCardLine) (maxL := 4) (ret := none) (by decide) rfl ?_
  intro p e s m args below meth c s₁ B hml hv
  obtain ⟨rfl, hP, hK, hD0, hZ⟩ := hv
  have hx := B.exec
  have hb := B.bytes
  have hr := B.returns
  have hts := atoms_spec (ws := wsX5_readCardLine) B.pre
  have hown : s.vm.findClass RX5 = some m.cls := findClass_of_methodNamed B.named
  have hlocks := B.notSynchronized
  have hD := hD0.aself
  generalize hAe : aset [(a0, .inr (5, [.ref a1, .ref a3, .int n0_2, .int n0_3, .int n0_4, .int n0_5, .int n0_6, .int n0_7])), (a1, .inr (8, [.ref a2, .int n1_1])), (a2, .inl (ct 1, 900, .inl f2)), (a3, .inr (9, [.ref a4, .ref a6, .ref a7, .ref a8, .ref a9, .int n3_5, .int n3_6])), (a4, .inr (0, [.ref a5, .int n4_1])), (a5, .inl (ct 0, 8, .inl f5)), (a9, .inl (ct 0, 8, .inl f9))] = A at hD hZ ⊢
  have hS : va_S A s.heap s.heap [] := va_S.rf
  have hl := lv_entry ([.ref a0]) (n := 4) (Nat.le_of_ble_eq_true rfl)
  rw [lg_entry_eq]
  generalize (lg_sl ([.ref a0]) ++ List.replicate (4 - (lg_sl ([.ref a0])).length) Slot.unset).toArray = ls at hl ⊢
  have hl : lv_has ls 4 [(0, .ref a0)] := hl
  refine lv_aload_n hx hb dX5_readCardLine_0 rfl (lv_at hl 0 rfl) ?_
  refine va_ldcS hx hb hown (show vk_R RX5 56 "card" (adK 1) s from hZ.2.2.2 1 (by decide)) dX5_readCardLine_1 ?_
  refine wj_callv (wr := [(a3, .inr (9, [.ref a4, .ref a6, .ref a7, .ref a8, .ref a9, .int n3_5, .int n3_6])), (a4, .inr (0, [.ref a5, .int n4_1])), (a5, .inl (ct 0, 8, .inl f5)), (a9, .inl (ct 0, 8, .inl f9))]) (w1 := (fun u : SU => [(a0, .inr (5, [.ref a1, .ref a3, .int (u.1 0), .int (u.1 1), .int (u.1 2), .int (u.1 3), .int (u.1 4), .int (u.1 5)])), (a1, .inr (8, [.ref a2, .int n1_1])), (a2, .inl (ct 1, 900, .inl f2))])) (va_runV (As := [.ref (adK 1)]) (rest := []) ⟨hx, hb, hml, hown, hts⟩ (a_X5_takeWord l G ct a0 a1 a3 n0_2 n0_3 n0_4 n0_5 n0_6 n0_7 a2 n1_1 f2 adK adV (1 : Nat) (by decide) hp_n1_1) (cwV 1 hts gX5_readCardLine_X5_takeWord rfl rfl rfl (by decide +kernel) ⟨Nat.le_of_ble_eq_true rfl, Nat.le_of_ble_eq_true rfl⟩) (wrS_preV 5 0 hK (hP.sub [0, 1, 2] rfl) (hD.sub [0, 1, 2] (by decide) rfl) ((hZ.kept hS.2.1).narrow (fun q h => aset_in hD [0, 1, 2] rfl q h)) rfl rfl) rfl rfl hl.1 rfl (lv_room (Nat.le_of_ble_eq_true rfl)) dX5_readCardLine_3 ⟨Nat.zero_le _, Nat.zero_le _⟩) hS hP hD [0, 1, 2] [3, 4, 5, 6] rfl rfl (by decide) (fun _ => rfl) (fun ur3 H locs wr3 hP hD hS => ?_)
  have hP : va_P G vwCl [(a0, .inr (5, [.ref a1, .ref a3, .int (ur3.1 0), .int (ur3.1 1), .int (ur3.1 2), .int (ur3.1 3), .int (ur3.1 4), .int (ur3.1 5)])), (a1, .inr (8, [.ref a2, .int n1_1])), (a2, .inl (ct 1, 900, .inl f2)), (a3, .inr (9, [.ref a4, .ref a6, .ref a7, .ref a8, .ref a9, .int n3_5, .int n3_6])), (a4, .inr (0, [.ref a5, .int n4_1])), (a5, .inl (ct 0, 8, .inl f5)), (a9, .inl (ct 0, 8, .inl f9))] H := hP.sub [4, 5, 6, 0, 1, 2, 3] rfl
  have hD : va_D A [(a0, .inr (5, [.ref a1, .ref a3, .int (ur3.1 0), .int (ur3.1 1), .int (ur3.1 2), .int (ur3.1 3), .int (ur3.1 4), .int (ur3.1 5)])), (a1, .inr (8, [.ref a2, .int n1_1])), (a2, .inl (ct 1, 900, .inl f2)), (a3, .inr (9, [.ref a4, .ref a6, .ref a7, .ref a8, .ref a9, .int n3_5, .int n3_6])), (a4, .inr (0, [.ref a5, .int n4_1])), (a5, .inl (ct 0, 8, .inl f5)), (a9, .inl (ct 0, 8, .inl f9))] := hD.sub [4, 5, 6, 0, 1, 2, 3] (by decide) rfl
  refine lv_aload_n hx hb dX5_readCardLine_6 rfl (lv_at hl 0 rfl) ?_
  refine va_get (D := G) (ci := 5) (v := .int (ur3.1 0)) (C := RX5) (T := TX5) (N := 8) hx hb hts (by decide +kernel) hown hK.1 hP 0 rfl rfl 2 (by decide) (hts (.fieldLink RX5 29 "CardHolder$Reader" "wrong" "I") (by decide +kernel)) (fun _ h9 => h9) rfl dX5_readCardLine_7 ?_
  have j44 : ∀ (v44_0_2 : Int32) (v44_0_3 : Int32) (H : Heap) (locs : List Loc) (ls : Array Slot), va_P G vwCl [(a0, .inr (5, [.ref a1, .ref a3, .int v44_0_2, .int v44_0_3, .int (ur3.1 2), .int (ur3.1 3), .int (ur3.1 4), .int (ur3.1 5)])), (a1, .inr (8, [.ref a2, .int n1_1])), (a2, .inl (ct 1, 900, .inl f2)), (a3, .inr (9, [.ref a4, .ref a6, .ref a7, .ref a8, .ref a9, .int n3_5, .int n3_6])), (a4, .inr (0, [.ref a5, .int n4_1])), (a5, .inl (ct 0, 8, .inl f5)), (a9, .inl (ct 0, 8, .inl f9))] H → va_D A [(a0, .inr (5, [.ref a1, .ref a3, .int v44_0_2, .int v44_0_3, .int (ur3.1 2), .int (ur3.1 3), .int (ur3.1 4), .int (ur3.1 5)])), (a1, .inr (8, [.ref a2, .int n1_1])), (a2, .inl (ct 1, 900, .inl f2)), (a3, .inr (9, [.ref a4, .ref a6, .ref a7, .ref a8, .ref a9, .int n3_5, .int n3_6])), (a4, .inr (0, [.ref a5, .int n4_1])), (a5, .inl (ct 0, 8, .inl f5)), (a9, .inl (ct 0, 8, .inl f9))] → va_S A s.heap H locs → lv_has ls 4 [(0, .ref a0)] → W p l e (headSpec wsX5_readCardLine ({ frames := 8, cells := 0, slots := 0, locals := 209 })).room s m ([.ref a0] : List Value).toArray below meth c H locs 0 0 (MQ below (va_Qv (fun u : SU => True) (fun u t => va_P G vwCl ((fun u : SU => [(a0, .inr (5, [.ref a1, .ref a3, .int (u.1 0), .int (u.1 1), .int (u.1 2), .int (u.1 3), .int (u.1 4), .int (u.1 5)])), (a1, .inr (8, [.ref a2, .int n1_1])), (a2, .inl (ct 1, 900, .inl f2)), (a3, .inr (9, [.ref a4, .ref a6, .ref a7, .ref a8, .ref a9, .int n3_5, .int n3_6])), (a4, .inr (0, [.ref a5, .int n4_1])), (a5, .inl (ct 0, 8, .inl (u.2.1 0))), (a9, .inl (ct 0, 8, .inl (u.2.1 1)))]) u) t.heap) A) ([.ref a0] : List Value).toArray s 0 0 A) (F0 m 44 ls []) := by
    intro v44_0_2 v44_0_3 H locs ls  hP hD hS hl
    refine lv_aload_n hx hb dX5_readCardLine_44 rfl (lv_at hl 0 rfl) ?_
    refine va_get (D := G) (ci := 5) (v := .ref a3) (C := RX5) (T := TX5) (N := 8) hx hb hts (by decide +kernel) hown hK.1 hP 0 rfl rfl 1 (by decide) (hts (.fieldLink RX5 12 "CardHolder$Reader" "draft" "LCardHolder$Town;") (by decide +kernel)) (fun _ h9 => h9) rfl dX5_readCardLine_45 ?_
    refine va_get (D := G) (ci := 9) (v := .ref a4) (C := RX9) (T := TX9) (N := 7) hx hb hts (by decide +kernel) hown hK.1 hP 3 rfl rfl 0 (by decide) (hts (.fieldLink RX5 82 "CardHolder$Town" "bonds" "LCardHolder$Bonds;") (by decide +kernel)) (fun _ h9 => h9) rfl dX5_readCardLine_48 ?_
    refine va_get (D := G) (ci := 0) (v := .int n4_1) (C := RX0) (T := TX0) (N := 2) hx hb hts (by decide +kernel) hown hK.1 hP 4 rfl rfl 1 (by decide) (hts (.fieldLink RX5 86 "CardHolder$Bonds" "persons" "I") (by decide +kernel)) (fun _ h9 => h9) rfl dX5_readCardLine_51 ?_
    refine lv_iconst (v := 1) hx hb dX5_readCardLine_54 (by decide) ?_
    refine lv_isub hx hb dX5_readCardLine_55 ?_
    refine nm_sub (e1 := (-1)) (f := 7) hp_n4_1 (rgn 1 (x := 1) (by decide)) (by decide) (fun z55 hz55 ez55 => ?_)
    replace ez55 := eqc_s ez55 (c := (-1)) (by decide)
    refine lv_istore_n (lv' := [(1, .int z55), (0, .ref a0)]) hx hb dX5_readCardLine_56 rfl hl (by decide) rfl (fun ls hl => ?_)
    refine lv_aload_n hx hb dX5_readCardLine_57 rfl (lv_at hl 1 rfl) ?_
    refine lv_iconst (v := 0) hx hb dX5_readCardLine_58 (by decide) ?_
    refine lv_iload_n hx hb dX5_readCardLine_59 rfl (lv_at hl 0 rfl) ?_
    refine wj_calli (wr := [(a3, .inr (9, [.ref a4, .ref a6, .ref a7, .ref a8, .ref a9, .int n3_5, .int n3_6])), (a4, .inr (0, [.ref a5, .int n4_1])), (a5, .inl (ct 0, 8, .inl f5)), (a9, .inl (ct 0, 8, .inl f9))]) (w1 := (fun u : SU => [(a0, .inr (5, [.ref a1, .ref a3, .int (u.1 0), .int (u.1 1), .int (u.1 2), .int (u.1 3), .int (u.1 4), .int (u.1 5)])), (a1, .inr (8, [.ref a2, .int n1_1])), (a2, .inl (ct 1, 900, .inl f2))])) (va_runV (As := [.int 0, .int z55]) (rest := []) ⟨hx, hb, hml, hown, hts⟩ (a_X5_takeNumber l G ct a0 a1 a3 v44_0_2 v44_0_3 (ur3.1 2) (ur3.1 3) (ur3.1 4) (ur3.1 5) a2 n1_1 f2 (0 : Int32) z55 hp_n1_1) (cwV 2 hts gX5_readCardLine_X5_takeNumber rfl rfl rfl (by decide +kernel) ⟨Nat.le_of_ble_eq_true rfl, Nat.le_of_ble_eq_true rfl⟩) (wr_preV 5 0 hK (hP.sub [0, 1, 2] rfl) (hD.sub [0, 1, 2] (by decide) rfl) rfl rfl) rfl rfl hl.1 rfl (lv_room (Nat.le_of_ble_eq_true rfl)) dX5_readCardLine_60 ⟨Nat.zero_le _, Nat.zero_le _⟩) hS hP hD [0, 1, 2] [3, 4, 5, 6] rfl rfl (by decide) (fun _ => rfl) (fun r60 ur60 H locs wr60 hP hD hS => ?_)
    have hP : va_P G vwCl [(a0, .inr (5, [.ref a1, .ref a3, .int (ur60.1 0), .int (ur60.1 1), .int (ur60.1 2), .int (ur60.1 3), .int (ur60.1 4), .int (ur60.1 5)])), (a1, .inr (8, [.ref a2, .int n1_1])), (a2, .inl (ct 1, 900, .inl f2)), (a3, .inr (9, [.ref a4, .ref a6, .ref a7, .ref a8, .ref a9, .int n3_5, .int n3_6])), (a4, .inr (0, [.ref a5, .int n4_1])), (a5, .inl (ct 0, 8, .inl f5)), (a9, .inl (ct 0, 8, .inl f9))] H := hP.sub [4, 5, 6, 0, 1, 2, 3] rfl
    have hD : va_D A [(a0, .inr (5, [.ref a1, .ref a3, .int (ur60.1 0), .int (ur60.1 1), .int (ur60.1 2), .int (ur60.1 3), .int (ur60.1 4), .int (ur60.1 5)])), (a1, .inr (8, [.ref a2, .int n1_1])), (a2, .inl (ct 1, 900, .inl f2)), (a3, .inr (9, [.ref a4, .ref a6, .ref a7, .ref a8, .ref a9, .int n3_5, .int n3_6])), (a4, .inr (0, [.ref a5, .int n4_1])), (a5, .inl (ct 0, 8, .inl f5)), (a9, .inl (ct 0, 8, .inl f9))] := hD.sub [4, 5, 6, 0, 1, 2, 3] (by decide) rfl
    refine lv_istore_n (lv' := [(2, .int r60), (1, .int z55), (0, .ref a0)]) hx hb dX5_readCardLine_63 rfl hl (by decide) rfl (fun ls hl => ?_)
    refine lv_aload_n hx hb dX5_readCardLine_64 rfl (lv_at hl 2 rfl) ?_
    refine va_ldcS hx hb hown (show vk_R RX5 112 "to" (adK 7) s from hZ.2.2.2 7 (by decide)) dX5_readCardLine_65 ?_
    refine wj_callv (wr := [(a3, .inr (9, [.ref a4, .ref a6, .ref a7, .ref a8, .ref a9, .int n3_5, .int n3_6])), (a4, .inr (0, [.ref a5, .int n4_1])), (a5, .inl (ct 0, 8, .inl f5)), (a9, .inl (ct 0, 8, .inl f9))]) (w1 := (fun u : SU => [(a0, .inr (5, [.ref a1, .ref a3, .int (u.1 0), .int (u.1 1), .int (u.1 2), .int (u.1 3), .int (u.1 4), .int (u.1 5)])), (a1, .inr (8, [.ref a2, .int n1_1])), (a2, .inl (ct 1, 900, .inl f2))])) (va_runV (As := [.ref (adK 7)]) (rest := []) ⟨hx, hb, hml, hown, hts⟩ (a_X5_takeWord l G ct a0 a1 a3 (ur60.1 0) (ur60.1 1) (ur60.1 2) (ur60.1 3) (ur60.1 4) (ur60.1 5) a2 n1_1 f2 adK adV (7 : Nat) (by decide) hp_n1_1) (cwV 1 hts gX5_readCardLine_X5_takeWord rfl rfl rfl (by decide +kernel) ⟨Nat.le_of_ble_eq_true rfl, Nat.le_of_ble_eq_true rfl⟩) (wrS_preV 5 0 hK (hP.sub [0, 1, 2] rfl) (hD.sub [0, 1, 2] (by decide) rfl) ((hZ.kept hS.2.1).narrow (fun q h => aset_in hD [0, 1, 2] rfl q h)) rfl rfl) rfl rfl hl.1 rfl (lv_room (Nat.le_of_ble_eq_true rfl)) dX5_readCardLine_67 ⟨Nat.zero_le _, Nat.zero_le _⟩) hS hP hD [0, 1, 2] [3, 4, 5, 6] rfl rfl (by decide) (fun _ => rfl) (fun ur67 H locs wr67 hP hD hS => ?_)
    have hP : va_P G vwCl [(a0, .inr (5, [.ref a1, .ref a3, .int (ur67.1 0), .int (ur67.1 1), .int (ur67.1 2), .int (ur67.1 3), .int (ur67.1 4), .int (ur67.1 5)])), (a1, .inr (8, [.ref a2, .int n1_1])), (a2, .inl (ct 1, 900, .inl f2)), (a3, .inr (9, [.ref a4, .ref a6, .ref a7, .ref a8, .ref a9, .int n3_5, .int n3_6])), (a4, .inr (0, [.ref a5, .int n4_1])), (a5, .inl (ct 0, 8, .inl f5)), (a9, .inl (ct 0, 8, .inl f9))] H := hP.sub [4, 5, 6, 0, 1, 2, 3] rfl
    have hD : va_D A [(a0, .inr (5, [.ref a1, .ref a3, .int (ur67.1 0), .int (ur67.1 1), .int (ur67.1 2), .int (ur67.1 3), .int (ur67.1 4), .int (ur67.1 5)])), (a1, .inr (8, [.ref a2, .int n1_1])), (a2, .inl (ct 1, 900, .inl f2)), (a3, .inr (9, [.ref a4, .ref a6, .ref a7, .ref a8, .ref a9, .int n3_5, .int n3_6])), (a4, .inr (0, [.ref a5, .int n4_1])), (a5, .inl (ct 0, 8, .inl f5)), (a9, .inl (ct 0, 8, .inl f9))] := hD.sub [4, 5, 6, 0, 1, 2, 3] (by decide) rfl
    refine lv_aload_n hx hb dX5_readCardLine_70 rfl (lv_at hl 2 rfl) ?_
    refine lv_iconst (v := 0) hx hb dX5_readCardLine_71 (by decide) ?_
    refine lv_iload_n hx hb dX5_readCardLine_72 rfl (lv_at hl 1 rfl) ?_
    refine wj_calli (wr := [(a3, .inr (9, [.ref a4, .ref a6, .ref a7, .ref a8, .ref a9, .int n3_5, .int n3_6])), (a4, .inr (0, [.ref a5, .int n4_1])), (a5, .inl (ct 0, 8, .inl f5)), (a9, .inl (ct 0, 8, .inl f9))]) (w1 := (fun u : SU => [(a0, .inr (5, [.ref a1, .ref a3, .int (u.1 0), .int (u.1 1), .int (u.1 2), .int (u.1 3), .int (u.1 4), .int (u.1 5)])), (a1, .inr (8, [.ref a2, .int n1_1])), (a2, .inl (ct 1, 900, .inl f2))])) (va_runV (As := [.int 0, .int z55]) (rest := []) ⟨hx, hb, hml, hown, hts⟩ (a_X5_takeNumber l G ct a0 a1 a3 (ur67.1 0) (ur67.1 1) (ur67.1 2) (ur67.1 3) (ur67.1 4) (ur67.1 5) a2 n1_1 f2 (0 : Int32) z55 hp_n1_1) (cwV 2 hts gX5_readCardLine_X5_takeNumber rfl rfl rfl (by decide +kernel) ⟨Nat.le_of_ble_eq_true rfl, Nat.le_of_ble_eq_true rfl⟩) (wr_preV 5 0 hK (hP.sub [0, 1, 2] rfl) (hD.sub [0, 1, 2] (by decide) rfl) rfl rfl) rfl rfl hl.1 rfl (lv_room (Nat.le_of_ble_eq_true rfl)) dX5_readCardLine_73 ⟨Nat.zero_le _, Nat.zero_le _⟩) hS hP hD [0, 1, 2] [3, 4, 5, 6] rfl rfl (by decide) (fun _ => rfl) (fun r73 ur73 H locs wr73 hP hD hS => ?_)
    have hP : va_P G vwCl [(a0, .inr (5, [.ref a1, .ref a3, .int (ur73.1 0), .int (ur73.1 1), .int (ur73.1 2), .int (ur73.1 3), .int (ur73.1 4), .int (ur73.1 5)])), (a1, .inr (8, [.ref a2, .int n1_1])), (a2, .inl (ct 1, 900, .inl f2)), (a3, .inr (9, [.ref a4, .ref a6, .ref a7, .ref a8, .ref a9, .int n3_5, .int n3_6])), (a4, .inr (0, [.ref a5, .int n4_1])), (a5, .inl (ct 0, 8, .inl f5)), (a9, .inl (ct 0, 8, .inl f9))] H := hP.sub [4, 5, 6, 0, 1, 2, 3] rfl
    have hD : va_D A [(a0, .inr (5, [.ref a1, .ref a3, .int (ur73.1 0), .int (ur73.1 1), .int (ur73.1 2), .int (ur73.1 3), .int (ur73.1 4), .int (ur73.1 5)])), (a1, .inr (8, [.ref a2, .int n1_1])), (a2, .inl (ct 1, 900, .inl f2)), (a3, .inr (9, [.ref a4, .ref a6, .ref a7, .ref a8, .ref a9, .int n3_5, .int n3_6])), (a4, .inr (0, [.ref a5, .int n4_1])), (a5, .inl (ct 0, 8, .inl f5)), (a9, .inl (ct 0, 8, .inl f9))] := hD.sub [4, 5, 6, 0, 1, 2, 3] (by decide) rfl
    refine lv_istore_n (lv' := [(3, .int r73), (2, .int r60), (1, .int z55), (0, .ref a0)]) hx hb dX5_readCardLine_76 rfl hl (by decide) rfl (fun ls hl => ?_)
    refine lv_aload_n hx hb dX5_readCardLine_77 rfl (lv_at hl 3 rfl) ?_
    refine va_get (D := G) (ci := 5) (v := .int (ur73.1 0)) (C := RX5) (T := TX5) (N := 8) hx hb hts (by decide +kernel) hown hK.1 hP 0 rfl rfl 2 (by decide) (hts (.fieldLink RX5 29 "CardHolder$Reader" "wrong" "I") (by decide +kernel)) (fun _ h9 => h9) rfl dX5_readCardLine_78 ?_
    refine lv_if_ne (tgt := 98) hx hb dX5_readCardLine_81 (by decide) (fun c81 => ?_) (fun c81 => ?_)
    · exact W.vret hx hb hr (fun t ht hW => ⟨⟨(fun k => ([ur73.1 0, ur73.1 1, ur73.1 2, ur73.1 3, ur73.1 4, ur73.1 5] : List Int32).getD k 0, fun k => ([f5, f9] : List (Nat → Int32)).getD k (fun _ => 0), fun k => ([] : List (Nat → Int64)).getD k (fun _ => 0)), rfl, trivial, hp_at ht hP⟩, hS.F ht⟩) hS.2.2 dX5_readCardLine_98
    · have h_1 : rg 0 0 (ur73.1 0) := r_eq_l_i (e := 0) (f := 0) c81 (rg_t (ur73.1 0)) (rgn 0 (x := 0) (by decide)) (by decide)
      refine lv_aload_n hx hb dX5_readCardLine_84 rfl (lv_at hl 3 rfl) ?_
      refine va_get (D := G) (ci := 5) (v := .ref a3) (C := RX5) (T := TX5) (N := 8) hx hb hts (by decide +kernel) hown hK.1 hP 0 rfl rfl 1 (by decide) (hts (.fieldLink RX5 12 "CardHolder$Reader" "draft" "LCardHolder$Town;") (by decide +kernel)) (fun _ h9 => h9) rfl dX5_readCardLine_85 ?_
      refine va_get (D := G) (ci := 9) (v := .ref a4) (C := RX9) (T := TX9) (N := 7) hx hb hts (by decide +kernel) hown hK.1 hP 3 rfl rfl 0 (by decide) (hts (.fieldLink RX5 82 "CardHolder$Town" "bonds" "LCardHolder$Bonds;") (by decide +kernel)) (fun _ h9 => h9) rfl dX5_readCardLine_88 ?_
      refine lv_iload_n hx hb dX5_readCardLine_91 rfl (lv_at hl 1 rfl) ?_
      refine ro_calli (va_runV (As := [.int r60]) (rest := []) ⟨hx, hb, hml, hown, hts⟩ (a_X0_has l G ct a4 a5 n4_1 r60 hp_n4_1) (cwV 1 hts gX5_readCardLine_X0_has rfl rfl rfl (by decide +kernel) ⟨Nat.le_of_ble_eq_true rfl, Nat.le_of_ble_eq_true rfl⟩) (ro_preV 0 0 hK (hP.sub [4] rfl) rfl rfl) rfl rfl hl.1 rfl (lv_room (Nat.le_of_ble_eq_true rfl)) dX5_readCardLine_92 ⟨Nat.zero_le _, Nat.zero_le _⟩) hS hP (fun r92 H locs wr92 hP hS => ?_)
      obtain ⟨p_2, p_3, p_4, -⟩ := wr92
      refine lv_if_ne (tgt := 99) hx hb dX5_readCardLine_95 (by decide) (fun c95 => ?_) (fun c95 => ?_)
      · have h_5 : rg 1 1 r92 := r_ne_lo_i c95 p_2 (by decide) (by decide)
        have h_6 : rg 0 7 r60 := (p_3 (rne h_5 (y := 0) (c := 0) (by decide) (by decide)))
        have h_7 : rg 1 8 n4_1 := (p_4 (rne h_5 (y := 0) (c := 0) (by decide) (by decide)))
        refine lv_aload_n hx hb dX5_readCardLine_99 rfl (lv_at hl 3 rfl) ?_
        refine va_get (D := G) (ci := 5) (v := .ref a3) (C := RX5) (T := TX5) (N := 8) hx hb hts (by decide +kernel) hown hK.1 hP 0 rfl rfl 1 (by decide) (hts (.fieldLink RX5 12 "CardHolder$Reader" "draft" "LCardHolder$Town;") (by decide +kernel)) (fun _ h9 => h9) rfl dX5_readCardLine_100 ?_
        refine va_get (D := G) (ci := 9) (v := .ref a4) (C := RX9) (T := TX9) (N := 7) hx hb hts (by decide +kernel) hown hK.1 hP 3 rfl rfl 0 (by decide) (hts (.fieldLink RX5 82 "CardHolder$Town" "bonds" "LCardHolder$Bonds;") (by decide +kernel)) (fun _ h9 => h9) rfl dX5_readCardLine_103 ?_
        refine lv_iload_n hx hb dX5_readCardLine_106 rfl (lv_at hl 1 rfl) ?_
        refine lv_iload_n hx hb dX5_readCardLine_107 rfl (lv_at hl 0 rfl) ?_
        refine wj_callv (wr := [(a0, .inr (5, [.ref a1, .ref a3, .int (ur73.1 0), .int (ur73.1 1), .int (ur73.1 2), .int (ur73.1 3), .int (ur73.1 4), .int (ur73.1 5)])), (a1, .inr (8, [.ref a2, .int n1_1])), (a2, .inl (ct 1, 900, .inl f2)), (a3, .inr (9, [.ref a4, .ref a6, .ref a7, .ref a8, .ref a9, .int n3_5, .int n3_6])), (a9, .inl (ct 0, 8, .inl f9))]) (w1 := (fun u : SU => [(a4, .inr (0, [.ref a5, .int n4_1])), (a5, .inl (ct 0, 8, .inl (u.2.1 0)))])) (va_runV (As := [.int r60, .int r73]) (rest := []) ⟨hx, hb, hml, hown, hts⟩ (a_X0_put l G ct a4 a5 n4_1 f5 r60 r73 (rg_w (c := 0) (d := 8) h_7 (by decide))) (cwV 2 hts gX5_readCardLine_X0_put rfl rfl rfl (by decide +kernel) ⟨Nat.le_of_ble_eq_true rfl, Nat.le_of_ble_eq_true rfl⟩) (wr_preV 0 0 hK (hP.sub [4, 5] rfl) (hD.sub [4, 5] (by decide) rfl) rfl rfl) rfl rfl hl.1 rfl (lv_room (Nat.le_of_ble_eq_true rfl)) dX5_readCardLine_108 ⟨Nat.zero_le _, Nat.zero_le _⟩) hS hP hD [4, 5] [0, 1, 2, 3, 6] rfl rfl (by decide) (fun _ => rfl) (fun ur108 H locs wr108 hP hD hS => ?_)
        have hP : va_P G vwCl [(a0, .inr (5, [.ref a1, .ref a3, .int (ur73.1 0), .int (ur73.1 1), .int (ur73.1 2), .int (ur73.1 3), .int (ur73.1 4), .int (ur73.1 5)])), (a1, .inr (8, [.ref a2, .int n1_1])), (a2, .inl (ct 1, 900, .inl f2)), (a3, .inr (9, [.ref a4, .ref a6, .ref a7, .ref a8, .ref a9, .int n3_5, .int n3_6])), (a4, .inr (0, [.ref a5, .int n4_1])), (a5, .inl (ct 0, 8, .inl (ur108.2.1 0))), (a9, .inl (ct 0, 8, .inl f9))] H := hP.sub [0, 1, 2, 3, 5, 6, 4] rfl
        have hD : va_D A [(a0, .inr (5, [.ref a1, .ref a3, .int (ur73.1 0), .int (ur73.1 1), .int (ur73.1 2), .int (ur73.1 3), .int (ur73.1 4), .int (ur73.1 5)])), (a1, .inr (8, [.ref a2, .int n1_1])), (a2, .inl (ct 1, 900, .inl f2)), (a3, .inr (9, [.ref a4, .ref a6, .ref a7, .ref a8, .ref a9, .int n3_5, .int n3_6])), (a4, .inr (0, [.ref a5, .int n4_1])), (a5, .inl (ct 0, 8, .inl (ur108.2.1 0))), (a9, .inl (ct 0, 8, .inl f9))] := hD.sub [0, 1, 2, 3, 5, 6, 4] (by decide) rfl
        refine lv_aload_n hx hb dX5_readCardLine_111 rfl (lv_at hl 3 rfl) ?_
        refine va_ldcS hx hb hown (show vk_R RX5 122 "forged" (adK 8) s from hZ.2.2.2 8 (by decide)) dX5_readCardLine_112 ?_
        refine ro_calli (va_runV (As := [.ref (adK 8)]) (rest := []) ⟨hx, hb, hml, hown, hts⟩ (a_X5_isWord l G ct a0 a1 a3 (ur73.1 0) (ur73.1 1) (ur73.1 2) (ur73.1 3) (ur73.1 4) (ur73.1 5) a2 n1_1 f2 adK adV (8 : Nat) (by decide) hp_n1_1) (cwV 1 hts gX5_readCardLine_X5_isWord rfl rfl rfl (by decide +kernel) ⟨Nat.le_of_ble_eq_true rfl, Nat.le_of_ble_eq_true rfl⟩) (roS_preV 5 0 hK (hP.sub [0, 1, 2] rfl) ((hZ.kept hS.2.1).narrow (fun q h => h.elim)) rfl rfl) rfl rfl hl.1 rfl (lv_room (Nat.le_of_ble_eq_true rfl)) dX5_readCardLine_114 ⟨Nat.zero_le _, Nat.zero_le _⟩) hS hP (fun r114 H locs wr114 hP hS => ?_)
        obtain ⟨p_8, p_9, -⟩ := wr114
        refine lv_if_eq (tgt := 134) hx hb dX5_readCardLine_117 (by decide) (fun c117 => ?_) (fun c117 => ?_)
        · have h_10 : rg 0 0 r114 := r_eq_l_i (e := 0) (f := 0) c117 p_8 (rgn 0 (x := 0) (by decide)) (by decide)
          exact W.vret hx hb hr (fun t ht hW => ⟨⟨(fun k => ([ur73.1 0, ur73.1 1, ur73.1 2, ur73.1 3, ur73.1 4, ur73.1 5] : List Int32).getD k 0, fun k => ([ur108.2.1 0, f9] : List (Nat → Int32)).getD k (fun _ => 0), fun k => ([] : List (Nat → Int64)).getD k (fun _ => 0)), rfl, trivial, hp_at ht hP⟩, hS.F ht⟩) hS.2.2 dX5_readCardLine_134
        · have h_11 : rg 1 1 r114 := r_ne_lo_i c117 p_8 (by decide) (by decide)
          have h_12 : rg 1 1 (ur73.1 2) := (p_9 (rne h_11 (y := 0) (c := 0) (by decide) (by decide)))
          refine lv_aload_n hx hb dX5_readCardLine_120 rfl (lv_at hl 3 rfl) ?_
          refine wj_callv (wr := [(a3, .inr (9, [.ref a4, .ref a6, .ref a7, .ref a8, .ref a9, .int n3_5, .int n3_6])), (a4, .inr (0, [.ref a5, .int n4_1])), (a5, .inl (ct 0, 8, .inl (ur108.2.1 0))), (a9, .inl (ct 0, 8, .inl f9))]) (w1 := (fun u : SU => [(a0, .inr (5, [.ref a1, .ref a3, .int (ur73.1 0), .int (ur73.1 1), .int (u.1 0), .int (u.1 1), .int (u.1 2), .int (u.1 3)])), (a1, .inr (8, [.ref a2, .int n1_1])), (a2, .inl (ct 1, 900, .inl f2))])) (va_runV (As := []) (rest := []) ⟨hx, hb, hml, hown, hts⟩ (a_X5_step l G ct a0 a1 a3 (ur73.1 0) (ur73.1 1) (ur73.1 2) (ur73.1 3) (ur73.1 4) (ur73.1 5) a2 n1_1 f2 hp_n1_1) (cwV 0 hts gX5_readCardLine_X5_step rfl rfl rfl (by decide +kernel) ⟨Nat.le_of_ble_eq_true rfl, Nat.le_of_ble_eq_true rfl⟩) (wr_preV 5 0 hK (hP.sub [0, 1, 2] rfl) (hD.sub [0, 1, 2] (by decide) rfl) rfl rfl) rfl rfl hl.1 rfl (lv_room (Nat.le_of_ble_eq_true rfl)) dX5_readCardLine_121 ⟨Nat.zero_le _, Nat.zero_le _⟩) hS hP hD [0, 1, 2] [3, 4, 5, 6] rfl rfl (by decide) (fun _ => rfl) (fun ur121 H locs wr121 hP hD hS => ?_)
          have hP : va_P G vwCl [(a0, .inr (5, [.ref a1, .ref a3, .int (ur73.1 0), .int (ur73.1 1), .int (ur121.1 0), .int (ur121.1 1), .int (ur121.1 2), .int (ur121.1 3)])), (a1, .inr (8, [.ref a2, .int n1_1])), (a2, .inl (ct 1, 900, .inl f2)), (a3, .inr (9, [.ref a4, .ref a6, .ref a7, .ref a8, .ref a9, .int n3_5, .int n3_6])), (a4, .inr (0, [.ref a5, .int n4_1])), (a5, .inl (ct 0, 8, .inl (ur108.2.1 0))), (a9, .inl (ct 0, 8, .inl f9))] H := hP.sub [4, 5, 6, 0, 1, 2, 3] rfl
          have hD : va_D A [(a0, .inr (5, [.ref a1, .ref a3, .int (ur73.1 0), .int (ur73.1 1), .int (ur121.1 0), .int (ur121.1 1), .int (ur121.1 2), .int (ur121.1 3)])), (a1, .inr (8, [.ref a2, .int n1_1])), (a2, .inl (ct 1, 900, .inl f2)), (a3, .inr (9, [.ref a4, .ref a6, .ref a7, .ref a8, .ref a9, .int n3_5, .int n3_6])), (a4, .inr (0, [.ref a5, .int n4_1])), (a5, .inl (ct 0, 8, .inl (ur108.2.1 0))), (a9, .inl (ct 0, 8, .inl f9))] := hD.sub [4, 5, 6, 0, 1, 2, 3] (by decide) rfl
          obtain ⟨p_13, p_14, -⟩ := wr121
          refine lv_aload_n hx hb dX5_readCardLine_124 rfl (lv_at hl 3 rfl) ?_
          refine va_get (D := G) (ci := 5) (v := .ref a3) (C := RX5) (T := TX5) (N := 8) hx hb hts (by decide +kernel) hown hK.1 hP 0 rfl rfl 1 (by decide) (hts (.fieldLink RX5 12 "CardHolder$Reader" "draft" "LCardHolder$Town;") (by decide +kernel)) (fun _ h9 => h9) rfl dX5_readCardLine_125 ?_
          refine va_get (D := G) (ci := 9) (v := .ref a9) (C := RX9) (T := TX9) (N := 7) hx hb hts (by decide +kernel) hown hK.1 hP 3 rfl rfl 4 (by decide) (hts (.fieldLink RX5 124 "CardHolder$Town" "forged" "[I") (by decide +kernel)) (fun _ h9 => h9) rfl dX5_readCardLine_128 ?_
          refine lv_iload_n hx hb dX5_readCardLine_131 rfl (lv_at hl 1 rfl) ?_
          refine lv_iconst (v := 1) hx hb dX5_readCardLine_132 (by decide) ?_
          refine va_iast hx hb hK.1 hP hD hS 6 0 rfl rfl (in_rg h_6 (by decide)) dX5_readCardLine_133 (fun H locs hP hD hS => ?_)
          exact W.vret hx hb hr (fun t ht hW => ⟨⟨(fun k => ([ur73.1 0, ur73.1 1, ur121.1 0, ur121.1 1, ur121.1 2, ur121.1 3] : List Int32).getD k 0, fun k => ([ur108.2.1 0, upd f9 r60.toNatClampNeg 1] : List (Nat → Int32)).getD k (fun _ => 0), fun k => ([] : List (Nat → Int64)).getD k (fun _ => 0)), rfl, trivial, hp_at ht hP⟩, hS.F ht⟩) hS.2.2 dX5_readCardLine_134
      · have h_15 : rg 0 0 r92 := r_eq_l_i (e := 0) (f := 0) c95 p_2 (rgn 0 (x := 0) (by decide)) (by decide)
        exact W.vret hx hb hr (fun t ht hW => ⟨⟨(fun k => ([ur73.1 0, ur73.1 1, ur73.1 2, ur73.1 3, ur73.1 4, ur73.1 5] : List Int32).getD k 0, fun k => ([f5, f9] : List (Nat → Int32)).getD k (fun _ => 0), fun k => ([] : List (Nat → Int64)).getD k (fun _ => 0)), rfl, trivial, hp_at ht hP⟩, hS.F ht⟩) hS.2.2 dX5_readCardLine_98
  refine lv_if_ne (tgt := 44) hx hb dX5_readCardLine_10 (by decide) (fun c10 => ?_) (fun c10 => ?_)
  · exact j44 (ur3.1 0) (ur3.1 1) _ _ ls hP hD hS (lv_sub hl [0] rfl)
  · have h_16 : rg 0 0 (ur3.1 0) := r_eq_l_i (e := 0) (f := 0) c10 (rg_t (ur3.1 0)) (rgn 0 (x := 0) (by decide)) (by decide)
    refine lv_aload_n hx hb dX5_readCardLine_13 rfl (lv_at hl 0 rfl) ?_
    refine va_get (D := G) (ci := 5) (v := .int (ur3.1 2)) (C := RX5) (T := TX5) (N := 8) hx hb hts (by decide +kernel) hown hK.1 hP 0 rfl rfl 4 (by decide) (hts (.fieldLink RX5 38 "CardHolder$Reader" "kind" "I") (by decide +kernel)) (fun _ h9 => h9) rfl dX5_readCardLine_14 ?_
    refine lv_iconst (v := 2) hx hb dX5_readCardLine_17 (by decide) ?_
    refine lv_icmp_ne (tgt := 44) hx hb dX5_readCardLine_18 (by decide) (fun c18 => ?_) (fun c18 => ?_)
    · exact j44 (ur3.1 0) (ur3.1 1) _ _ ls hP hD hS (lv_sub hl [0] rfl)
    · have h_17 : rg 2 2 (ur3.1 2) := r_eq_l_i (e := 2) (f := 2) c18 (rg_t (ur3.1 2)) (rgn 2 (x := 2) (by decide)) (by decide)
      refine lv_aload_n hx hb dX5_readCardLine_21 rfl (lv_at hl 0 rfl) ?_
      refine va_get (D := G) (ci := 5) (v := .ref a3) (C := RX5) (T := TX5) (N := 8) hx hb hts (by decide +kernel) hown hK.1 hP 0 rfl rfl 1 (by decide) (hts (.fieldLink RX5 12 "CardHolder$Reader" "draft" "LCardHolder$Town;") (by decide +kernel)) (fun _ h9 => h9) rfl dX5_readCardLine_22 ?_
      refine va_get (D := G) (ci := 9) (v := .ref a4) (C := RX9) (T := TX9) (N := 7) hx hb hts (by decide +kernel) hown hK.1 hP 3 rfl rfl 0 (by decide) (hts (.fieldLink RX5 82 "CardHolder$Town" "bonds" "LCardHolder$Bonds;") (by decide +kernel)) (fun _ h9 => h9) rfl dX5_readCardLine_25 ?_
      refine lv_aload_n hx hb dX5_readCardLine_28 rfl (lv_at hl 0 rfl) ?_
      refine va_get (D := G) (ci := 5) (v := .int (ur3.1 5)) (C := RX5) (T := TX5) (N := 8) hx hb hts (by decide +kernel) hown hK.1 hP 0 rfl rfl 7 (by decide) (hts (.fieldLink RX5 105 "CardHolder$Reader" "value" "I") (by decide +kernel)) (fun _ h9 => h9) rfl dX5_readCardLine_29 ?_
      refine ro_calli (va_runV (As := [.int (ur3.1 5)]) (rest := []) ⟨hx, hb, hml, hown, hts⟩ (a_X0_holderOf l G ct a4 a5 n4_1 f5 (ur3.1 5) hp_n4_1) (cwV 1 hts gX5_readCardLine_X0_holderOf rfl rfl rfl (by decide +kernel) ⟨Nat.le_of_ble_eq_true rfl, Nat.le_of_ble_eq_true rfl⟩) (ro_preV 0 0 hK (hP.sub [4, 5] rfl) rfl rfl) rfl rfl hl.1 rfl (lv_room (Nat.le_of_ble_eq_true rfl)) dX5_readCardLine_32 ⟨Nat.zero_le _, Nat.zero_le _⟩) hS hP (fun r32 H locs wr32 hP hS => ?_)
      obtain ⟨p_18, p_19, p_20, p_21, -⟩ := wr32
      refine lv_iconst (v := (-1)) hx hb dX5_readCardLine_35 (by decide) ?_
      refine lv_icmp_eq (tgt := 44) hx hb dX5_readCardLine_36 (by decide) (fun c36 => ?_) (fun c36 => ?_)
      · have h_22 : rg (-1) (-1) r32 := r_eq_l_i (e := (-1)) (f := (-1)) c36 (rg_t r32) (rgn (-1) (x := (-1)) (by decide)) (by decide)
        exact j44 (ur3.1 0) (ur3.1 1) _ _ ls hP hD hS (lv_sub hl [0] rfl)
      · have h_23 : rg 0 7 (ur3.1 5) := (p_19 c36)
        have h_24 : rg 1 8 n4_1 := (p_21 c36)
        refine lv_aload_n hx hb dX5_readCardLine_39 rfl (lv_at hl 0 rfl) ?_
        refine lv_iconst (v := 2) hx hb dX5_readCardLine_40 (by decide) ?_
        refine wj_callv (wr := [(a1, .inr (8, [.ref a2, .int n1_1])), (a2, .inl (ct 1, 900, .inl f2)), (a3, .inr (9, [.ref a4, .ref a6, .ref a7, .ref a8, .ref a9, .int n3_5, .int n3_6])), (a4, .inr (0, [.ref a5, .int n4_1])), (a5, .inl (ct 0, 8, .inl f5)), (a9, .inl (ct 0, 8, .inl f9))]) (w1 := (fun u : SU => [(a0, .inr (5, [.ref a1, .ref a3, .int (u.1 0), .int (u.1 1), .int (ur3.1 2), .int (ur3.1 3), .int (ur3.1 4), .int (ur3.1 5)]))])) (va_runV (As := [.int 2]) (rest := []) ⟨hx, hb, hml, hown, hts⟩ (a_X5_fail l G ct a0 a1 a3 (ur3.1 0) (ur3.1 1) (ur3.1 2) (ur3.1 3) (ur3.1 4) (ur3.1 5) (2 : Int32)) (cwV 1 hts gX5_readCardLine_X5_fail rfl rfl rfl (by decide +kernel) ⟨Nat.le_of_ble_eq_true rfl, Nat.le_of_ble_eq_true rfl⟩) (wr_preV 5 0 hK (hP.sub [0] rfl) (hD.sub [0] (by decide) rfl) rfl rfl) rfl rfl hl.1 rfl (lv_room (Nat.le_of_ble_eq_true rfl)) dX5_readCardLine_41 ⟨Nat.zero_le _, Nat.zero_le _⟩) hS hP hD [0] [1, 2, 3, 4, 5, 6] rfl rfl (by decide) (fun _ => rfl) (fun ur41 H locs wr41 hP hD hS => ?_)
        have hP : va_P G vwCl [(a0, .inr (5, [.ref a1, .ref a3, .int (ur41.1 0), .int (ur41.1 1), .int (ur3.1 2), .int (ur3.1 3), .int (ur3.1 4), .int (ur3.1 5)])), (a1, .inr (8, [.ref a2, .int n1_1])), (a2, .inl (ct 1, 900, .inl f2)), (a3, .inr (9, [.ref a4, .ref a6, .ref a7, .ref a8, .ref a9, .int n3_5, .int n3_6])), (a4, .inr (0, [.ref a5, .int n4_1])), (a5, .inl (ct 0, 8, .inl f5)), (a9, .inl (ct 0, 8, .inl f9))] H := hP.sub [6, 0, 1, 2, 3, 4, 5] rfl
        have hD : va_D A [(a0, .inr (5, [.ref a1, .ref a3, .int (ur41.1 0), .int (ur41.1 1), .int (ur3.1 2), .int (ur3.1 3), .int (ur3.1 4), .int (ur3.1 5)])), (a1, .inr (8, [.ref a2, .int n1_1])), (a2, .inl (ct 1, 900, .inl f2)), (a3, .inr (9, [.ref a4, .ref a6, .ref a7, .ref a8, .ref a9, .int n3_5, .int n3_6])), (a4, .inr (0, [.ref a5, .int n4_1])), (a5, .inl (ct 0, 8, .inl f5)), (a9, .inl (ct 0, 8, .inl f9))] := hD.sub [6, 0, 1, 2, 3, 4, 5] (by decide) rfl
        exact j44 (ur41.1 0) (ur41.1 1) _ _ ls hP hD hS (lv_sub hl [0] rfl)

set_option maxHeartbeats 4000000 in
set_option maxRecDepth 100000 in
theorem a_X5_readPersonLine (l : Launch) (G : va_G) (ct : Nat → ClassId) (a0 : Nat) (a1 : Nat) (a3 : Nat) (n0_2 : Int32) (n0_3 : Int32) (n0_4 : Int32) (n0_5 : Int32) (n0_6 : Int32) (n0_7 : Int32) (a2 : Nat) (n1_1 : Int32) (f2 : Nat → Int32) (a4 : Nat) (a6 : Nat) (a7 : Nat) (a8 : Nat) (a9 : Nat) (n3_5 : Int32) (n3_6 : Int32) (a5 : Nat) (n4_1 : Int32) (f5 : Nat → Int32) (f6 : Nat → Int32) (f7 : Nat → Int32) (f8 : Nat → Int32) (f9 : Nat → Int32) (adK : Nat → Nat) (adV : Nat → Nat) (hp_n1_1 : rg 0 900 n1_1) (hp_n4_1 : rg 0 8 n4_1) : Met l yX5_readPersonLine wsX5_readPersonLine ({ frames := 8, cells := 0, slots := 0, locals := 211 }) (va_Pc [.ref a0] (wrSP G ct adK adV [(a0, .inr (5, [.ref a1, .ref a3, .int n0_2, .int n0_3, .int n0_4, .int n0_5, .int n0_6, .int n0_7])), (a1, .inr (8, [.ref a2, .int n1_1])), (a2, .inl (ct 1, 900, .inl f2)), (a3, .inr (9, [.ref a4, .ref a6, .ref a7, .ref a8, .ref a9, .int n3_5, .int n3_6])), (a4, .inr (0, [.ref a5, .int n4_1])), (a5, .inl (ct 0, 8, .inl f5)), (a6, .inl (ct 0, 8, .inl f6)), (a7, .inl (ct 0, 8, .inl f7)), (a8, .inl (ct 0, 8, .inl f8)), (a9, .inl (ct 0, 8, .inl f9))])) (va_Qv (fun u : SU => rg 1 8 (u.1 6) ∧ True) (fun u t => va_P G vwCl ((fun u : SU => [(a0, .inr (5, [.ref a1, .ref a3, .int (u.1 0), .int (u.1 1), .int (u.1 2), .int (u.1 3), .int (u.1 4), .int (u.1 5)])), (a1, .inr (8, [.ref a2, .int n1_1])), (a2, .inl (ct 1, 900, .inl f2)), (a3, .inr (9, [.ref a4, .ref a6, .ref a7, .ref a8, .ref a9, .int n3_5, .int n3_6])), (a4, .inr (0, [.ref a5, .int (u.1 6)])), (a5, .inl (ct 0, 8, .inl (u.2.1 0))), (a6, .inl (ct 0, 8, .inl (u.2.1 1))), (a7, .inl (ct 0, 8, .inl (u.2.1 2))), (a8, .inl (ct 0, 8, .inl (u.2.1 3))), (a9, .inl (ct 0, 8, .inl (u.2.1 4)))]) u) t.heap) (aset [(a0, .inr (5, [.ref a1, .ref a3, .int n0_2, .int n0_3, .int n0_4, .int n0_5, .int n0_6, .int n0_7])), (a1, .inr (8, [.ref a2, .int n1_1])), (a2, .inl (ct 1, 900, .inl f2)), (a3, .inr (9, [.ref a4, .ref a6, .ref a7, .ref a8, .ref a9, .int n3_5, .int n3_6])), (a4, .inr (0, [.ref a5, .int n4_1])), (a5, .inl (ct 0, 8, .inl f5)), (a6, .inl (ct 0, 8, .inl f6)), (a7, .inl (ct 0, 8, .inl f7)), (a8, .inl (ct 0, 8, .inl f8)), (a9, .inl (ct 0, 8, .inl f9))])) 0 0 (aset [(a0, .inr (5, [.ref a1, .ref a3, .int n0_2, .int n0_3, .int n0_4, .int n0_5, .int n0_6, .int n0_7])), (a1, .inr (8, [.ref a2, .int n1_1])), (a2, .inl (ct 1, 900, .inl f2)), (a3, .inr (9, [.ref a4, .ref a6, .ref a7, .ref a8, .ref a9, .int n3_5, .int n3_6])), (a4, .inr (0, [.ref a5, .int n4_1])), (a5, .inl (ct 0, 8, .inl f5)), (a6, .inl (ct 0, 8, .inl f6)), (a7, .inl (ct 0, 8, .inl f7)), (a8, .inl (ct 0, 8, .inl f8)), (a9, .inl (ct 0, 8, .inl f9))]) := by
  refine Met.ofW (cc := cX5_readPersonLine) (maxL := 4) (ret := none) (by decide) rfl ?_
  intro p e s m args below meth c s₁ B hml hv
  obtain ⟨rfl, hP, hK, hD0, hZ⟩ := hv
  have hx := B.exec
  have hb := B.bytes
  have hr := B.returns
  have hts := atoms_spec (ws := wsX5_readPersonLine) B.pre
  have hown : s.vm.findClass RX5 = some m.cls := findClass_of_methodNamed B.named
  have hlocks := B.notSynchronized
  have hD := hD0.aself
  generalize hAe : aset [(a0, .inr (5, [.ref a1, .ref a3, .int n0_2, .int n0_3, .int n0_4, .int n0_5, .int n0_6, .int n0_7])), (a1, .inr (8, [.ref a2, .int n1_1])), (a2, .inl (ct 1, 900, .inl f2)), (a3, .inr (9, [.ref a4, .ref a6, .ref a7, .ref a8, .ref a9, .int n3_5, .int n3_6])), (a4, .inr (0, [.ref a5, .int n4_1])), (a5, .inl (ct 0, 8, .inl f5)), (a6, .inl (ct 0, 8, .inl f6)), (a7, .inl (ct 0, 8, .inl f7)), (a8, .inl (ct 0, 8, .inl f8)), (a9, .inl (ct 0, 8, .inl f9))] = A at hD hZ ⊢
  have hS : va_S A s.heap s.heap [] := va_S.rf
  have hl := lv_entry ([.ref a0]) (n := 4) (Nat.le_of_ble_eq_true rfl)
  rw [lg_entry_eq]
  generalize (lg_sl ([.ref a0]) ++ List.replicate (4 - (lg_sl ([.ref a0])).length) Slot.unset).toArray = ls at hl ⊢
  have hl : lv_has ls 4 [(0, .ref a0)] := hl
  refine lv_aload_n hx hb dX5_readPersonLine_0 rfl (lv_at hl 0 rfl) ?_
  refine va_get (D := G) (ci := 5) (v := .ref a3) (C := RX5) (T := TX5) (N := 8) hx hb hts (by decide +kernel) hown hK.1 hP 0 rfl rfl 1 (by decide) (hts (.fieldLink RX5 12 "CardHolder$Reader" "draft" "LCardHolder$Town;") (by decide +kernel)) (fun _ h9 => h9) rfl dX5_readPersonLine_1 ?_
  refine va_get (D := G) (ci := 9) (v := .ref a4) (C := RX9) (T := TX9) (N := 7) hx hb hts (by decide +kernel) hown hK.1 hP 3 rfl rfl 0 (by decide) (hts (.fieldLink RX5 82 "CardHolder$Town" "bonds" "LCardHolder$Bonds;") (by decide +kernel)) (fun _ h9 => h9) rfl dX5_readPersonLine_4 ?_
  refine va_get (D := G) (ci := 0) (v := .int n4_1) (C := RX0) (T := TX0) (N := 2) hx hb hts (by decide +kernel) hown hK.1 hP 4 rfl rfl 1 (by decide) (hts (.fieldLink RX5 86 "CardHolder$Bonds" "persons" "I") (by decide +kernel)) (fun _ h9 => h9) rfl dX5_readPersonLine_7 ?_
  refine lv_bipush (v := 8) hx hb dX5_readPersonLine_10 (by decide) ?_
  refine lv_icmp_lt (tgt := 21) hx hb dX5_readPersonLine_12 (by decide) (fun c12 => ?_) (fun c12 => ?_)
  · have h_1 : rg 0 7 n4_1 := r_lt_l_i c12 hp_n4_1 (rgn 8 (x := 8) (by decide)) (by decide)
    refine lv_aload_n hx hb dX5_readPersonLine_21 rfl (lv_at hl 0 rfl) ?_
    refine va_ldcS hx hb hown (show vk_R RX5 47 "person" (adK 0) s from hZ.2.2.2 0 (by decide)) dX5_readPersonLine_22 ?_
    refine wj_callv (wr := [(a3, .inr (9, [.ref a4, .ref a6, .ref a7, .ref a8, .ref a9, .int n3_5, .int n3_6])), (a4, .inr (0, [.ref a5, .int n4_1])), (a5, .inl (ct 0, 8, .inl f5)), (a6, .inl (ct 0, 8, .inl f6)), (a7, .inl (ct 0, 8, .inl f7)), (a8, .inl (ct 0, 8, .inl f8)), (a9, .inl (ct 0, 8, .inl f9))]) (w1 := (fun u : SU => [(a0, .inr (5, [.ref a1, .ref a3, .int (u.1 0), .int (u.1 1), .int (u.1 2), .int (u.1 3), .int (u.1 4), .int (u.1 5)])), (a1, .inr (8, [.ref a2, .int n1_1])), (a2, .inl (ct 1, 900, .inl f2))])) (va_runV (As := [.ref (adK 0)]) (rest := []) ⟨hx, hb, hml, hown, hts⟩ (a_X5_takeWord l G ct a0 a1 a3 n0_2 n0_3 n0_4 n0_5 n0_6 n0_7 a2 n1_1 f2 adK adV (0 : Nat) (by decide) hp_n1_1) (cwV 1 hts gX5_readPersonLine_X5_takeWord rfl rfl rfl (by decide +kernel) ⟨Nat.le_of_ble_eq_true rfl, Nat.le_of_ble_eq_true rfl⟩) (wrS_preV 5 0 hK (hP.sub [0, 1, 2] rfl) (hD.sub [0, 1, 2] (by decide) rfl) ((hZ.kept hS.2.1).narrow (fun q h => aset_in hD [0, 1, 2] rfl q h)) rfl rfl) rfl rfl hl.1 rfl (lv_room (Nat.le_of_ble_eq_true rfl)) dX5_readPersonLine_24 ⟨Nat.zero_le _, Nat.zero_le _⟩) hS hP hD [0, 1, 2] [3, 4, 5, 6, 7, 8, 9] rfl rfl (by decide) (fun _ => rfl) (fun ur24 H locs wr24 hP hD hS => ?_)
    have hP : va_P G vwCl [(a0, .inr (5, [.ref a1, .ref a3, .int (ur24.1 0), .int (ur24.1 1), .int (ur24.1 2), .int (ur24.1 3), .int (ur24.1 4), .int (ur24.1 5)])), (a1, .inr (8, [.ref a2, .int n1_1])), (a2, .inl (ct 1, 900, .inl f2)), (a3, .inr (9, [.ref a4, .ref a6, .ref a7, .ref a8, .ref a9, .int n3_5, .int n3_6])), (a4, .inr (0, [.ref a5, .int n4_1])), (a5, .inl (ct 0, 8, .inl f5)), (a6, .inl (ct 0, 8, .inl f6)), (a7, .inl (ct 0, 8, .inl f7)), (a8, .inl (ct 0, 8, .inl f8)), (a9, .inl (ct 0, 8, .inl f9))] H := hP.sub [7, 8, 9, 0, 1, 2, 3, 4, 5, 6] rfl
    have hD : va_D A [(a0, .inr (5, [.ref a1, .ref a3, .int (ur24.1 0), .int (ur24.1 1), .int (ur24.1 2), .int (ur24.1 3), .int (ur24.1 4), .int (ur24.1 5)])), (a1, .inr (8, [.ref a2, .int n1_1])), (a2, .inl (ct 1, 900, .inl f2)), (a3, .inr (9, [.ref a4, .ref a6, .ref a7, .ref a8, .ref a9, .int n3_5, .int n3_6])), (a4, .inr (0, [.ref a5, .int n4_1])), (a5, .inl (ct 0, 8, .inl f5)), (a6, .inl (ct 0, 8, .inl f6)), (a7, .inl (ct 0, 8, .inl f7)), (a8, .inl (ct 0, 8, .inl f8)), (a9, .inl (ct 0, 8, .inl f9))] := hD.sub [7, 8, 9, 0, 1, 2, 3, 4, 5, 6] (by decide) rfl
    refine lv_aload_n hx hb dX5_readPersonLine_27 rfl (lv_at hl 0 rfl) ?_
    refine va_ldcS hx hb hown (show vk_R RX5 91 "worth" (adK 4) s from hZ.2.2.2 4 (by decide)) dX5_readPersonLine_28 ?_
    refine wj_callv (wr := [(a3, .inr (9, [.ref a4, .ref a6, .ref a7, .ref a8, .ref a9, .int n3_5, .int n3_6])), (a4, .inr (0, [.ref a5, .int n4_1])), (a5, .inl (ct 0, 8, .inl f5)), (a6, .inl (ct 0, 8, .inl f6)), (a7, .inl (ct 0, 8, .inl f7)), (a8, .inl (ct 0, 8, .inl f8)), (a9, .inl (ct 0, 8, .inl f9))]) (w1 := (fun u : SU => [(a0, .inr (5, [.ref a1, .ref a3, .int (u.1 0), .int (u.1 1), .int (u.1 2), .int (u.1 3), .int (u.1 4), .int (u.1 5)])), (a1, .inr (8, [.ref a2, .int n1_1])), (a2, .inl (ct 1, 900, .inl f2))])) (va_runV (As := [.ref (adK 4)]) (rest := []) ⟨hx, hb, hml, hown, hts⟩ (a_X5_takeWord l G ct a0 a1 a3 (ur24.1 0) (ur24.1 1) (ur24.1 2) (ur24.1 3) (ur24.1 4) (ur24.1 5) a2 n1_1 f2 adK adV (4 : Nat) (by decide) hp_n1_1) (cwV 1 hts gX5_readPersonLine_X5_takeWord rfl rfl rfl (by decide +kernel) ⟨Nat.le_of_ble_eq_true rfl, Nat.le_of_ble_eq_true rfl⟩) (wrS_preV 5 0 hK (hP.sub [0, 1, 2] rfl) (hD.sub [0, 1, 2] (by decide) rfl) ((hZ.kept hS.2.1).narrow (fun q h => aset_in hD [0, 1, 2] rfl q h)) rfl rfl) rfl rfl hl.1 rfl (lv_room (Nat.le_of_ble_eq_true rfl)) dX5_readPersonLine_30 ⟨Nat.zero_le _, Nat.zero_le _⟩) hS hP hD [0, 1, 2] [3, 4, 5, 6, 7, 8, 9] rfl rfl (by decide) (fun _ => rfl) (fun ur30 H locs wr30 hP hD hS => ?_)
    have hP : va_P G vwCl [(a0, .inr (5, [.ref a1, .ref a3, .int (ur30.1 0), .int (ur30.1 1), .int (ur30.1 2), .int (ur30.1 3), .int (ur30.1 4), .int (ur30.1 5)])), (a1, .inr (8, [.ref a2, .int n1_1])), (a2, .inl (ct 1, 900, .inl f2)), (a3, .inr (9, [.ref a4, .ref a6, .ref a7, .ref a8, .ref a9, .int n3_5, .int n3_6])), (a4, .inr (0, [.ref a5, .int n4_1])), (a5, .inl (ct 0, 8, .inl f5)), (a6, .inl (ct 0, 8, .inl f6)), (a7, .inl (ct 0, 8, .inl f7)), (a8, .inl (ct 0, 8, .inl f8)), (a9, .inl (ct 0, 8, .inl f9))] H := hP.sub [7, 8, 9, 0, 1, 2, 3, 4, 5, 6] rfl
    have hD : va_D A [(a0, .inr (5, [.ref a1, .ref a3, .int (ur30.1 0), .int (ur30.1 1), .int (ur30.1 2), .int (ur30.1 3), .int (ur30.1 4), .int (ur30.1 5)])), (a1, .inr (8, [.ref a2, .int n1_1])), (a2, .inl (ct 1, 900, .inl f2)), (a3, .inr (9, [.ref a4, .ref a6, .ref a7, .ref a8, .ref a9, .int n3_5, .int n3_6])), (a4, .inr (0, [.ref a5, .int n4_1])), (a5, .inl (ct 0, 8, .inl f5)), (a6, .inl (ct 0, 8, .inl f6)), (a7, .inl (ct 0, 8, .inl f7)), (a8, .inl (ct 0, 8, .inl f8)), (a9, .inl (ct 0, 8, .inl f9))] := hD.sub [7, 8, 9, 0, 1, 2, 3, 4, 5, 6] (by decide) rfl
    refine lv_aload_n hx hb dX5_readPersonLine_33 rfl (lv_at hl 0 rfl) ?_
    refine lv_iconst (v := 1) hx hb dX5_readPersonLine_34 (by decide) ?_
    refine lv_sipush (v := 999) hx hb dX5_readPersonLine_35 (by decide) ?_
    refine wj_calli (wr := [(a3, .inr (9, [.ref a4, .ref a6, .ref a7, .ref a8, .ref a9, .int n3_5, .int n3_6])), (a4, .inr (0, [.ref a5, .int n4_1])), (a5, .inl (ct 0, 8, .inl f5)), (a6, .inl (ct 0, 8, .inl f6)), (a7, .inl (ct 0, 8, .inl f7)), (a8, .inl (ct 0, 8, .inl f8)), (a9, .inl (ct 0, 8, .inl f9))]) (w1 := (fun u : SU => [(a0, .inr (5, [.ref a1, .ref a3, .int (u.1 0), .int (u.1 1), .int (u.1 2), .int (u.1 3), .int (u.1 4), .int (u.1 5)])), (a1, .inr (8, [.ref a2, .int n1_1])), (a2, .inl (ct 1, 900, .inl f2))])) (va_runV (As := [.int 1, .int 999]) (rest := []) ⟨hx, hb, hml, hown, hts⟩ (a_X5_takeNumber l G ct a0 a1 a3 (ur30.1 0) (ur30.1 1) (ur30.1 2) (ur30.1 3) (ur30.1 4) (ur30.1 5) a2 n1_1 f2 (1 : Int32) (999 : Int32) hp_n1_1) (cwV 2 hts gX5_readPersonLine_X5_takeNumber rfl rfl rfl (by decide +kernel) ⟨Nat.le_of_ble_eq_true rfl, Nat.le_of_ble_eq_true rfl⟩) (wr_preV 5 0 hK (hP.sub [0, 1, 2] rfl) (hD.sub [0, 1, 2] (by decide) rfl) rfl rfl) rfl rfl hl.1 rfl (lv_room (Nat.le_of_ble_eq_true rfl)) dX5_readPersonLine_38 ⟨Nat.zero_le _, Nat.zero_le _⟩) hS hP hD [0, 1, 2] [3, 4, 5, 6, 7, 8, 9] rfl rfl (by decide) (fun _ => rfl) (fun r38 ur38 H locs wr38 hP hD hS => ?_)
    have hP : va_P G vwCl [(a0, .inr (5, [.ref a1, .ref a3, .int (ur38.1 0), .int (ur38.1 1), .int (ur38.1 2), .int (ur38.1 3), .int (ur38.1 4), .int (ur38.1 5)])), (a1, .inr (8, [.ref a2, .int n1_1])), (a2, .inl (ct 1, 900, .inl f2)), (a3, .inr (9, [.ref a4, .ref a6, .ref a7, .ref a8, .ref a9, .int n3_5, .int n3_6])), (a4, .inr (0, [.ref a5, .int n4_1])), (a5, .inl (ct 0, 8, .inl f5)), (a6, .inl (ct 0, 8, .inl f6)), (a7, .inl (ct 0, 8, .inl f7)), (a8, .inl (ct 0, 8, .inl f8)), (a9, .inl (ct 0, 8, .inl f9))] H := hP.sub [7, 8, 9, 0, 1, 2, 3, 4, 5, 6] rfl
    have hD : va_D A [(a0, .inr (5, [.ref a1, .ref a3, .int (ur38.1 0), .int (ur38.1 1), .int (ur38.1 2), .int (ur38.1 3), .int (ur38.1 4), .int (ur38.1 5)])), (a1, .inr (8, [.ref a2, .int n1_1])), (a2, .inl (ct 1, 900, .inl f2)), (a3, .inr (9, [.ref a4, .ref a6, .ref a7, .ref a8, .ref a9, .int n3_5, .int n3_6])), (a4, .inr (0, [.ref a5, .int n4_1])), (a5, .inl (ct 0, 8, .inl f5)), (a6, .inl (ct 0, 8, .inl f6)), (a7, .inl (ct 0, 8, .inl f7)), (a8, .inl (ct 0, 8, .inl f8)), (a9, .inl (ct 0, 8, .inl f9))] := hD.sub [7, 8, 9, 0, 1, 2, 3, 4, 5, 6] (by decide) rfl
    refine lv_istore_n (lv' := [(1, .int r38), (0, .ref a0)]) hx hb dX5_readPersonLine_41 rfl hl (by decide) rfl (fun ls hl => ?_)
    refine lv_aload_n hx hb dX5_readPersonLine_42 rfl (lv_at hl 1 rfl) ?_
    refine va_ldcS hx hb hown (show vk_R RX5 93 "does" (adK 5) s from hZ.2.2.2 5 (by decide)) dX5_readPersonLine_43 ?_
    refine wj_calli (wr := [(a3, .inr (9, [.ref a4, .ref a6, .ref a7, .ref a8, .ref a9, .int n3_5, .int n3_6])), (a4, .inr (0, [.ref a5, .int n4_1])), (a5, .inl (ct 0, 8, .inl f5)), (a6, .inl (ct 0, 8, .inl f6)), (a7, .inl (ct 0, 8, .inl f7)), (a8, .inl (ct 0, 8, .inl f8)), (a9, .inl (ct 0, 8, .inl f9))]) (w1 := (fun u : SU => [(a0, .inr (5, [.ref a1, .ref a3, .int (u.1 0), .int (u.1 1), .int (u.1 2), .int (u.1 3), .int (u.1 4), .int (u.1 5)])), (a1, .inr (8, [.ref a2, .int n1_1])), (a2, .inl (ct 1, 900, .inl f2))])) (va_runV (As := [.ref (adK 5)]) (rest := []) ⟨hx, hb, hml, hown, hts⟩ (a_X5_takeDeeds l G ct a0 a1 a3 (ur38.1 0) (ur38.1 1) (ur38.1 2) (ur38.1 3) (ur38.1 4) (ur38.1 5) a2 n1_1 f2 adK adV (5 : Nat) (by decide) hp_n1_1) (cwV 1 hts gX5_readPersonLine_X5_takeDeeds rfl rfl rfl (by decide +kernel) ⟨Nat.le_of_ble_eq_true rfl, Nat.le_of_ble_eq_true rfl⟩) (wrS_preV 5 0 hK (hP.sub [0, 1, 2] rfl) (hD.sub [0, 1, 2] (by decide) rfl) ((hZ.kept hS.2.1).narrow (fun q h => aset_in hD [0, 1, 2] rfl q h)) rfl rfl) rfl rfl hl.1 rfl (lv_room (Nat.le_of_ble_eq_true rfl)) dX5_readPersonLine_45 ⟨Nat.zero_le _, Nat.zero_le _⟩) hS hP hD [0, 1, 2] [3, 4, 5, 6, 7, 8, 9] rfl rfl (by decide) (fun _ => rfl) (fun r45 ur45 H locs wr45 hP hD hS => ?_)
    have hP : va_P G vwCl [(a0, .inr (5, [.ref a1, .ref a3, .int (ur45.1 0), .int (ur45.1 1), .int (ur45.1 2), .int (ur45.1 3), .int (ur45.1 4), .int (ur45.1 5)])), (a1, .inr (8, [.ref a2, .int n1_1])), (a2, .inl (ct 1, 900, .inl f2)), (a3, .inr (9, [.ref a4, .ref a6, .ref a7, .ref a8, .ref a9, .int n3_5, .int n3_6])), (a4, .inr (0, [.ref a5, .int n4_1])), (a5, .inl (ct 0, 8, .inl f5)), (a6, .inl (ct 0, 8, .inl f6)), (a7, .inl (ct 0, 8, .inl f7)), (a8, .inl (ct 0, 8, .inl f8)), (a9, .inl (ct 0, 8, .inl f9))] H := hP.sub [7, 8, 9, 0, 1, 2, 3, 4, 5, 6] rfl
    have hD : va_D A [(a0, .inr (5, [.ref a1, .ref a3, .int (ur45.1 0), .int (ur45.1 1), .int (ur45.1 2), .int (ur45.1 3), .int (ur45.1 4), .int (ur45.1 5)])), (a1, .inr (8, [.ref a2, .int n1_1])), (a2, .inl (ct 1, 900, .inl f2)), (a3, .inr (9, [.ref a4, .ref a6, .ref a7, .ref a8, .ref a9, .int n3_5, .int n3_6])), (a4, .inr (0, [.ref a5, .int n4_1])), (a5, .inl (ct 0, 8, .inl f5)), (a6, .inl (ct 0, 8, .inl f6)), (a7, .inl (ct 0, 8, .inl f7)), (a8, .inl (ct 0, 8, .inl f8)), (a9, .inl (ct 0, 8, .inl f9))] := hD.sub [7, 8, 9, 0, 1, 2, 3, 4, 5, 6] (by decide) rfl
    refine lv_istore_n (lv' := [(2, .int r45), (1, .int r38), (0, .ref a0)]) hx hb dX5_readPersonLine_48 rfl hl (by decide) rfl (fun ls hl => ?_)
    refine lv_aload_n hx hb dX5_readPersonLine_49 rfl (lv_at hl 2 rfl) ?_
    refine va_ldcS hx hb hown (show vk_R RX5 99 "wishes" (adK 6) s from hZ.2.2.2 6 (by decide)) dX5_readPersonLine_50 ?_
    refine wj_calli (wr := [(a3, .inr (9, [.ref a4, .ref a6, .ref a7, .ref a8, .ref a9, .int n3_5, .int n3_6])), (a4, .inr (0, [.ref a5, .int n4_1])), (a5, .inl (ct 0, 8, .inl f5)), (a6, .inl (ct 0, 8, .inl f6)), (a7, .inl (ct 0, 8, .inl f7)), (a8, .inl (ct 0, 8, .inl f8)), (a9, .inl (ct 0, 8, .inl f9))]) (w1 := (fun u : SU => [(a0, .inr (5, [.ref a1, .ref a3, .int (u.1 0), .int (u.1 1), .int (u.1 2), .int (u.1 3), .int (u.1 4), .int (u.1 5)])), (a1, .inr (8, [.ref a2, .int n1_1])), (a2, .inl (ct 1, 900, .inl f2))])) (va_runV (As := [.ref (adK 6)]) (rest := []) ⟨hx, hb, hml, hown, hts⟩ (a_X5_takeDeeds l G ct a0 a1 a3 (ur45.1 0) (ur45.1 1) (ur45.1 2) (ur45.1 3) (ur45.1 4) (ur45.1 5) a2 n1_1 f2 adK adV (6 : Nat) (by decide) hp_n1_1) (cwV 1 hts gX5_readPersonLine_X5_takeDeeds rfl rfl rfl (by decide +kernel) ⟨Nat.le_of_ble_eq_true rfl, Nat.le_of_ble_eq_true rfl⟩) (wrS_preV 5 0 hK (hP.sub [0, 1, 2] rfl) (hD.sub [0, 1, 2] (by decide) rfl) ((hZ.kept hS.2.1).narrow (fun q h => aset_in hD [0, 1, 2] rfl q h)) rfl rfl) rfl rfl hl.1 rfl (lv_room (Nat.le_of_ble_eq_true rfl)) dX5_readPersonLine_52 ⟨Nat.zero_le _, Nat.zero_le _⟩) hS hP hD [0, 1, 2] [3, 4, 5, 6, 7, 8, 9] rfl rfl (by decide) (fun _ => rfl) (fun r52 ur52 H locs wr52 hP hD hS => ?_)
    have hP : va_P G vwCl [(a0, .inr (5, [.ref a1, .ref a3, .int (ur52.1 0), .int (ur52.1 1), .int (ur52.1 2), .int (ur52.1 3), .int (ur52.1 4), .int (ur52.1 5)])), (a1, .inr (8, [.ref a2, .int n1_1])), (a2, .inl (ct 1, 900, .inl f2)), (a3, .inr (9, [.ref a4, .ref a6, .ref a7, .ref a8, .ref a9, .int n3_5, .int n3_6])), (a4, .inr (0, [.ref a5, .int n4_1])), (a5, .inl (ct 0, 8, .inl f5)), (a6, .inl (ct 0, 8, .inl f6)), (a7, .inl (ct 0, 8, .inl f7)), (a8, .inl (ct 0, 8, .inl f8)), (a9, .inl (ct 0, 8, .inl f9))] H := hP.sub [7, 8, 9, 0, 1, 2, 3, 4, 5, 6] rfl
    have hD : va_D A [(a0, .inr (5, [.ref a1, .ref a3, .int (ur52.1 0), .int (ur52.1 1), .int (ur52.1 2), .int (ur52.1 3), .int (ur52.1 4), .int (ur52.1 5)])), (a1, .inr (8, [.ref a2, .int n1_1])), (a2, .inl (ct 1, 900, .inl f2)), (a3, .inr (9, [.ref a4, .ref a6, .ref a7, .ref a8, .ref a9, .int n3_5, .int n3_6])), (a4, .inr (0, [.ref a5, .int n4_1])), (a5, .inl (ct 0, 8, .inl f5)), (a6, .inl (ct 0, 8, .inl f6)), (a7, .inl (ct 0, 8, .inl f7)), (a8, .inl (ct 0, 8, .inl f8)), (a9, .inl (ct 0, 8, .inl f9))] := hD.sub [7, 8, 9, 0, 1, 2, 3, 4, 5, 6] (by decide) rfl
    refine lv_istore_n (lv' := [(3, .int r52), (2, .int r45), (1, .int r38), (0, .ref a0)]) hx hb dX5_readPersonLine_55 rfl hl (by decide) rfl (fun ls hl => ?_)
    refine lv_aload_n hx hb dX5_readPersonLine_56 rfl (lv_at hl 3 rfl) ?_
    refine va_get (D := G) (ci := 5) (v := .ref a3) (C := RX5) (T := TX5) (N := 8) hx hb hts (by decide +kernel) hown hK.1 hP 0 rfl rfl 1 (by decide) (hts (.fieldLink RX5 12 "CardHolder$Reader" "draft" "LCardHolder$Town;") (by decide +kernel)) (fun _ h9 => h9) rfl dX5_readPersonLine_57 ?_
    refine lv_iload_n hx hb dX5_readPersonLine_60 rfl (lv_at hl 2 rfl) ?_
    refine lv_iload_n hx hb dX5_readPersonLine_61 rfl (lv_at hl 1 rfl) ?_
    refine lv_iload_n hx hb dX5_readPersonLine_62 rfl (lv_at hl 0 rfl) ?_
    refine wj_callv (wr := [(a0, .inr (5, [.ref a1, .ref a3, .int (ur52.1 0), .int (ur52.1 1), .int (ur52.1 2), .int (ur52.1 3), .int (ur52.1 4), .int (ur52.1 5)])), (a1, .inr (8, [.ref a2, .int n1_1])), (a2, .inl (ct 1, 900, .inl f2))]) (w1 := (fun u : SU => [(a3, .inr (9, [.ref a4, .ref a6, .ref a7, .ref a8, .ref a9, .int n3_5, .int n3_6])), (a4, .inr (0, [.ref a5, .int (u.1 0)])), (a5, .inl (ct 0, 8, .inl (u.2.1 0))), (a6, .inl (ct 0, 8, .inl (u.2.1 1))), (a7, .inl (ct 0, 8, .inl (u.2.1 2))), (a8, .inl (ct 0, 8, .inl (u.2.1 3))), (a9, .inl (ct 0, 8, .inl (u.2.1 4)))])) (va_runV (As := [.int r38, .int r45, .int r52]) (rest := []) ⟨hx, hb, hml, hown, hts⟩ (a_X9_addPerson l G ct a3 a4 a6 a7 a8 a9 n3_5 n3_6 a5 n4_1 f5 f6 f7 f8 f9 r38 r45 r52 (rg_w (c := 0) (d := 8) h_1 (by decide))) (cwV 3 hts gX5_readPersonLine_X9_addPerson rfl rfl rfl (by decide +kernel) ⟨Nat.le_of_ble_eq_true rfl, Nat.le_of_ble_eq_true rfl⟩) (wr_preV 9 0 hK (hP.sub [3, 4, 5, 6, 7, 8, 9] rfl) (hD.sub [3, 4, 5, 6, 7, 8, 9] (by decide) rfl) rfl rfl) rfl rfl hl.1 rfl (lv_room (Nat.le_of_ble_eq_true rfl)) dX5_readPersonLine_63 ⟨Nat.zero_le _, Nat.zero_le _⟩) hS hP hD [3, 4, 5, 6, 7, 8, 9] [0, 1, 2] rfl rfl (by decide) (fun _ => rfl) (fun ur63 H locs wr63 hP hD hS => ?_)
    have hP : va_P G vwCl [(a0, .inr (5, [.ref a1, .ref a3, .int (ur52.1 0), .int (ur52.1 1), .int (ur52.1 2), .int (ur52.1 3), .int (ur52.1 4), .int (ur52.1 5)])), (a1, .inr (8, [.ref a2, .int n1_1])), (a2, .inl (ct 1, 900, .inl f2)), (a3, .inr (9, [.ref a4, .ref a6, .ref a7, .ref a8, .ref a9, .int n3_5, .int n3_6])), (a4, .inr (0, [.ref a5, .int (ur63.1 0)])), (a5, .inl (ct 0, 8, .inl (ur63.2.1 0))), (a6, .inl (ct 0, 8, .inl (ur63.2.1 1))), (a7, .inl (ct 0, 8, .inl (ur63.2.1 2))), (a8, .inl (ct 0, 8, .inl (ur63.2.1 3))), (a9, .inl (ct 0, 8, .inl (ur63.2.1 4)))] H := hP.sub [0, 1, 2, 3, 4, 5, 6, 7, 8, 9] rfl
    have hD : va_D A [(a0, .inr (5, [.ref a1, .ref a3, .int (ur52.1 0), .int (ur52.1 1), .int (ur52.1 2), .int (ur52.1 3), .int (ur52.1 4), .int (ur52.1 5)])), (a1, .inr (8, [.ref a2, .int n1_1])), (a2, .inl (ct 1, 900, .inl f2)), (a3, .inr (9, [.ref a4, .ref a6, .ref a7, .ref a8, .ref a9, .int n3_5, .int n3_6])), (a4, .inr (0, [.ref a5, .int (ur63.1 0)])), (a5, .inl (ct 0, 8, .inl (ur63.2.1 0))), (a6, .inl (ct 0, 8, .inl (ur63.2.1 1))), (a7, .inl (ct 0, 8, .inl (ur63.2.1 2))), (a8, .inl (ct 0, 8, .inl (ur63.2.1 3))), (a9, .inl (ct 0, 8, .inl (ur63.2.1 4)))] := hD.sub [0, 1, 2, 3, 4, 5, 6, 7, 8, 9] (by decide) rfl
    obtain ⟨p_2, -⟩ := wr63
    exact W.vret hx hb hr (fun t ht hW => ⟨⟨(fun k => ([ur52.1 0, ur52.1 1, ur52.1 2, ur52.1 3, ur52.1 4, ur52.1 5, ur63.1 0] : List Int32).getD k 0, fun k => ([ur63.2.1 0, ur63.2.1 1, ur63.2.1 2, ur63.2.1 3, ur63.2.1 4] : List (Nat → Int32)).getD k (fun _ => 0), fun k => ([] : List (Nat → Int64)).getD k (fun _ => 0)), rfl, ⟨p_2, trivial⟩, hp_at ht hP⟩, hS.F ht⟩) hS.2.2 dX5_readPersonLine_66
  · have h_3 : rg 8 8 n4_1 := r_le_r_i (nlt_i c12) (rgn 8 (x := 8) (by decide)) hp_n4_1
    refine lv_aload_n hx hb dX5_readPersonLine_15 rfl (lv_at hl 0 rfl) ?_
    refine lv_iconst (v := 3) hx hb dX5_readPersonLine_16 (by decide) ?_
    refine wj_callv (wr := [(a1, .inr (8, [.ref a2, .int n1_1])), (a2, .inl (ct 1, 900, .inl f2)), (a3, .inr (9, [.ref a4, .ref a6, .ref a7, .ref a8, .ref a9, .int n3_5, .int n3_6])), (a4, .inr (0, [.ref a5, .int n4_1])), (a5, .inl (ct 0, 8, .inl f5)), (a6, .inl (ct 0, 8, .inl f6)), (a7, .inl (ct 0, 8, .inl f7)), (a8, .inl (ct 0, 8, .inl f8)), (a9, .inl (ct 0, 8, .inl f9))]) (w1 := (fun u : SU => [(a0, .inr (5, [.ref a1, .ref a3, .int (u.1 0), .int (u.1 1), .int n0_4, .int n0_5, .int n0_6, .int n0_7]))])) (va_runV (As := [.int 3]) (rest := []) ⟨hx, hb, hml, hown, hts⟩ (a_X5_fail l G ct a0 a1 a3 n0_2 n0_3 n0_4 n0_5 n0_6 n0_7 (3 : Int32)) (cwV 1 hts gX5_readPersonLine_X5_fail rfl rfl rfl (by decide +kernel) ⟨Nat.le_of_ble_eq_true rfl, Nat.le_of_ble_eq_true rfl⟩) (wr_preV 5 0 hK (hP.sub [0] rfl) (hD.sub [0] (by decide) rfl) rfl rfl) rfl rfl hl.1 rfl (lv_room (Nat.le_of_ble_eq_true rfl)) dX5_readPersonLine_17 ⟨Nat.zero_le _, Nat.zero_le _⟩) hS hP hD [0] [1, 2, 3, 4, 5, 6, 7, 8, 9] rfl rfl (by decide) (fun _ => rfl) (fun ur17 H locs wr17 hP hD hS => ?_)
    have hP : va_P G vwCl [(a0, .inr (5, [.ref a1, .ref a3, .int (ur17.1 0), .int (ur17.1 1), .int n0_4, .int n0_5, .int n0_6, .int n0_7])), (a1, .inr (8, [.ref a2, .int n1_1])), (a2, .inl (ct 1, 900, .inl f2)), (a3, .inr (9, [.ref a4, .ref a6, .ref a7, .ref a8, .ref a9, .int n3_5, .int n3_6])), (a4, .inr (0, [.ref a5, .int n4_1])), (a5, .inl (ct 0, 8, .inl f5)), (a6, .inl (ct 0, 8, .inl f6)), (a7, .inl (ct 0, 8, .inl f7)), (a8, .inl (ct 0, 8, .inl f8)), (a9, .inl (ct 0, 8, .inl f9))] H := hP.sub [9, 0, 1, 2, 3, 4, 5, 6, 7, 8] rfl
    have hD : va_D A [(a0, .inr (5, [.ref a1, .ref a3, .int (ur17.1 0), .int (ur17.1 1), .int n0_4, .int n0_5, .int n0_6, .int n0_7])), (a1, .inr (8, [.ref a2, .int n1_1])), (a2, .inl (ct 1, 900, .inl f2)), (a3, .inr (9, [.ref a4, .ref a6, .ref a7, .ref a8, .ref a9, .int n3_5, .int n3_6])), (a4, .inr (0, [.ref a5, .int n4_1])), (a5, .inl (ct 0, 8, .inl f5)), (a6, .inl (ct 0, 8, .inl f6)), (a7, .inl (ct 0, 8, .inl f7)), (a8, .inl (ct 0, 8, .inl f8)), (a9, .inl (ct 0, 8, .inl f9))] := hD.sub [9, 0, 1, 2, 3, 4, 5, 6, 7, 8] (by decide) rfl
    exact W.vret hx hb hr (fun t ht hW => ⟨⟨(fun k => ([ur17.1 0, ur17.1 1, n0_4, n0_5, n0_6, n0_7, n4_1] : List Int32).getD k 0, fun k => ([f5, f6, f7, f8, f9] : List (Nat → Int32)).getD k (fun _ => 0), fun k => ([] : List (Nat → Int64)).getD k (fun _ => 0)), rfl, ⟨(rg_w (c := 1) (d := 8) h_3 (by decide)), trivial⟩, hp_at ht hP⟩, hS.F ht⟩) hS.2.2 dX5_readPersonLine_20

set_option maxHeartbeats 4000000 in
set_option maxRecDepth 100000 in
theorem a_X5_readTape (l : Launch) (G : va_G) (ct : Nat → ClassId) (a0 : Nat) (a1 : Nat) (a3 : Nat) (n0_2 : Int32) (n0_3 : Int32) (n0_4 : Int32) (n0_5 : Int32) (n0_6 : Int32) (n0_7 : Int32) (a2 : Nat) (n1_1 : Int32) (f2 : Nat → Int32) (a4 : Nat) (a6 : Nat) (a7 : Nat) (a8 : Nat) (a9 : Nat) (n3_5 : Int32) (n3_6 : Int32) (a5 : Nat) (n4_1 : Int32) (f5 : Nat → Int32) (f6 : Nat → Int32) (f7 : Nat → Int32) (f8 : Nat → Int32) (f9 : Nat → Int32) (adK : Nat → Nat) (adV : Nat → Nat) (hp_n1_1 : rg 0 900 n1_1) (hp_n4_1 : rg 0 8 n4_1) : Met l yX5_readTape wsX5_readTape ({ frames := 9, cells := 0, slots := 0, locals := 234 }) (va_Pc [.ref a0] (wrSP G ct adK adV [(a0, .inr (5, [.ref a1, .ref a3, .int n0_2, .int n0_3, .int n0_4, .int n0_5, .int n0_6, .int n0_7])), (a1, .inr (8, [.ref a2, .int n1_1])), (a2, .inl (ct 1, 900, .inl f2)), (a3, .inr (9, [.ref a4, .ref a6, .ref a7, .ref a8, .ref a9, .int n3_5, .int n3_6])), (a4, .inr (0, [.ref a5, .int n4_1])), (a5, .inl (ct 0, 8, .inl f5)), (a6, .inl (ct 0, 8, .inl f6)), (a7, .inl (ct 0, 8, .inl f7)), (a8, .inl (ct 0, 8, .inl f8)), (a9, .inl (ct 0, 8, .inl f9))])) (va_Qi (fun (r : Int32) (u : SU) => rg 0 1 r ∧ rg 0 8 (u.1 8) ∧ True) (fun u t => va_P G vwCl ((fun u : SU => [(a0, .inr (5, [.ref a1, .ref a3, .int (u.1 0), .int (u.1 1), .int (u.1 2), .int (u.1 3), .int (u.1 4), .int (u.1 5)])), (a1, .inr (8, [.ref a2, .int n1_1])), (a2, .inl (ct 1, 900, .inl f2)), (a3, .inr (9, [.ref a4, .ref a6, .ref a7, .ref a8, .ref a9, .int (u.1 6), .int (u.1 7)])), (a4, .inr (0, [.ref a5, .int (u.1 8)])), (a5, .inl (ct 0, 8, .inl (u.2.1 0))), (a6, .inl (ct 0, 8, .inl (u.2.1 1))), (a7, .inl (ct 0, 8, .inl (u.2.1 2))), (a8, .inl (ct 0, 8, .inl (u.2.1 3))), (a9, .inl (ct 0, 8, .inl (u.2.1 4)))]) u) t.heap) (aset [(a0, .inr (5, [.ref a1, .ref a3, .int n0_2, .int n0_3, .int n0_4, .int n0_5, .int n0_6, .int n0_7])), (a1, .inr (8, [.ref a2, .int n1_1])), (a2, .inl (ct 1, 900, .inl f2)), (a3, .inr (9, [.ref a4, .ref a6, .ref a7, .ref a8, .ref a9, .int n3_5, .int n3_6])), (a4, .inr (0, [.ref a5, .int n4_1])), (a5, .inl (ct 0, 8, .inl f5)), (a6, .inl (ct 0, 8, .inl f6)), (a7, .inl (ct 0, 8, .inl f7)), (a8, .inl (ct 0, 8, .inl f8)), (a9, .inl (ct 0, 8, .inl f9))])) 0 0 (aset [(a0, .inr (5, [.ref a1, .ref a3, .int n0_2, .int n0_3, .int n0_4, .int n0_5, .int n0_6, .int n0_7])), (a1, .inr (8, [.ref a2, .int n1_1])), (a2, .inl (ct 1, 900, .inl f2)), (a3, .inr (9, [.ref a4, .ref a6, .ref a7, .ref a8, .ref a9, .int n3_5, .int n3_6])), (a4, .inr (0, [.ref a5, .int n4_1])), (a5, .inl (ct 0, 8, .inl f5)), (a6, .inl (ct 0, 8, .inl f6)), (a7, .inl (ct 0, 8, .inl f7)), (a8, .inl (ct 0, 8, .inl f8)), (a9, .inl (ct 0, 8, .inl f9))]) := by
  refine Met.ofW (cc := cX5_readTape) (maxL := 2) (ret := (some .boolean)) (by decide) rfl ?_
  intro p e s m args below meth c s₁ B hml hv
  obtain ⟨rfl, hP, hK, hD0, hZ⟩ := hv
  have hx := B.exec
  have hb := B.bytes
  have hr := B.returns
  have hts := atoms_spec (ws := wsX5_readTape) B.pre
  have hown : s.vm.findClass RX5 = some m.cls := findClass_of_methodNamed B.named
  have hlocks := B.notSynchronized
  have hD := hD0.aself
  generalize hAe : aset [(a0, .inr (5, [.ref a1, .ref a3, .int n0_2, .int n0_3, .int n0_4, .int n0_5, .int n0_6, .int n0_7])), (a1, .inr (8, [.ref a2, .int n1_1])), (a2, .inl (ct 1, 900, .inl f2)), (a3, .inr (9, [.ref a4, .ref a6, .ref a7, .ref a8, .ref a9, .int n3_5, .int n3_6])), (a4, .inr (0, [.ref a5, .int n4_1])), (a5, .inl (ct 0, 8, .inl f5)), (a6, .inl (ct 0, 8, .inl f6)), (a7, .inl (ct 0, 8, .inl f7)), (a8, .inl (ct 0, 8, .inl f8)), (a9, .inl (ct 0, 8, .inl f9))] = A at hD hZ ⊢
  have hS : va_S A s.heap s.heap [] := va_S.rf
  have hl := lv_entry ([.ref a0]) (n := 2) (Nat.le_of_ble_eq_true rfl)
  rw [lg_entry_eq]
  generalize (lg_sl ([.ref a0]) ++ List.replicate (2 - (lg_sl ([.ref a0])).length) Slot.unset).toArray = ls at hl ⊢
  have hl : lv_has ls 2 [(0, .ref a0)] := hl
  refine lv_aload_n hx hb dX5_readTape_0 rfl (lv_at hl 0 rfl) ?_
  refine va_get (D := G) (ci := 5) (v := .ref a3) (C := RX5) (T := TX5) (N := 8) hx hb hts (by decide +kernel) hown hK.1 hP 0 rfl rfl 1 (by decide) (hts (.fieldLink RX5 12 "CardHolder$Reader" "draft" "LCardHolder$Town;") (by decide +kernel)) (fun _ h9 => h9) rfl dX5_readTape_1 ?_
  refine wj_callv (wr := [(a0, .inr (5, [.ref a1, .ref a3, .int n0_2, .int n0_3, .int n0_4, .int n0_5, .int n0_6, .int n0_7])), (a1, .inr (8, [.ref a2, .int n1_1])), (a2, .inl (ct 1, 900, .inl f2)), (a5, .inl (ct 0, 8, .inl f5)), (a6, .inl (ct 0, 8, .inl f6)), (a7, .inl (ct 0, 8, .inl f7)), (a8, .inl (ct 0, 8, .inl f8)), (a9, .inl (ct 0, 8, .inl f9))]) (w1 := (fun u : SU => [(a3, .inr (9, [.ref a4, .ref a6, .ref a7, .ref a8, .ref a9, .int (u.1 0), .int (u.1 1)])), (a4, .inr (0, [.ref a5, .int (u.1 2)]))])) (va_runV (As := []) (rest := []) ⟨hx, hb, hml, hown, hts⟩ (a_X9_clear l G ct a3 a4 a6 a7 a8 a9 n3_5 n3_6 a5 n4_1 hp_n4_1) (cwV 0 hts gX5_readTape_X9_clear rfl rfl rfl (by decide +kernel) ⟨Nat.le_of_ble_eq_true rfl, Nat.le_of_ble_eq_true rfl⟩) (wr_preV 9 0 hK (hP.sub [3, 4] rfl) (hD.sub [3, 4] (by decide) rfl) rfl rfl) rfl rfl hl.1 rfl (lv_room (Nat.le_of_ble_eq_true rfl)) dX5_readTape_4 ⟨Nat.zero_le _, Nat.zero_le _⟩) hS hP hD [3, 4] [0, 1, 2, 5, 6, 7, 8, 9] rfl rfl (by decide) (fun _ => rfl) (fun ur4 H locs wr4 hP hD hS => ?_)
  have hP : va_P G vwCl [(a0, .inr (5, [.ref a1, .ref a3, .int n0_2, .int n0_3, .int n0_4, .int n0_5, .int n0_6, .int n0_7])), (a1, .inr (8, [.ref a2, .int n1_1])), (a2, .inl (ct 1, 900, .inl f2)), (a3, .inr (9, [.ref a4, .ref a6, .ref a7, .ref a8, .ref a9, .int (ur4.1 0), .int (ur4.1 1)])), (a4, .inr (0, [.ref a5, .int (ur4.1 2)])), (a5, .inl (ct 0, 8, .inl f5)), (a6, .inl (ct 0, 8, .inl f6)), (a7, .inl (ct 0, 8, .inl f7)), (a8, .inl (ct 0, 8, .inl f8)), (a9, .inl (ct 0, 8, .inl f9))] H := hP.sub [0, 1, 2, 8, 9, 3, 4, 5, 6, 7] rfl
  have hD : va_D A [(a0, .inr (5, [.ref a1, .ref a3, .int n0_2, .int n0_3, .int n0_4, .int n0_5, .int n0_6, .int n0_7])), (a1, .inr (8, [.ref a2, .int n1_1])), (a2, .inl (ct 1, 900, .inl f2)), (a3, .inr (9, [.ref a4, .ref a6, .ref a7, .ref a8, .ref a9, .int (ur4.1 0), .int (ur4.1 1)])), (a4, .inr (0, [.ref a5, .int (ur4.1 2)])), (a5, .inl (ct 0, 8, .inl f5)), (a6, .inl (ct 0, 8, .inl f6)), (a7, .inl (ct 0, 8, .inl f7)), (a8, .inl (ct 0, 8, .inl f8)), (a9, .inl (ct 0, 8, .inl f9))] := hD.sub [0, 1, 2, 8, 9, 3, 4, 5, 6, 7] (by decide) rfl
  obtain ⟨p_1, p_2, p_3, -⟩ := wr4
  refine lv_aload_n hx hb dX5_readTape_7 rfl (lv_at hl 0 rfl) ?_
  refine lv_iconst (v := 0) hx hb dX5_readTape_8 (by decide) ?_
  refine va_put (D := G) (ci := 5) (v := .int 0) (ty := .int) (C := RX5) (T := TX5) (N := 8) hx hb hts (by decide +kernel) tyX5 tyX5_ok nmX5 hown hK.1 hP hD hS 0 rfl rfl 2 (by decide) (hts (.fieldLink RX5 29 "CardHolder$Reader" "wrong" "I") (by decide +kernel)) (fun _ h9 => h9) rfl (by decide +kernel) rfl rfl (Nat.le_of_ble_eq_true rfl) dX5_readTape_9 (fun H locs hP hD hS => ?_)
  refine lv_aload_n hx hb dX5_readTape_12 rfl (lv_at hl 0 rfl) ?_
  refine lv_iconst (v := (-1)) hx hb dX5_readTape_13 (by decide) ?_
  refine va_put (D := G) (ci := 5) (v := .int (-1)) (ty := .int) (C := RX5) (T := TX5) (N := 8) hx hb hts (by decide +kernel) tyX5 tyX5_ok nmX5 hown hK.1 hP hD hS 0 rfl rfl 3 (by decide) (hts (.fieldLink RX5 18 "CardHolder$Reader" "wrongPlace" "I") (by decide +kernel)) (fun _ h9 => h9) rfl (by decide +kernel) rfl rfl (Nat.le_of_ble_eq_true rfl) dX5_readTape_14 (fun H locs hP hD hS => ?_)
  refine lv_aload_n hx hb dX5_readTape_17 rfl (lv_at hl 0 rfl) ?_
  refine lv_iconst (v := 0) hx hb dX5_readTape_18 (by decide) ?_
  refine va_put (D := G) (ci := 5) (v := .int 0) (ty := .int) (C := RX5) (T := TX5) (N := 8) hx hb hts (by decide +kernel) tyX5 tyX5_ok nmX5 hown hK.1 hP hD hS 0 rfl rfl 6 (by decide) (hts (.fieldLink RX5 32 "CardHolder$Reader" "next" "I") (by decide +kernel)) (fun _ h9 => h9) rfl (by decide +kernel) rfl rfl (Nat.le_of_ble_eq_true rfl) dX5_readTape_19 (fun H locs hP hD hS => ?_)
  refine lv_aload_n hx hb dX5_readTape_22 rfl (lv_at hl 0 rfl) ?_
  refine wj_callv (wr := [(a3, .inr (9, [.ref a4, .ref a6, .ref a7, .ref a8, .ref a9, .int (ur4.1 0), .int (ur4.1 1)])), (a4, .inr (0, [.ref a5, .int (ur4.1 2)])), (a5, .inl (ct 0, 8, .inl f5)), (a6, .inl (ct 0, 8, .inl f6)), (a7, .inl (ct 0, 8, .inl f7)), (a8, .inl (ct 0, 8, .inl f8)), (a9, .inl (ct 0, 8, .inl f9))]) (w1 := (fun u : SU => [(a0, .inr (5, [.ref a1, .ref a3, .int 0, .int (-1), .int (u.1 0), .int (u.1 1), .int (u.1 2), .int (u.1 3)])), (a1, .inr (8, [.ref a2, .int n1_1])), (a2, .inl (ct 1, 900, .inl f2))])) (va_runV (As := []) (rest := []) ⟨hx, hb, hml, hown, hts⟩ (a_X5_step l G ct a0 a1 a3 (0 : Int32) ((-1) : Int32) n0_4 n0_5 (0 : Int32) n0_7 a2 n1_1 f2 hp_n1_1) (cwV 0 hts gX5_readTape_X5_step rfl rfl rfl (by decide +kernel) ⟨Nat.le_of_ble_eq_true rfl, Nat.le_of_ble_eq_true rfl⟩) (wr_preV 5 0 hK (hP.sub [0, 1, 2] rfl) (hD.sub [0, 1, 2] (by decide) rfl) rfl rfl) rfl rfl hl.1 rfl (lv_room (Nat.le_of_ble_eq_true rfl)) dX5_readTape_23 ⟨Nat.zero_le _, Nat.zero_le _⟩) hS hP hD [0, 1, 2] [3, 4, 5, 6, 7, 8, 9] rfl rfl (by decide) (fun _ => rfl) (fun ur23 H locs wr23 hP hD hS => ?_)
  have hP : va_P G vwCl [(a0, .inr (5, [.ref a1, .ref a3, .int 0, .int (-1), .int (ur23.1 0), .int (ur23.1 1), .int (ur23.1 2), .int (ur23.1 3)])), (a1, .inr (8, [.ref a2, .int n1_1])), (a2, .inl (ct 1, 900, .inl f2)), (a3, .inr (9, [.ref a4, .ref a6, .ref a7, .ref a8, .ref a9, .int (ur4.1 0), .int (ur4.1 1)])), (a4, .inr (0, [.ref a5, .int (ur4.1 2)])), (a5, .inl (ct 0, 8, .inl f5)), (a6, .inl (ct 0, 8, .inl f6)), (a7, .inl (ct 0, 8, .inl f7)), (a8, .inl (ct 0, 8, .inl f8)), (a9, .inl (ct 0, 8, .inl f9))] H := hP.sub [7, 8, 9, 0, 1, 2, 3, 4, 5, 6] rfl
  have hD : va_D A [(a0, .inr (5, [.ref a1, .ref a3, .int 0, .int (-1), .int (ur23.1 0), .int (ur23.1 1), .int (ur23.1 2), .int (ur23.1 3)])), (a1, .inr (8, [.ref a2, .int n1_1])), (a2, .inl (ct 1, 900, .inl f2)), (a3, .inr (9, [.ref a4, .ref a6, .ref a7, .ref a8, .ref a9, .int (ur4.1 0), .int (ur4.1 1)])), (a4, .inr (0, [.ref a5, .int (ur4.1 2)])), (a5, .inl (ct 0, 8, .inl f5)), (a6, .inl (ct 0, 8, .inl f6)), (a7, .inl (ct 0, 8, .inl f7)), (a8, .inl (ct 0, 8, .inl f8)), (a9, .inl (ct 0, 8, .inl f9))] := hD.sub [7, 8, 9, 0, 1, 2, 3, 4, 5, 6] (by decide) rfl
  obtain ⟨p_4, p_5, -⟩ := wr23
  refine lv_iconst (v := 0) hx hb dX5_readTape_26 (by decide) ?_
  refine lv_istore_n (lv' := [(1, .int 0), (0, .ref a0)]) hx hb dX5_readTape_27 rfl hl (by decide) rfl (fun ls hl => ?_)
  have j28 : ∀ (n : Nat) (x28_1 : Int32) (v28_0_2 : Int32) (v28_0_3 : Int32) (v28_0_4 : Int32) (v28_0_5 : Int32) (v28_0_6 : Int32) (v28_0_7 : Int32) (v28_3_5 : Int32) (v28_3_6 : Int32) (v28_4_1 : Int32) (f28_5 : Nat → Int32) (f28_6 : Nat → Int32) (f28_7 : Nat → Int32) (f28_8 : Nat → Int32) (f28_9 : Nat → Int32) (H : Heap) (locs : List Loc) (ls : Array Slot), 2147483648 ≤ x28_1.toInt + (n : Int) → rg 0 900 x28_1 → rg 0 8 v28_4_1 → va_P G vwCl [(a0, .inr (5, [.ref a1, .ref a3, .int v28_0_2, .int v28_0_3, .int v28_0_4, .int v28_0_5, .int v28_0_6, .int v28_0_7])), (a1, .inr (8, [.ref a2, .int n1_1])), (a2, .inl (ct 1, 900, .inl f2)), (a3, .inr (9, [.ref a4, .ref a6, .ref a7, .ref a8, .ref a9, .int v28_3_5, .int v28_3_6])), (a4, .inr (0, [.ref a5, .int v28_4_1])), (a5, .inl (ct 0, 8, .inl f28_5)), (a6, .inl (ct 0, 8, .inl f28_6)), (a7, .inl (ct 0, 8, .inl f28_7)), (a8, .inl (ct 0, 8, .inl f28_8)), (a9, .inl (ct 0, 8, .inl f28_9))] H → va_D A [(a0, .inr (5, [.ref a1, .ref a3, .int v28_0_2, .int v28_0_3, .int v28_0_4, .int v28_0_5, .int v28_0_6, .int v28_0_7])), (a1, .inr (8, [.ref a2, .int n1_1])), (a2, .inl (ct 1, 900, .inl f2)), (a3, .inr (9, [.ref a4, .ref a6, .ref a7, .ref a8, .ref a9, .int v28_3_5, .int v28_3_6])), (a4, .inr (0, [.ref a5, .int v28_4_1])), (a5, .inl (ct 0, 8, .inl f28_5)), (a6, .inl (ct 0, 8, .inl f28_6)), (a7, .inl (ct 0, 8, .inl f28_7)), (a8, .inl (ct 0, 8, .inl f28_8)), (a9, .inl (ct 0, 8, .inl f28_9))] → va_S A s.heap H locs → lv_has ls 2 [(0, .ref a0), (1, .int x28_1)] → W p l e (headSpec wsX5_readTape ({ frames := 9, cells := 0, slots := 0, locals := 234 })).room s m ([.ref a0] : List Value).toArray below meth c H locs 0 0 (MQ below (va_Qi (fun (r : Int32) (u : SU) => rg 0 1 r ∧ rg 0 8 (u.1 8) ∧ True) (fun u t => va_P G vwCl ((fun u : SU => [(a0, .inr (5, [.ref a1, .ref a3, .int (u.1 0), .int (u.1 1), .int (u.1 2), .int (u.1 3), .int (u.1 4), .int (u.1 5)])), (a1, .inr (8, [.ref a2, .int n1_1])), (a2, .inl (ct 1, 900, .inl f2)), (a3, .inr (9, [.ref a4, .ref a6, .ref a7, .ref a8, .ref a9, .int (u.1 6), .int (u.1 7)])), (a4, .inr (0, [.ref a5, .int (u.1 8)])), (a5, .inl (ct 0, 8, .inl (u.2.1 0))), (a6, .inl (ct 0, 8, .inl (u.2.1 1))), (a7, .inl (ct 0, 8, .inl (u.2.1 2))), (a8, .inl (ct 0, 8, .inl (u.2.1 3))), (a9, .inl (ct 0, 8, .inl (u.2.1 4)))]) u) t.heap) A) ([.ref a0] : List Value).toArray s 0 0 A) (F0 m 28 ls []) := by
    intro n
    induction n with
    | zero => intro x28_1 v28_0_2 v28_0_3 v28_0_4 v28_0_5 v28_0_6 v28_0_7 v28_3_5 v28_3_6 v28_4_1 f28_5 f28_6 f28_7 f28_8 f28_9 H locs ls hn28 hx28_1 hv28_4_1 hP hD hS hl; exact absurd hn28 (by have := Int32.toInt_lt x28_1; have := Int32.le_toInt x28_1; omega)
    | succ n ih28 =>
      intro x28_1 v28_0_2 v28_0_3 v28_0_4 v28_0_5 v28_0_6 v28_0_7 v28_3_5 v28_3_6 v28_4_1 f28_5 f28_6 f28_7 f28_8 f28_9 H locs ls hn28 hx28_1 hv28_4_1 hP hD hS hl
      refine lv_iload_n hx hb dX5_readTape_28 rfl (lv_at hl 1 rfl) ?_
      refine lv_sipush (v := 900) hx hb dX5_readTape_29 (by decide) ?_
      have j113 : ∀ (H : Heap) (locs : List Loc) (ls : Array Slot), va_P G vwCl [(a0, .inr (5, [.ref a1, .ref a3, .int v28_0_2, .int v28_0_3, .int v28_0_4, .int v28_0_5, .int v28_0_6, .int v28_0_7])), (a1, .inr (8, [.ref a2, .int n1_1])), (a2, .inl (ct 1, 900, .inl f2)), (a3, .inr (9, [.ref a4, .ref a6, .ref a7, .ref a8, .ref a9, .int v28_3_5, .int v28_3_6])), (a4, .inr (0, [.ref a5, .int v28_4_1])), (a5, .inl (ct 0, 8, .inl f28_5)), (a6, .inl (ct 0, 8, .inl f28_6)), (a7, .inl (ct 0, 8, .inl f28_7)), (a8, .inl (ct 0, 8, .inl f28_8)), (a9, .inl (ct 0, 8, .inl f28_9))] H → va_D A [(a0, .inr (5, [.ref a1, .ref a3, .int v28_0_2, .int v28_0_3, .int v28_0_4, .int v28_0_5, .int v28_0_6, .int v28_0_7])), (a1, .inr (8, [.ref a2, .int n1_1])), (a2, .inl (ct 1, 900, .inl f2)), (a3, .inr (9, [.ref a4, .ref a6, .ref a7, .ref a8, .ref a9, .int v28_3_5, .int v28_3_6])), (a4, .inr (0, [.ref a5, .int v28_4_1])), (a5, .inl (ct 0, 8, .inl f28_5)), (a6, .inl (ct 0, 8, .inl f28_6)), (a7, .inl (ct 0, 8, .inl f28_7)), (a8, .inl (ct 0, 8, .inl f28_8)), (a9, .inl (ct 0, 8, .inl f28_9))] → va_S A s.heap H locs → lv_has ls 2 [(0, .ref a0), (1, .int x28_1)] → W p l e (headSpec wsX5_readTape ({ frames := 9, cells := 0, slots := 0, locals := 234 })).room s m ([.ref a0] : List Value).toArray below meth c H locs 0 0 (MQ below (va_Qi (fun (r : Int32) (u : SU) => rg 0 1 r ∧ rg 0 8 (u.1 8) ∧ True) (fun u t => va_P G vwCl ((fun u : SU => [(a0, .inr (5, [.ref a1, .ref a3, .int (u.1 0), .int (u.1 1), .int (u.1 2), .int (u.1 3), .int (u.1 4), .int (u.1 5)])), (a1, .inr (8, [.ref a2, .int n1_1])), (a2, .inl (ct 1, 900, .inl f2)), (a3, .inr (9, [.ref a4, .ref a6, .ref a7, .ref a8, .ref a9, .int (u.1 6), .int (u.1 7)])), (a4, .inr (0, [.ref a5, .int (u.1 8)])), (a5, .inl (ct 0, 8, .inl (u.2.1 0))), (a6, .inl (ct 0, 8, .inl (u.2.1 1))), (a7, .inl (ct 0, 8, .inl (u.2.1 2))), (a8, .inl (ct 0, 8, .inl (u.2.1 3))), (a9, .inl (ct 0, 8, .inl (u.2.1 4)))]) u) t.heap) A) ([.ref a0] : List Value).toArray s 0 0 A) (F0 m 113 ls []) := by
        intro  H locs ls  hP hD hS hl
        refine lv_aload_n hx hb dX5_readTape_113 rfl (lv_at hl 0 rfl) ?_
        refine va_get (D := G) (ci := 5) (v := .int v28_0_2) (C := RX5) (T := TX5) (N := 8) hx hb hts (by decide +kernel) hown hK.1 hP 0 rfl rfl 2 (by decide) (hts (.fieldLink RX5 29 "CardHolder$Reader" "wrong" "I") (by decide +kernel)) (fun _ h9 => h9) rfl dX5_readTape_114 ?_
        refine lv_if_ne (tgt := 124) hx hb dX5_readTape_117 (by decide) (fun c117 => ?_) (fun c117 => ?_)
        · refine lv_iconst (v := 0) hx hb dX5_readTape_124 (by decide) ?_
          exact W.zret (v := 0) (ty := .boolean) hx hb hr (rfl) (fun t ht hW => ⟨⟨0, (fun k => ([v28_0_2, v28_0_3, v28_0_4, v28_0_5, v28_0_6, v28_0_7, v28_3_5, v28_3_6, v28_4_1] : List Int32).getD k 0, fun k => ([f28_5, f28_6, f28_7, f28_8, f28_9] : List (Nat → Int32)).getD k (fun _ => 0), fun k => ([] : List (Nat → Int64)).getD k (fun _ => 0)), rfl, ⟨(rg_w (c := 0) (d := 1) (rgn 0 (x := 0) (by decide)) (by decide)), hv28_4_1, trivial⟩, hp_at ht hP⟩, hS.F ht⟩) hS.2.2 dX5_readTape_125
        · have h_6 : rg 0 0 v28_0_2 := r_eq_l_i (e := 0) (f := 0) c117 (rg_t v28_0_2) (rgn 0 (x := 0) (by decide)) (by decide)
          refine lv_iconst (v := 1) hx hb dX5_readTape_120 (by decide) ?_
          refine lv_goto (tgt := 125) hx hb dX5_readTape_121 (by decide) ?_
          exact W.zret (v := 1) (ty := .boolean) hx hb hr (rfl) (fun t ht hW => ⟨⟨1, (fun k => ([v28_0_2, v28_0_3, v28_0_4, v28_0_5, v28_0_6, v28_0_7, v28_3_5, v28_3_6, v28_4_1] : List Int32).getD k 0, fun k => ([f28_5, f28_6, f28_7, f28_8, f28_9] : List (Nat → Int32)).getD k (fun _ => 0), fun k => ([] : List (Nat → Int64)).getD k (fun _ => 0)), rfl, ⟨(rg_w (c := 0) (d := 1) (rgn 1 (x := 1) (by decide)) (by decide)), hv28_4_1, trivial⟩, hp_at ht hP⟩, hS.F ht⟩) hS.2.2 dX5_readTape_125
      refine lv_icmp_ge (tgt := 113) hx hb dX5_readTape_32 (by decide) (fun c32 => ?_) (fun c32 => ?_)
      · have h_7 : rg 900 900 x28_1 := r_le_r_i c32 (rgn 900 (x := 900) (by decide)) hx28_1
        exact j113 _ _ ls hP hD hS (lv_sub hl [0, 1] rfl)
      · have h_8 : rg 0 899 x28_1 := r_lt_l_i (nle_i c32) hx28_1 (rgn 900 (x := 900) (by decide)) (by decide)
        refine lv_aload_n hx hb dX5_readTape_35 rfl (lv_at hl 0 rfl) ?_
        refine va_get (D := G) (ci := 5) (v := .int v28_0_4) (C := RX5) (T := TX5) (N := 8) hx hb hts (by decide +kernel) hown hK.1 hP 0 rfl rfl 4 (by decide) (hts (.fieldLink RX5 38 "CardHolder$Reader" "kind" "I") (by decide +kernel)) (fun _ h9 => h9) rfl dX5_readTape_36 ?_
        refine lv_if_eq (tgt := 113) hx hb dX5_readTape_39 (by decide) (fun c39 => ?_) (fun c39 => ?_)
        · have h_9 : rg 0 0 v28_0_4 := r_eq_l_i (e := 0) (f := 0) c39 (rg_t v28_0_4) (rgn 0 (x := 0) (by decide)) (by decide)
          exact j113 _ _ ls hP hD hS (lv_sub hl [0, 1] rfl)
        · refine lv_aload_n hx hb dX5_readTape_42 rfl (lv_at hl 0 rfl) ?_
          refine va_get (D := G) (ci := 5) (v := .int v28_0_2) (C := RX5) (T := TX5) (N := 8) hx hb hts (by decide +kernel) hown hK.1 hP 0 rfl rfl 2 (by decide) (hts (.fieldLink RX5 29 "CardHolder$Reader" "wrong" "I") (by decide +kernel)) (fun _ h9 => h9) rfl dX5_readTape_43 ?_
          refine lv_if_ne (tgt := 113) hx hb dX5_readTape_46 (by decide) (fun c46 => ?_) (fun c46 => ?_)
          · exact j113 _ _ ls hP hD hS (lv_sub hl [0, 1] rfl)
          · have h_10 : rg 0 0 v28_0_2 := r_eq_l_i (e := 0) (f := 0) c46 (rg_t v28_0_2) (rgn 0 (x := 0) (by decide)) (by decide)
            refine lv_aload_n hx hb dX5_readTape_49 rfl (lv_at hl 0 rfl) ?_
            refine va_get (D := G) (ci := 5) (v := .ref a3) (C := RX5) (T := TX5) (N := 8) hx hb hts (by decide +kernel) hown hK.1 hP 0 rfl rfl 1 (by decide) (hts (.fieldLink RX5 12 "CardHolder$Reader" "draft" "LCardHolder$Town;") (by decide +kernel)) (fun _ h9 => h9) rfl dX5_readTape_50 ?_
            refine va_get (D := G) (ci := 9) (v := .int v28_3_5) (C := RX9) (T := TX9) (N := 7) hx hb hts (by decide +kernel) hown hK.1 hP 3 rfl rfl 5 (by decide) (hts (.fieldLink RX5 41 "CardHolder$Town" "lines" "I") (by decide +kernel)) (fun _ h9 => h9) rfl dX5_readTape_53 ?_
            have j103 : ∀ (v103_0_2 : Int32) (v103_0_3 : Int32) (v103_0_4 : Int32) (v103_0_5 : Int32) (v103_0_6 : Int32) (v103_0_7 : Int32) (v103_3_6 : Int32) (v103_4_1 : Int32) (f103_5 : Nat → Int32) (f103_6 : Nat → Int32) (f103_7 : Nat → Int32) (f103_8 : Nat → Int32) (f103_9 : Nat → Int32) (H : Heap) (locs : List Loc) (ls : Array Slot), rg 0 8 v103_4_1 → va_P G vwCl [(a0, .inr (5, [.ref a1, .ref a3, .int v103_0_2, .int v103_0_3, .int v103_0_4, .int v103_0_5, .int v103_0_6, .int v103_0_7])), (a1, .inr (8, [.ref a2, .int n1_1])), (a2, .inl (ct 1, 900, .inl f2)), (a3, .inr (9, [.ref a4, .ref a6, .ref a7, .ref a8, .ref a9, .int v28_3_5, .int v103_3_6])), (a4, .inr (0, [.ref a5, .int v103_4_1])), (a5, .inl (ct 0, 8, .inl f103_5)), (a6, .inl (ct 0, 8, .inl f103_6)), (a7, .inl (ct 0, 8, .inl f103_7)), (a8, .inl (ct 0, 8, .inl f103_8)), (a9, .inl (ct 0, 8, .inl f103_9))] H → va_D A [(a0, .inr (5, [.ref a1, .ref a3, .int v103_0_2, .int v103_0_3, .int v103_0_4, .int v103_0_5, .int v103_0_6, .int v103_0_7])), (a1, .inr (8, [.ref a2, .int n1_1])), (a2, .inl (ct 1, 900, .inl f2)), (a3, .inr (9, [.ref a4, .ref a6, .ref a7, .ref a8, .ref a9, .int v28_3_5, .int v103_3_6])), (a4, .inr (0, [.ref a5, .int v103_4_1])), (a5, .inl (ct 0, 8, .inl f103_5)), (a6, .inl (ct 0, 8, .inl f103_6)), (a7, .inl (ct 0, 8, .inl f103_7)), (a8, .inl (ct 0, 8, .inl f103_8)), (a9, .inl (ct 0, 8, .inl f103_9))] → va_S A s.heap H locs → lv_has ls 2 [(0, .ref a0), (1, .int x28_1)] → W p l e (headSpec wsX5_readTape ({ frames := 9, cells := 0, slots := 0, locals := 234 })).room s m ([.ref a0] : List Value).toArray below meth c H locs 0 0 (MQ below (va_Qi (fun (r : Int32) (u : SU) => rg 0 1 r ∧ rg 0 8 (u.1 8) ∧ True) (fun u t => va_P G vwCl ((fun u : SU => [(a0, .inr (5, [.ref a1, .ref a3, .int (u.1 0), .int (u.1 1), .int (u.1 2), .int (u.1 3), .int (u.1 4), .int (u.1 5)])), (a1, .inr (8, [.ref a2, .int n1_1])), (a2, .inl (ct 1, 900, .inl f2)), (a3, .inr (9, [.ref a4, .ref a6, .ref a7, .ref a8, .ref a9, .int (u.1 6), .int (u.1 7)])), (a4, .inr (0, [.ref a5, .int (u.1 8)])), (a5, .inl (ct 0, 8, .inl (u.2.1 0))), (a6, .inl (ct 0, 8, .inl (u.2.1 1))), (a7, .inl (ct 0, 8, .inl (u.2.1 2))), (a8, .inl (ct 0, 8, .inl (u.2.1 3))), (a9, .inl (ct 0, 8, .inl (u.2.1 4)))]) u) t.heap) A) ([.ref a0] : List Value).toArray s 0 0 A) (F0 m 103 ls []) := by
              intro v103_0_2 v103_0_3 v103_0_4 v103_0_5 v103_0_6 v103_0_7 v103_3_6 v103_4_1 f103_5 f103_6 f103_7 f103_8 f103_9 H locs ls hv103_4_1 hP hD hS hl
              refine lv_aload_n hx hb dX5_readTape_103 rfl (lv_at hl 0 rfl) ?_
              refine wj_callv (wr := [(a4, .inr (0, [.ref a5, .int v103_4_1])), (a5, .inl (ct 0, 8, .inl f103_5)), (a6, .inl (ct 0, 8, .inl f103_6)), (a7, .inl (ct 0, 8, .inl f103_7)), (a8, .inl (ct 0, 8, .inl f103_8)), (a9, .inl (ct 0, 8, .inl f103_9))]) (w1 := (fun u : SU => [(a0, .inr (5, [.ref a1, .ref a3, .int (u.1 0), .int (u.1 1), .int (u.1 2), .int (u.1 3), .int (u.1 4), .int (u.1 5)])), (a1, .inr (8, [.ref a2, .int n1_1])), (a2, .inl (ct 1, 900, .inl f2)), (a3, .inr (9, [.ref a4, .ref a6, .ref a7, .ref a8, .ref a9, .int (u.1 6), .int v103_3_6]))])) (va_runV (As := []) (rest := []) ⟨hx, hb, hml, hown, hts⟩ (a_X5_takeSign l G ct a0 a1 a3 v103_0_2 v103_0_3 v103_0_4 v103_0_5 v103_0_6 v103_0_7 a2 n1_1 f2 a4 a6 a7 a8 a9 v28_3_5 v103_3_6 hp_n1_1) (cwV 0 hts gX5_readTape_X5_takeSign rfl rfl rfl (by decide +kernel) ⟨Nat.le_of_ble_eq_true rfl, Nat.le_of_ble_eq_true rfl⟩) (wr_preV 5 0 hK (hP.sub [0, 1, 2, 3] rfl) (hD.sub [0, 1, 2, 3] (by decide) rfl) rfl rfl) rfl rfl hl.1 rfl (lv_room (Nat.le_of_ble_eq_true rfl)) dX5_readTape_104 ⟨Nat.zero_le _, Nat.zero_le _⟩) hS hP hD [0, 1, 2, 3] [4, 5, 6, 7, 8, 9] rfl rfl (by decide) (fun _ => rfl) (fun ur104 H locs wr104 hP hD hS => ?_)
              have hP : va_P G vwCl [(a0, .inr (5, [.ref a1, .ref a3, .int (ur104.1 0), .int (ur104.1 1), .int (ur104.1 2), .int (ur104.1 3), .int (ur104.1 4), .int (ur104.1 5)])), (a1, .inr (8, [.ref a2, .int n1_1])), (a2, .inl (ct 1, 900, .inl f2)), (a3, .inr (9, [.ref a4, .ref a6, .ref a7, .ref a8, .ref a9, .int (ur104.1 6), .int v103_3_6])), (a4, .inr (0, [.ref a5, .int v103_4_1])), (a5, .inl (ct 0, 8, .inl f103_5)), (a6, .inl (ct 0, 8, .inl f103_6)), (a7, .inl (ct 0, 8, .inl f103_7)), (a8, .inl (ct 0, 8, .inl f103_8)), (a9, .inl (ct 0, 8, .inl f103_9))] H := hP.sub [6, 7, 8, 9, 0, 1, 2, 3, 4, 5] rfl
              have hD : va_D A [(a0, .inr (5, [.ref a1, .ref a3, .int (ur104.1 0), .int (ur104.1 1), .int (ur104.1 2), .int (ur104.1 3), .int (ur104.1 4), .int (ur104.1 5)])), (a1, .inr (8, [.ref a2, .int n1_1])), (a2, .inl (ct 1, 900, .inl f2)), (a3, .inr (9, [.ref a4, .ref a6, .ref a7, .ref a8, .ref a9, .int (ur104.1 6), .int v103_3_6])), (a4, .inr (0, [.ref a5, .int v103_4_1])), (a5, .inl (ct 0, 8, .inl f103_5)), (a6, .inl (ct 0, 8, .inl f103_6)), (a7, .inl (ct 0, 8, .inl f103_7)), (a8, .inl (ct 0, 8, .inl f103_8)), (a9, .inl (ct 0, 8, .inl f103_9))] := hD.sub [6, 7, 8, 9, 0, 1, 2, 3, 4, 5] (by decide) rfl
              obtain ⟨z107, qz107⟩ : ∃ y : Int32, y = x28_1 + Int32.ofInt 1 := ⟨_, rfl⟩
              obtain ⟨hz107, ez107⟩ := inc_z (e := 1) (f := 900) h_8 qz107 (by decide)
              refine lv_iinc (v := z107) (lv' := [(1, .int z107), (0, .ref a0)]) hx hb dX5_readTape_107 hl (k := 1) rfl (qz107.symm) (by decide) rfl (fun ls hl => ?_)
              refine lv_goto (tgt := 28) hx hb dX5_readTape_110 (by decide) ?_
              exact ih28 z107 (ur104.1 0) (ur104.1 1) (ur104.1 2) (ur104.1 3) (ur104.1 4) (ur104.1 5) (ur104.1 6) v103_3_6 v103_4_1 f103_5 f103_6 f103_7 f103_8 f103_9 _ _ ls (by have q := hn28; have := ez107; omega) (rg_w (c := 0) (d := 900) hz107 (by decide)) hv103_4_1 hP hD hS (lv_sub hl [1, 0] rfl)
            refine lv_if_ne (tgt := 66) hx hb dX5_readTape_56 (by decide) (fun c56 => ?_) (fun c56 => ?_)
            · refine lv_aload_n hx hb dX5_readTape_66 rfl (lv_at hl 0 rfl) ?_
              refine va_ldcS hx hb hown (show vk_R RX5 47 "person" (adK 0) s from hZ.2.2.2 0 (by decide)) dX5_readTape_67 ?_
              refine ro_calli (va_runV (As := [.ref (adK 0)]) (rest := []) ⟨hx, hb, hml, hown, hts⟩ (a_X5_isWord l G ct a0 a1 a3 v28_0_2 v28_0_3 v28_0_4 v28_0_5 v28_0_6 v28_0_7 a2 n1_1 f2 adK adV (0 : Nat) (by decide) hp_n1_1) (cwV 1 hts gX5_readTape_X5_isWord rfl rfl rfl (by decide +kernel) ⟨Nat.le_of_ble_eq_true rfl, Nat.le_of_ble_eq_true rfl⟩) (roS_preV 5 0 hK (hP.sub [0, 1, 2] rfl) ((hZ.kept hS.2.1).narrow (fun q h => h.elim)) rfl rfl) rfl rfl hl.1 rfl (lv_room (Nat.le_of_ble_eq_true rfl)) dX5_readTape_69 ⟨Nat.zero_le _, Nat.zero_le _⟩) hS hP (fun r69 H locs wr69 hP hS => ?_)
              obtain ⟨p_11, p_12, -⟩ := wr69
              refine lv_if_eq (tgt := 82) hx hb dX5_readTape_72 (by decide) (fun c72 => ?_) (fun c72 => ?_)
              · have h_13 : rg 0 0 r69 := r_eq_l_i (e := 0) (f := 0) c72 p_11 (rgn 0 (x := 0) (by decide)) (by decide)
                refine lv_aload_n hx hb dX5_readTape_82 rfl (lv_at hl 0 rfl) ?_
                refine va_ldcS hx hb hown (show vk_R RX5 56 "card" (adK 1) s from hZ.2.2.2 1 (by decide)) dX5_readTape_83 ?_
                refine ro_calli (va_runV (As := [.ref (adK 1)]) (rest := []) ⟨hx, hb, hml, hown, hts⟩ (a_X5_isWord l G ct a0 a1 a3 v28_0_2 v28_0_3 v28_0_4 v28_0_5 v28_0_6 v28_0_7 a2 n1_1 f2 adK adV (1 : Nat) (by decide) hp_n1_1) (cwV 1 hts gX5_readTape_X5_isWord rfl rfl rfl (by decide +kernel) ⟨Nat.le_of_ble_eq_true rfl, Nat.le_of_ble_eq_true rfl⟩) (roS_preV 5 0 hK (hP.sub [0, 1, 2] rfl) ((hZ.kept hS.2.1).narrow (fun q h => h.elim)) rfl rfl) rfl rfl hl.1 rfl (lv_room (Nat.le_of_ble_eq_true rfl)) dX5_readTape_85 ⟨Nat.zero_le _, Nat.zero_le _⟩) hS hP (fun r85 H locs wr85 hP hS => ?_)
                obtain ⟨p_14, p_15, -⟩ := wr85
                refine lv_if_eq (tgt := 98) hx hb dX5_readTape_88 (by decide) (fun c88 => ?_) (fun c88 => ?_)
                · have h_16 : rg 0 0 r85 := r_eq_l_i (e := 0) (f := 0) c88 p_14 (rgn 0 (x := 0) (by decide)) (by decide)
                  refine lv_aload_n hx hb dX5_readTape_98 rfl (lv_at hl 0 rfl) ?_
                  refine lv_iconst (v := 1) hx hb dX5_readTape_99 (by decide) ?_
                  refine wj_callv (wr := [(a1, .inr (8, [.ref a2, .int n1_1])), (a2, .inl (ct 1, 900, .inl f2)), (a3, .inr (9, [.ref a4, .ref a6, .ref a7, .ref a8, .ref a9, .int v28_3_5, .int v28_3_6])), (a4, .inr (0, [.ref a5, .int v28_4_1])), (a5, .inl (ct 0, 8, .inl f28_5)), (a6, .inl (ct 0, 8, .inl f28_6)), (a7, .inl (ct 0, 8, .inl f28_7)), (a8, .inl (ct 0, 8, .inl f28_8)), (a9, .inl (ct 0, 8, .inl f28_9))]) (w1 := (fun u : SU => [(a0, .inr (5, [.ref a1, .ref a3, .int (u.1 0), .int (u.1 1), .int v28_0_4, .int v28_0_5, .int v28_0_6, .int v28_0_7]))])) (va_runV (As := [.int 1]) (rest := []) ⟨hx, hb, hml, hown, hts⟩ (a_X5_fail l G ct a0 a1 a3 v28_0_2 v28_0_3 v28_0_4 v28_0_5 v28_0_6 v28_0_7 (1 : Int32)) (cwV 1 hts gX5_readTape_X5_fail rfl rfl rfl (by decide +kernel) ⟨Nat.le_of_ble_eq_true rfl, Nat.le_of_ble_eq_true rfl⟩) (wr_preV 5 0 hK (hP.sub [0] rfl) (hD.sub [0] (by decide) rfl) rfl rfl) rfl rfl hl.1 rfl (lv_room (Nat.le_of_ble_eq_true rfl)) dX5_readTape_100 ⟨Nat.zero_le _, Nat.zero_le _⟩) hS hP hD [0] [1, 2, 3, 4, 5, 6, 7, 8, 9] rfl rfl (by decide) (fun _ => rfl) (fun ur100 H locs wr100 hP hD hS => ?_)
                  have hP : va_P G vwCl [(a0, .inr (5, [.ref a1, .ref a3, .int (ur100.1 0), .int (ur100.1 1), .int v28_0_4, .int v28_0_5, .int v28_0_6, .int v28_0_7])), (a1, .inr (8, [.ref a2, .int n1_1])), (a2, .inl (ct 1, 900, .inl f2)), (a3, .inr (9, [.ref a4, .ref a6, .ref a7, .ref a8, .ref a9, .int v28_3_5, .int v28_3_6])), (a4, .inr (0, [.ref a5, .int v28_4_1])), (a5, .inl (ct 0, 8, .inl f28_5)), (a6, .inl (ct 0, 8, .inl f28_6)), (a7, .inl (ct 0, 8, .inl f28_7)), (a8, .inl (ct 0, 8, .inl f28_8)), (a9, .inl (ct 0, 8, .inl f28_9))] H := hP.sub [9, 0, 1, 2, 3, 4, 5, 6, 7, 8] rfl
                  have hD : va_D A [(a0, .inr (5, [.ref a1, .ref a3, .int (ur100.1 0), .int (ur100.1 1), .int v28_0_4, .int v28_0_5, .int v28_0_6, .int v28_0_7])), (a1, .inr (8, [.ref a2, .int n1_1])), (a2, .inl (ct 1, 900, .inl f2)), (a3, .inr (9, [.ref a4, .ref a6, .ref a7, .ref a8, .ref a9, .int v28_3_5, .int v28_3_6])), (a4, .inr (0, [.ref a5, .int v28_4_1])), (a5, .inl (ct 0, 8, .inl f28_5)), (a6, .inl (ct 0, 8, .inl f28_6)), (a7, .inl (ct 0, 8, .inl f28_7)), (a8, .inl (ct 0, 8, .inl f28_8)), (a9, .inl (ct 0, 8, .inl f28_9))] := hD.sub [9, 0, 1, 2, 3, 4, 5, 6, 7, 8] (by decide) rfl
                  exact j103 (ur100.1 0) (ur100.1 1) v28_0_4 v28_0_5 v28_0_6 v28_0_7 v28_3_6 v28_4_1 f28_5 f28_6 f28_7 f28_8 f28_9 _ _ ls hv28_4_1 hP hD hS (lv_sub hl [0, 1] rfl)
                · have h_17 : rg 1 1 r85 := r_ne_lo_i c88 p_14 (by decide) (by decide)
                  have h_18 : rg 1 1 v28_0_4 := (p_15 (rne h_17 (y := 0) (c := 0) (by decide) (by decide)))
                  refine lv_aload_n hx hb dX5_readTape_91 rfl (lv_at hl 0 rfl) ?_
                  refine wj_callv (wr := [(a6, .inl (ct 0, 8, .inl f28_6)), (a7, .inl (ct 0, 8, .inl f28_7)), (a8, .inl (ct 0, 8, .inl f28_8))]) (w1 := (fun u : SU => [(a0, .inr (5, [.ref a1, .ref a3, .int (u.1 0), .int (u.1 1), .int (u.1 2), .int (u.1 3), .int (u.1 4), .int (u.1 5)])), (a1, .inr (8, [.ref a2, .int n1_1])), (a2, .inl (ct 1, 900, .inl f2)), (a3, .inr (9, [.ref a4, .ref a6, .ref a7, .ref a8, .ref a9, .int v28_3_5, .int v28_3_6])), (a4, .inr (0, [.ref a5, .int v28_4_1])), (a5, .inl (ct 0, 8, .inl (u.2.1 0))), (a9, .inl (ct 0, 8, .inl (u.2.1 1)))])) (va_runV (As := []) (rest := []) ⟨hx, hb, hml, hown, hts⟩ (a_X5_readCardLine l G ct a0 a1 a3 v28_0_2 v28_0_3 v28_0_4 v28_0_5 v28_0_6 v28_0_7 a2 n1_1 f2 a4 a6 a7 a8 a9 v28_3_5 v28_3_6 a5 v28_4_1 f28_5 f28_9 adK adV hp_n1_1 hv28_4_1) (cwV 0 hts gX5_readTape_X5_readCardLine rfl rfl rfl (by decide +kernel) ⟨Nat.le_of_ble_eq_true rfl, Nat.le_of_ble_eq_true rfl⟩) (wrS_preV 5 0 hK (hP.sub [0, 1, 2, 3, 4, 5, 9] rfl) (hD.sub [0, 1, 2, 3, 4, 5, 9] (by decide) rfl) ((hZ.kept hS.2.1).narrow (fun q h => aset_in hD [0, 1, 2, 3, 4, 5, 9] rfl q h)) rfl rfl) rfl rfl hl.1 rfl (lv_room (Nat.le_of_ble_eq_true rfl)) dX5_readTape_92 ⟨Nat.zero_le _, Nat.zero_le _⟩) hS hP hD [0, 1, 2, 3, 4, 5, 9] [6, 7, 8] rfl rfl (by decide) (fun _ => rfl) (fun ur92 H locs wr92 hP hD hS => ?_)
                  have hP : va_P G vwCl [(a0, .inr (5, [.ref a1, .ref a3, .int (ur92.1 0), .int (ur92.1 1), .int (ur92.1 2), .int (ur92.1 3), .int (ur92.1 4), .int (ur92.1 5)])), (a1, .inr (8, [.ref a2, .int n1_1])), (a2, .inl (ct 1, 900, .inl f2)), (a3, .inr (9, [.ref a4, .ref a6, .ref a7, .ref a8, .ref a9, .int v28_3_5, .int v28_3_6])), (a4, .inr (0, [.ref a5, .int v28_4_1])), (a5, .inl (ct 0, 8, .inl (ur92.2.1 0))), (a6, .inl (ct 0, 8, .inl f28_6)), (a7, .inl (ct 0, 8, .inl f28_7)), (a8, .inl (ct 0, 8, .inl f28_8)), (a9, .inl (ct 0, 8, .inl (ur92.2.1 1)))] H := hP.sub [3, 4, 5, 6, 7, 8, 0, 1, 2, 9] rfl
                  have hD : va_D A [(a0, .inr (5, [.ref a1, .ref a3, .int (ur92.1 0), .int (ur92.1 1), .int (ur92.1 2), .int (ur92.1 3), .int (ur92.1 4), .int (ur92.1 5)])), (a1, .inr (8, [.ref a2, .int n1_1])), (a2, .inl (ct 1, 900, .inl f2)), (a3, .inr (9, [.ref a4, .ref a6, .ref a7, .ref a8, .ref a9, .int v28_3_5, .int v28_3_6])), (a4, .inr (0, [.ref a5, .int v28_4_1])), (a5, .inl (ct 0, 8, .inl (ur92.2.1 0))), (a6, .inl (ct 0, 8, .inl f28_6)), (a7, .inl (ct 0, 8, .inl f28_7)), (a8, .inl (ct 0, 8, .inl f28_8)), (a9, .inl (ct 0, 8, .inl (ur92.2.1 1)))] := hD.sub [3, 4, 5, 6, 7, 8, 0, 1, 2, 9] (by decide) rfl
                  refine lv_goto (tgt := 103) hx hb dX5_readTape_95 (by decide) ?_
                  exact j103 (ur92.1 0) (ur92.1 1) (ur92.1 2) (ur92.1 3) (ur92.1 4) (ur92.1 5) v28_3_6 v28_4_1 (ur92.2.1 0) f28_6 f28_7 f28_8 (ur92.2.1 1) _ _ ls hv28_4_1 hP hD hS (lv_sub hl [0, 1] rfl)
              · have h_19 : rg 1 1 r69 := r_ne_lo_i c72 p_11 (by decide) (by decide)
                have h_20 : rg 1 1 v28_0_4 := (p_12 (rne h_19 (y := 0) (c := 0) (by decide) (by decide)))
                refine lv_aload_n hx hb dX5_readTape_75 rfl (lv_at hl 0 rfl) ?_
                refine wj_callv (wr := []) (w1 := (fun u : SU => [(a0, .inr (5, [.ref a1, .ref a3, .int (u.1 0), .int (u.1 1), .int (u.1 2), .int (u.1 3), .int (u.1 4), .int (u.1 5)])), (a1, .inr (8, [.ref a2, .int n1_1])), (a2, .inl (ct 1, 900, .inl f2)), (a3, .inr (9, [.ref a4, .ref a6, .ref a7, .ref a8, .ref a9, .int v28_3_5, .int v28_3_6])), (a4, .inr (0, [.ref a5, .int (u.1 6)])), (a5, .inl (ct 0, 8, .inl (u.2.1 0))), (a6, .inl (ct 0, 8, .inl (u.2.1 1))), (a7, .inl (ct 0, 8, .inl (u.2.1 2))), (a8, .inl (ct 0, 8, .inl (u.2.1 3))), (a9, .inl (ct 0, 8, .inl (u.2.1 4)))])) (va_runV (As := []) (rest := []) ⟨hx, hb, hml, hown, hts⟩ (a_X5_readPersonLine l G ct a0 a1 a3 v28_0_2 v28_0_3 v28_0_4 v28_0_5 v28_0_6 v28_0_7 a2 n1_1 f2 a4 a6 a7 a8 a9 v28_3_5 v28_3_6 a5 v28_4_1 f28_5 f28_6 f28_7 f28_8 f28_9 adK adV hp_n1_1 hv28_4_1) (cwV 0 hts gX5_readTape_X5_readPersonLine rfl rfl rfl (by decide +kernel) ⟨Nat.le_of_ble_eq_true rfl, Nat.le_of_ble_eq_true rfl⟩) (wrS_preV 5 0 hK (hP.sub [0, 1, 2, 3, 4, 5, 6, 7, 8, 9] rfl) (hD.sub [0, 1, 2, 3, 4, 5, 6, 7, 8, 9] (by decide) rfl) ((hZ.kept hS.2.1).narrow (fun q h => aset_in hD [0, 1, 2, 3, 4, 5, 6, 7, 8, 9] rfl q h)) rfl rfl) rfl rfl hl.1 rfl (lv_room (Nat.le_of_ble_eq_true rfl)) dX5_readTape_76 ⟨Nat.zero_le _, Nat.zero_le _⟩) hS hP hD [0, 1, 2, 3, 4, 5, 6, 7, 8, 9] [] rfl rfl (by decide) (fun _ => rfl) (fun ur76 H locs wr76 hP hD hS => ?_)
                have hP : va_P G vwCl [(a0, .inr (5, [.ref a1, .ref a3, .int (ur76.1 0), .int (ur76.1 1), .int (ur76.1 2), .int (ur76.1 3), .int (ur76.1 4), .int (ur76.1 5)])), (a1, .inr (8, [.ref a2, .int n1_1])), (a2, .inl (ct 1, 900, .inl f2)), (a3, .inr (9, [.ref a4, .ref a6, .ref a7, .ref a8, .ref a9, .int v28_3_5, .int v28_3_6])), (a4, .inr (0, [.ref a5, .int (ur76.1 6)])), (a5, .inl (ct 0, 8, .inl (ur76.2.1 0))), (a6, .inl (ct 0, 8, .inl (ur76.2.1 1))), (a7, .inl (ct 0, 8, .inl (ur76.2.1 2))), (a8, .inl (ct 0, 8, .inl (ur76.2.1 3))), (a9, .inl (ct 0, 8, .inl (ur76.2.1 4)))] H := hP.sub [0, 1, 2, 3, 4, 5, 6, 7, 8, 9] rfl
                have hD : va_D A [(a0, .inr (5, [.ref a1, .ref a3, .int (ur76.1 0), .int (ur76.1 1), .int (ur76.1 2), .int (ur76.1 3), .int (ur76.1 4), .int (ur76.1 5)])), (a1, .inr (8, [.ref a2, .int n1_1])), (a2, .inl (ct 1, 900, .inl f2)), (a3, .inr (9, [.ref a4, .ref a6, .ref a7, .ref a8, .ref a9, .int v28_3_5, .int v28_3_6])), (a4, .inr (0, [.ref a5, .int (ur76.1 6)])), (a5, .inl (ct 0, 8, .inl (ur76.2.1 0))), (a6, .inl (ct 0, 8, .inl (ur76.2.1 1))), (a7, .inl (ct 0, 8, .inl (ur76.2.1 2))), (a8, .inl (ct 0, 8, .inl (ur76.2.1 3))), (a9, .inl (ct 0, 8, .inl (ur76.2.1 4)))] := hD.sub [0, 1, 2, 3, 4, 5, 6, 7, 8, 9] (by decide) rfl
                obtain ⟨p_21, -⟩ := wr76
                refine lv_goto (tgt := 103) hx hb dX5_readTape_79 (by decide) ?_
                exact j103 (ur76.1 0) (ur76.1 1) (ur76.1 2) (ur76.1 3) (ur76.1 4) (ur76.1 5) v28_3_6 (ur76.1 6) (ur76.2.1 0) (ur76.2.1 1) (ur76.2.1 2) (ur76.2.1 3) (ur76.2.1 4) _ _ ls (rg_w (c := 0) (d := 8) p_21 (by decide)) hP hD hS (lv_sub hl [0, 1] rfl)
            · have h_22 : rg 0 0 v28_3_5 := r_eq_l_i (e := 0) (f := 0) c56 (rg_t v28_3_5) (rgn 0 (x := 0) (by decide)) (by decide)
              refine lv_aload_n hx hb dX5_readTape_59 rfl (lv_at hl 0 rfl) ?_
              refine wj_callv (wr := [(a4, .inr (0, [.ref a5, .int v28_4_1])), (a5, .inl (ct 0, 8, .inl f28_5)), (a6, .inl (ct 0, 8, .inl f28_6)), (a7, .inl (ct 0, 8, .inl f28_7)), (a8, .inl (ct 0, 8, .inl f28_8)), (a9, .inl (ct 0, 8, .inl f28_9))]) (w1 := (fun u : SU => [(a0, .inr (5, [.ref a1, .ref a3, .int (u.1 0), .int (u.1 1), .int (u.1 2), .int (u.1 3), .int (u.1 4), .int (u.1 5)])), (a1, .inr (8, [.ref a2, .int n1_1])), (a2, .inl (ct 1, 900, .inl f2)), (a3, .inr (9, [.ref a4, .ref a6, .ref a7, .ref a8, .ref a9, .int v28_3_5, .int (u.1 6)]))])) (va_runV (As := []) (rest := []) ⟨hx, hb, hml, hown, hts⟩ (a_X5_readCityLine l G ct a0 a1 a3 v28_0_2 v28_0_3 v28_0_4 v28_0_5 v28_0_6 v28_0_7 a2 n1_1 f2 a4 a6 a7 a8 a9 v28_3_5 v28_3_6 adK adV hp_n1_1) (cwV 0 hts gX5_readTape_X5_readCityLine rfl rfl rfl (by decide +kernel) ⟨Nat.le_of_ble_eq_true rfl, Nat.le_of_ble_eq_true rfl⟩) (wrS_preV 5 0 hK (hP.sub [0, 1, 2, 3] rfl) (hD.sub [0, 1, 2, 3] (by decide) rfl) ((hZ.kept hS.2.1).narrow (fun q h => aset_in hD [0, 1, 2, 3] rfl q h)) rfl rfl) rfl rfl hl.1 rfl (lv_room (Nat.le_of_ble_eq_true rfl)) dX5_readTape_60 ⟨Nat.zero_le _, Nat.zero_le _⟩) hS hP hD [0, 1, 2, 3] [4, 5, 6, 7, 8, 9] rfl rfl (by decide) (fun _ => rfl) (fun ur60 H locs wr60 hP hD hS => ?_)
              have hP : va_P G vwCl [(a0, .inr (5, [.ref a1, .ref a3, .int (ur60.1 0), .int (ur60.1 1), .int (ur60.1 2), .int (ur60.1 3), .int (ur60.1 4), .int (ur60.1 5)])), (a1, .inr (8, [.ref a2, .int n1_1])), (a2, .inl (ct 1, 900, .inl f2)), (a3, .inr (9, [.ref a4, .ref a6, .ref a7, .ref a8, .ref a9, .int v28_3_5, .int (ur60.1 6)])), (a4, .inr (0, [.ref a5, .int v28_4_1])), (a5, .inl (ct 0, 8, .inl f28_5)), (a6, .inl (ct 0, 8, .inl f28_6)), (a7, .inl (ct 0, 8, .inl f28_7)), (a8, .inl (ct 0, 8, .inl f28_8)), (a9, .inl (ct 0, 8, .inl f28_9))] H := hP.sub [6, 7, 8, 9, 0, 1, 2, 3, 4, 5] rfl
              have hD : va_D A [(a0, .inr (5, [.ref a1, .ref a3, .int (ur60.1 0), .int (ur60.1 1), .int (ur60.1 2), .int (ur60.1 3), .int (ur60.1 4), .int (ur60.1 5)])), (a1, .inr (8, [.ref a2, .int n1_1])), (a2, .inl (ct 1, 900, .inl f2)), (a3, .inr (9, [.ref a4, .ref a6, .ref a7, .ref a8, .ref a9, .int v28_3_5, .int (ur60.1 6)])), (a4, .inr (0, [.ref a5, .int v28_4_1])), (a5, .inl (ct 0, 8, .inl f28_5)), (a6, .inl (ct 0, 8, .inl f28_6)), (a7, .inl (ct 0, 8, .inl f28_7)), (a8, .inl (ct 0, 8, .inl f28_8)), (a9, .inl (ct 0, 8, .inl f28_9))] := hD.sub [6, 7, 8, 9, 0, 1, 2, 3, 4, 5] (by decide) rfl
              refine lv_goto (tgt := 103) hx hb dX5_readTape_63 (by decide) ?_
              exact j103 (ur60.1 0) (ur60.1 1) (ur60.1 2) (ur60.1 3) (ur60.1 4) (ur60.1 5) (ur60.1 6) v28_4_1 f28_5 f28_6 f28_7 f28_8 f28_9 _ _ ls hv28_4_1 hP hD hS (lv_sub hl [0, 1] rfl)
  exact j28 4294967296 (0 : Int32) (0 : Int32) ((-1) : Int32) (ur23.1 0) (ur23.1 1) (ur23.1 2) (ur23.1 3) (ur4.1 0) (ur4.1 1) (ur4.1 2) f5 f6 f7 f8 f9 _ _ ls (ms_e (0 : Int32)) (rg_w (c := 0) (d := 900) (rgn 0 (x := 0) (by decide)) (by decide)) (rg_w (c := 0) (d := 8) p_3 (by decide)) hP hD hS (lv_sub hl [1, 0] rfl)
