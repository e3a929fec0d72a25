set_option maxRecDepth 20000 in
theorem ggX0_answer_X0_begin : GoodIn wsX0_answer wsX0_begin := goodIn_r _ [43, 1, 44, 13, 45, 46, 47, 17, 48, 49, 50, 51, 52, 24, 25, 53, 37, 38, 39, 19, 20, 21, 22, 23, 40, 41, 42, 5, 2, 3, 4, 6, 7, 8, 9, 10, 11, 12, 14, 15, 16, 18, 26, 27, 28, 29, 30, 31, 32, 33, 34, 35, 36, 54, 55, 56, 57, 58, 59, 60, 61, 62, 63, 64, 65, 66, 67, 68] (by decide +kernel) (by decide +kernel)
set_option maxRecDepth 20000 in
theorem gX0_answer_X0_begin : GoodIn wsX0_answer (wsV RX0 49 RX0 yX0_begin wsX0_begin) := goodIn_app (goodIn_of _ (by decide +kernel)) ggX0_answer_X0_begin
set_option maxRecDepth 20000 in
theorem ggX0_answer_X0_firstBody : GoodIn wsX0_answer wsX0_firstBody := goodIn_r _ [6, 7, 8, 9, 10, 11, 5, 12, 13, 14, 15, 16, 17, 18, 19, 20, 21, 22, 23, 24, 25, 26, 27, 28, 29, 30, 31, 32, 33, 34, 35, 36, 37, 38, 39, 54, 55, 56, 57, 58, 59, 60, 61, 62, 63, 64, 65, 66, 67, 68] (by decide +kernel) (by decide +kernel)
set_option maxRecDepth 20000 in
theorem gX0_answer_X0_firstBody : GoodIn wsX0_answer (wsV RX0 45 RX0 yX0_firstBody wsX0_firstBody) := goodIn_app (goodIn_of _ (by decide +kernel)) ggX0_answer_X0_firstBody
set_option maxRecDepth 20000 in
theorem ggX0_begin_X0_begin : GoodIn wsX0_begin wsX0_begin := goodIn_r _ [0, 1, 2, 3, 4, 5, 6, 7, 8, 9, 10, 11, 12, 13, 14, 15, 16, 17, 18, 19, 20, 21, 22, 23, 24, 25, 26, 27, 28, 29, 30, 31, 32, 33, 34, 35, 36, 37, 38, 39, 40, 41, 42, 43, 44, 45, 46, 47, 48, 49, 50, 51, 52, 53, 54, 55, 56, 57, 58, 59, 60, 61, 62, 63, 64, 65, 66, 67] (by decide +kernel) (by decide +kernel)
set_option maxRecDepth 20000 in
theorem gX0_begin_X0_begin : GoodIn wsX0_begin (wsV RX0 49 RX0 yX0_begin wsX0_begin) := goodIn_app (goodIn_of _ (by decide +kernel)) ggX0_begin_X0_begin
set_option maxRecDepth 20000 in
theorem ggX0_begin_X0_firstBody : GoodIn wsX0_begin wsX0_firstBody := goodIn_r _ [31, 32, 33, 34, 35, 36, 27, 37, 3, 38, 39, 40, 7, 41, 19, 20, 21, 22, 23, 13, 14, 42, 43, 44, 45, 46, 47, 48, 49, 50, 51, 52, 16, 17, 18, 53, 54, 55, 56, 57, 58, 59, 60, 61, 62, 63, 64, 65, 66, 67] (by decide +kernel) (by decide +kernel)
set_option maxRecDepth 20000 in
theorem gX0_begin_X0_firstBody : GoodIn wsX0_begin (wsV RX0 45 RX0 yX0_firstBody wsX0_firstBody) := goodIn_app (goodIn_of _ (by decide +kernel)) ggX0_begin_X0_firstBody
set_option maxRecDepth 20000 in
theorem ggX0_begin_X1_openBeside : GoodIn wsX0_begin wsX1_openBeside := goodIn_r _ [8, 9, 10, 11, 7, 12, 13, 14, 15, 16, 17, 18, 19, 20, 21, 22, 23, 56, 57, 58, 59, 60, 61, 62, 63, 64, 65, 66, 67] (by decide +kernel) (by decide +kernel)
set_option maxRecDepth 20000 in
theorem gX0_begin_X1_openBeside : GoodIn wsX0_begin (wsV RX0 59 RX1 yX1_openBeside wsX1_openBeside) := goodIn_app (goodIn_of _ (by decide +kernel)) ggX0_begin_X1_openBeside
set_option maxRecDepth 20000 in
theorem ggX0_begin_X1_priceAt : GoodIn wsX0_begin wsX1_priceAt := goodIn_r _ [45, 46, 47, 39, 40, 7, 41, 19, 20, 21, 22, 23, 13, 14, 56, 57, 58, 59, 60, 61, 62, 63, 64, 65, 66, 67] (by decide +kernel) (by decide +kernel)
set_option maxRecDepth 20000 in
theorem gX0_begin_X1_priceAt : GoodIn wsX0_begin (wsV RX0 29 RX1 yX1_priceAt wsX1_priceAt) := goodIn_app (goodIn_of _ (by decide +kernel)) ggX0_begin_X1_priceAt
set_option maxRecDepth 20000 in
theorem ggX2_fillBetween_X2_fillBetween : GoodIn wsX2_fillBetween wsX2_fillBetween := goodIn_r _ [0, 1, 2, 3, 4, 5, 6, 7, 8, 9, 10, 11, 12, 13, 14, 15, 16, 17, 18, 19, 20, 21, 22, 23, 24, 25, 26, 27, 28, 29, 30, 31, 32, 33, 34, 35, 36, 37, 38, 39, 40, 41, 42, 43, 44, 45, 46, 47, 48, 49, 50, 51, 52, 53, 54, 55, 56, 57, 58, 59, 60, 61, 62, 63, 64, 65, 66, 67, 68, 69, 70, 71, 72, 73, 74, 75, 76, 77, 78, 79, 80, 81, 82, 83, 84, 85, 86, 87, 88, 89, 90, 91, 92, 93, 94, 95, 96, 97, 98, 99, 100, 101, 102, 103, 104, 105, 106, 107] (by decide +kernel) (by decide +kernel)
set_option maxRecDepth 20000 in
theorem gX2_fillBetween_X2_fillBetween : GoodIn wsX2_fillBetween (wsV RX2 60 RX2 yX2_fillBetween wsX2_fillBetween) := goodIn_app (goodIn_of _ (by decide +kernel)) ggX2_fillBetween_X2_fillBetween
set_option maxRecDepth 20000 in
theorem ggX2_fillBetween_X7_timesPaid : GoodIn wsX2_fillBetween wsX7_timesPaid := goodIn_r _ [8, 9, 10, 11, 12, 13, 14, 15, 16, 17, 18, 19, 20, 21, 22, 7, 23, 24, 25, 26, 27, 28, 29, 30, 31, 32, 33, 34, 35, 36, 37, 38, 39, 40, 41, 42, 43, 44, 45, 46, 47, 48, 49, 50, 51, 52, 53, 54, 55, 56, 57, 58, 59, 60, 61, 62, 63, 64, 65, 66, 67, 68, 69, 70, 71, 81, 82, 83, 84, 85, 86, 87, 88, 89, 90, 91, 92, 93, 94, 95, 96, 97, 98, 99, 100, 101, 102, 103, 104, 105, 106, 107] (by decide +kernel) (by decide +kernel)
set_option maxRecDepth 20000 in
theorem gX2_fillBetween_X7_timesPaid : GoodIn wsX2_fillBetween (wsV RX2 50 RX7 yX7_timesPaid wsX7_timesPaid) := goodIn_app (goodIn_of _ (by decide +kernel)) ggX2_fillBetween_X7_timesPaid
theorem dX0_answer_0 : decode cX0_answer 0 = .ok (.aload_n 0, 1) := by decide +kernel
theorem dX0_answer_1 : decode cX0_answer 1 = .ok (.iconst 0, 1) := by decide +kernel
theorem dX0_answer_12 : decode cX0_answer 12 = .ok (.iload_n 1, 1) := by decide +kernel
theorem dX0_answer_13 : decode cX0_answer 13 = .ok (.iconst 0, 1) := by decide +kernel
theorem dX0_answer_14 : decode cX0_answer 14 = .ok (.invokevirtual 49, 3) := by decide +kernel
theorem dX0_answer_17 : decode cX0_answer 17 = .ok (.ireturn, 1) := by decide +kernel
theorem dX0_answer_2 : decode cX0_answer 2 = .ok (.putfield 15, 3) := by decide +kernel
theorem dX0_answer_5 : decode cX0_answer 5 = .ok (.aload_n 0, 1) := by decide +kernel
theorem dX0_answer_6 : decode cX0_answer 6 = .ok (.aload_n 0, 1) := by decide +kernel
theorem dX0_answer_7 : decode cX0_answer 7 = .ok (.iload_n 1, 1) := by decide +kernel
theorem dX0_answer_8 : decode cX0_answer 8 = .ok (.iload_n 2, 1) := by decide +kernel
theorem dX0_answer_9 : decode cX0_answer 9 = .ok (.invokevirtual 45, 3) := by decide +kernel
theorem dX0_begin_0 : decode cX0_begin 0 = .ok (.iload_n 3, 1) := by decide +kernel
theorem dX0_begin_1 : decode cX0_begin 1 = .ok (.bipush 20, 2) := by decide +kernel
theorem dX0_begin_112 : decode cX0_begin 112 = .ok (.aload_n 0, 1) := by decide +kernel
theorem dX0_begin_113 : decode cX0_begin 113 = .ok (.getfield 19, 3) := by decide +kernel
theorem dX0_begin_116 : decode cX0_begin 116 = .ok (.iload_n 2, 1) := by decide +kernel
theorem dX0_begin_117 : decode cX0_begin 117 = .ok (.invokevirtual 59, 3) := by decide +kernel
theorem dX0_begin_12 : decode cX0_begin 12 = .ok (.bipush 16, 2) := by decide +kernel
theorem dX0_begin_120 : decode cX0_begin 120 = .ok (.ireturn, 1) := by decide +kernel
theorem dX0_begin_121 : decode cX0_begin 121 = .ok (.aload_n 0, 1) := by decide +kernel
theorem dX0_begin_122 : decode cX0_begin 122 = .ok (.bipush 10, 2) := by decide +kernel
theorem dX0_begin_124 : decode cX0_begin 124 = .ok (.iload_n 2, 1) := by decide +kernel
theorem dX0_begin_125 : decode cX0_begin 125 = .ok (.iload 4, 2) := by decide +kernel
theorem dX0_begin_127 : decode cX0_begin 127 = .ok (.invokevirtual 49, 3) := by decide +kernel
theorem dX0_begin_130 : decode cX0_begin 130 = .ok (.ineg, 1) := by decide +kernel
theorem dX0_begin_131 : decode cX0_begin 131 = .ok (.ireturn, 1) := by decide +kernel
theorem dX0_begin_132 : decode cX0_begin 132 = .ok (.aload_n 0, 1) := by decide +kernel
theorem dX0_begin_133 : decode cX0_begin 133 = .ok (.bipush 11, 2) := by decide +kernel
theorem dX0_begin_135 : decode cX0_begin 135 = .ok (.iload_n 2, 1) := by decide +kernel
theorem dX0_begin_136 : decode cX0_begin 136 = .ok (.iload 4, 2) := by decide +kernel
theorem dX0_begin_138 : decode cX0_begin 138 = .ok (.invokevirtual 49, 3) := by decide +kernel
theorem dX0_begin_14 : decode cX0_begin 14 = .ok (.if_icmp .ge 23, 3) := by decide +kernel
theorem dX0_begin_141 : decode cX0_begin 141 = .ok (.aload_n 0, 1) := by decide +kernel
theorem dX0_begin_142 : decode cX0_begin 142 = .ok (.aload_n 0, 1) := by decide +kernel
theorem dX0_begin_143 : decode cX0_begin 143 = .ok (.iload_n 2, 1) := by decide +kernel
theorem dX0_begin_144 : decode cX0_begin 144 = .ok (.iconst 1, 1) := by decide +kernel
theorem dX0_begin_145 : decode cX0_begin 145 = .ok (.invokevirtual 45, 3) := by decide +kernel
theorem dX0_begin_148 : decode cX0_begin 148 = .ok (.iload_n 2, 1) := by decide +kernel
theorem dX0_begin_149 : decode cX0_begin 149 = .ok (.iload 4, 2) := by decide +kernel
theorem dX0_begin_151 : decode cX0_begin 151 = .ok (.invokevirtual 49, 3) := by decide +kernel
theorem dX0_begin_154 : decode cX0_begin 154 = .ok (.iadd, 1) := by decide +kernel
theorem dX0_begin_155 : decode cX0_begin 155 = .ok (.ireturn, 1) := by decide +kernel
theorem dX0_begin_156 : decode cX0_begin 156 = .ok (.iconst 2, 1) := by decide +kernel
theorem dX0_begin_157 : decode cX0_begin 157 = .ok (.aload_n 0, 1) := by decide +kernel
theorem dX0_begin_158 : decode cX0_begin 158 = .ok (.bipush 12, 2) := by decide +kernel
theorem dX0_begin_160 : decode cX0_begin 160 = .ok (.iload_n 2, 1) := by decide +kernel
theorem dX0_begin_161 : decode cX0_begin 161 = .ok (.iload 4, 2) := by decide +kernel
theorem dX0_begin_163 : decode cX0_begin 163 = .ok (.invokevirtual 49, 3) := by decide +kernel
theorem dX0_begin_166 : decode cX0_begin 166 = .ok (.imul, 1) := by decide +kernel
theorem dX0_begin_167 : decode cX0_begin 167 = .ok (.ireturn, 1) := by decide +kernel
theorem dX0_begin_168 : decode cX0_begin 168 = .ok (.aload_n 0, 1) := by decide +kernel
theorem dX0_begin_169 : decode cX0_begin 169 = .ok (.bipush 10, 2) := by decide +kernel
theorem dX0_begin_17 : decode cX0_begin 17 = .ok (.aload_n 0, 1) := by decide +kernel
theorem dX0_begin_171 : decode cX0_begin 171 = .ok (.iload_n 2, 1) := by decide +kernel
theorem dX0_begin_172 : decode cX0_begin 172 = .ok (.iload 4, 2) := by decide +kernel
theorem dX0_begin_174 : decode cX0_begin 174 = .ok (.invokevirtual 49, 3) := by decide +kernel
theorem dX0_begin_177 : decode cX0_begin 177 = .ok (.aload_n 0, 1) := by decide +kernel
theorem dX0_begin_178 : decode cX0_begin 178 = .ok (.aload_n 0, 1) := by decide +kernel
theorem dX0_begin_179 : decode cX0_begin 179 = .ok (.iload_n 2, 1) := by decide +kernel
theorem dX0_begin_18 : decode cX0_begin 18 = .ok (.getfield 11, 3) := by decide +kernel
theorem dX0_begin_180 : decode cX0_begin 180 = .ok (.iconst 1, 1) := by decide +kernel
theorem dX0_begin_181 : decode cX0_begin 181 = .ok (.invokevirtual 45, 3) := by decide +kernel
theorem dX0_begin_184 : decode cX0_begin 184 = .ok (.iload_n 2, 1) := by decide +kernel
theorem dX0_begin_185 : decode cX0_begin 185 = .ok (.iload 4, 2) := by decide +kernel
theorem dX0_begin_187 : decode cX0_begin 187 = .ok (.invokevirtual 49, 3) := by decide +kernel
theorem dX0_begin_190 : decode cX0_begin 190 = .ok (.isub, 1) := by decide +kernel
theorem dX0_begin_191 : decode cX0_begin 191 = .ok (.ireturn, 1) := by decide +kernel
theorem dX0_begin_192 : decode cX0_begin 192 = .ok (.iload_n 2, 1) := by decide +kernel
theorem dX0_begin_193 : decode cX0_begin 193 = .ok (.ireturn, 1) := by decide +kernel
theorem dX0_begin_194 : decode cX0_begin 194 = .ok (.aload_n 0, 1) := by decide +kernel
theorem dX0_begin_195 : decode cX0_begin 195 = .ok (.bipush 20, 2) := by decide +kernel
theorem dX0_begin_197 : decode cX0_begin 197 = .ok (.iload_n 2, 1) := by decide +kernel
theorem dX0_begin_198 : decode cX0_begin 198 = .ok (.iload 4, 2) := by decide +kernel
theorem dX0_begin_200 : decode cX0_begin 200 = .ok (.invokevirtual 49, 3) := by decide +kernel
theorem dX0_begin_203 : decode cX0_begin 203 = .ok (.bipush 100, 2) := by decide +kernel
theorem dX0_begin_205 : decode cX0_begin 205 = .ok (.aload_n 0, 1) := by decide +kernel
theorem dX0_begin_206 : decode cX0_begin 206 = .ok (.getfield 19, 3) := by decide +kernel
theorem dX0_begin_209 : decode cX0_begin 209 = .ok (.iload_n 2, 1) := by decide +kernel
theorem dX0_begin_21 : decode cX0_begin 21 = .ok (.aload_n 0, 1) := by decide +kernel
theorem dX0_begin_210 : decode cX0_begin 210 = .ok (.invokevirtual 29, 3) := by decide +kernel
theorem dX0_begin_213 : decode cX0_begin 213 = .ok (.imul, 1) := by decide +kernel
theorem dX0_begin_214 : decode cX0_begin 214 = .ok (.iadd, 1) := by decide +kernel
theorem dX0_begin_215 : decode cX0_begin 215 = .ok (.ireturn, 1) := by decide +kernel
theorem dX0_begin_216 : decode cX0_begin 216 = .ok (.aload_n 0, 1) := by decide +kernel
theorem dX0_begin_217 : decode cX0_begin 217 = .ok (.bipush 20, 2) := by decide +kernel
theorem dX0_begin_219 : decode cX0_begin 219 = .ok (.iload_n 2, 1) := by decide +kernel
theorem dX0_begin_22 : decode cX0_begin 22 = .ok (.getfield 15, 3) := by decide +kernel
theorem dX0_begin_220 : decode cX0_begin 220 = .ok (.iload 4, 2) := by decide +kernel
theorem dX0_begin_222 : decode cX0_begin 222 = .ok (.invokevirtual 49, 3) := by decide +kernel
theorem dX0_begin_225 : decode cX0_begin 225 = .ok (.aload_n 0, 1) := by decide +kernel
theorem dX0_begin_226 : decode cX0_begin 226 = .ok (.aload_n 0, 1) := by decide +kernel
theorem dX0_begin_227 : decode cX0_begin 227 = .ok (.iload_n 2, 1) := by decide +kernel
theorem dX0_begin_228 : decode cX0_begin 228 = .ok (.iconst 0, 1) := by decide +kernel
theorem dX0_begin_229 : decode cX0_begin 229 = .ok (.invokevirtual 45, 3) := by decide +kernel
theorem dX0_begin_232 : decode cX0_begin 232 = .ok (.iload_n 2, 1) := by decide +kernel
theorem dX0_begin_233 : decode cX0_begin 233 = .ok (.iload 4, 2) := by decide +kernel
theorem dX0_begin_235 : decode cX0_begin 235 = .ok (.invokevirtual 49, 3) := by decide +kernel
theorem dX0_begin_238 : decode cX0_begin 238 = .ok (.iadd, 1) := by decide +kernel
theorem dX0_begin_239 : decode cX0_begin 239 = .ok (.ireturn, 1) := by decide +kernel
theorem dX0_begin_240 : decode cX0_begin 240 = .ok (.aload_n 0, 1) := by decide +kernel
theorem dX0_begin_241 : decode cX0_begin 241 = .ok (.bipush 21, 2) := by decide +kernel
theorem dX0_begin_243 : decode cX0_begin 243 = .ok (.iload_n 2, 1) := by decide +kernel
theorem dX0_begin_244 : decode cX0_begin 244 = .ok (.iload 4, 2) := by decide +kernel
theorem dX0_begin_246 : decode cX0_begin 246 = .ok (.invokevirtual 49, 3) := by decide +kernel
theorem dX0_begin_249 : decode cX0_begin 249 = .ok (.sipush 1000, 3) := by decide +kernel
theorem dX0_begin_25 : decode cX0_begin 25 = .ok (.iload_n 1, 1) := by decide +kernel
theorem dX0_begin_252 : decode cX0_begin 252 = .ok (.isub, 1) := by decide +kernel
theorem dX0_begin_253 : decode cX0_begin 253 = .ok (.ireturn, 1) := by decide +kernel
theorem dX0_begin_254 : decode cX0_begin 254 = .ok (.iconst 0, 1) := by decide +kernel
theorem dX0_begin_255 : decode cX0_begin 255 = .ok (.ireturn, 1) := by decide +kernel
theorem dX0_begin_26 : decode cX0_begin 26 = .ok (.iastore, 1) := by decide +kernel
theorem dX0_begin_27 : decode cX0_begin 27 = .ok (.aload_n 0, 1) := by decide +kernel
theorem dX0_begin_28 : decode cX0_begin 28 = .ok (.dup, 1) := by decide +kernel
theorem dX0_begin_29 : decode cX0_begin 29 = .ok (.getfield 15, 3) := by decide +kernel
theorem dX0_begin_3 : decode cX0_begin 3 = .ok (.if_icmp .le 5, 3) := by decide +kernel
theorem dX0_begin_32 : decode cX0_begin 32 = .ok (.iconst 1, 1) := by decide +kernel
theorem dX0_begin_33 : decode cX0_begin 33 = .ok (.iadd, 1) := by decide +kernel
theorem dX0_begin_34 : decode cX0_begin 34 = .ok (.putfield 15, 3) := by decide +kernel
theorem dX0_begin_37 : decode cX0_begin 37 = .ok (.iload_n 3, 1) := by decide +kernel
theorem dX0_begin_38 : decode cX0_begin 38 = .ok (.iconst 1, 1) := by decide +kernel
theorem dX0_begin_39 : decode cX0_begin 39 = .ok (.iadd, 1) := by decide +kernel
theorem dX0_begin_40 : decode cX0_begin 40 = .ok (.istore 4, 2) := by decide +kernel
theorem dX0_begin_42 : decode cX0_begin 42 = .ok (.iload_n 1, 1) := by decide +kernel
theorem dX0_begin_43 : decode cX0_begin 43 = .ok (.tableswitch 211 10 23 #[69, 78, 89, 113, 125, 211, 211, 211, 211, 211, 149, 151, 173, 197], 69) := by decide +kernel
theorem dX0_begin_6 : decode cX0_begin 6 = .ok (.iconst 0, 1) := by decide +kernel
theorem dX0_begin_7 : decode cX0_begin 7 = .ok (.ireturn, 1) := by decide +kernel
theorem dX0_begin_8 : decode cX0_begin 8 = .ok (.aload_n 0, 1) := by decide +kernel
theorem dX0_begin_9 : decode cX0_begin 9 = .ok (.getfield 15, 3) := by decide +kernel
theorem dX2_fillBetween_0 : decode cX2_fillBetween 0 = .ok (.iload 4, 2) := by decide +kernel
theorem dX2_fillBetween_10 : decode cX2_fillBetween 10 = .ok (.bipush 6, 2) := by decide +kernel
theorem dX2_fillBetween_100 : decode cX2_fillBetween 100 = .ok (.iload 6, 2) := by decide +kernel
theorem dX2_fillBetween_102 : decode cX2_fillBetween 102 = .ok (.iload 5, 2) := by decide +kernel
theorem dX2_fillBetween_104 : decode cX2_fillBetween 104 = .ok (.iconst 1, 1) := by decide +kernel
theorem dX2_fillBetween_105 : decode cX2_fillBetween 105 = .ok (.iadd, 1) := by decide +kernel
theorem dX2_fillBetween_106 : decode cX2_fillBetween 106 = .ok (.invokevirtual 60, 3) := by decide +kernel
theorem dX2_fillBetween_109 : decode cX2_fillBetween 109 = .ok (.aload_n 0, 1) := by decide +kernel
theorem dX2_fillBetween_110 : decode cX2_fillBetween 110 = .ok (.iload_n 1, 1) := by decide +kernel
theorem dX2_fillBetween_111 : decode cX2_fillBetween 111 = .ok (.iload_n 2, 1) := by decide +kernel
theorem dX2_fillBetween_112 : decode cX2_fillBetween 112 = .ok (.iload 6, 2) := by decide +kernel
theorem dX2_fillBetween_114 : decode cX2_fillBetween 114 = .ok (.iload 4, 2) := by decide +kernel
theorem dX2_fillBetween_116 : decode cX2_fillBetween 116 = .ok (.iload 5, 2) := by decide +kernel
theorem dX2_fillBetween_118 : decode cX2_fillBetween 118 = .ok (.iconst 1, 1) := by decide +kernel
theorem dX2_fillBetween_119 : decode cX2_fillBetween 119 = .ok (.iadd, 1) := by decide +kernel
theorem dX2_fillBetween_12 : decode cX2_fillBetween 12 = .ok (.if_icmp .le 4, 3) := by decide +kernel
theorem dX2_fillBetween_120 : decode cX2_fillBetween 120 = .ok (.invokevirtual 60, 3) := by decide +kernel
theorem dX2_fillBetween_123 : decode cX2_fillBetween 123 = .ok (.return_, 1) := by decide +kernel
theorem dX2_fillBetween_15 : decode cX2_fillBetween 15 = .ok (.return_, 1) := by decide +kernel
theorem dX2_fillBetween_16 : decode cX2_fillBetween 16 = .ok (.aload_n 0, 1) := by decide +kernel
theorem dX2_fillBetween_17 : decode cX2_fillBetween 17 = .ok (.getfield 15, 3) := by decide +kernel
theorem dX2_fillBetween_2 : decode cX2_fillBetween 2 = .ok (.iload_n 3, 1) := by decide +kernel
theorem dX2_fillBetween_20 : decode cX2_fillBetween 20 = .ok (.iload_n 3, 1) := by decide +kernel
theorem dX2_fillBetween_21 : decode cX2_fillBetween 21 = .ok (.iaload, 1) := by decide +kernel
theorem dX2_fillBetween_22 : decode cX2_fillBetween 22 = .ok (.aload_n 0, 1) := by decide +kernel
theorem dX2_fillBetween_23 : decode cX2_fillBetween 23 = .ok (.getfield 15, 3) := by decide +kernel
theorem dX2_fillBetween_26 : decode cX2_fillBetween 26 = .ok (.iload 4, 2) := by decide +kernel
theorem dX2_fillBetween_28 : decode cX2_fillBetween 28 = .ok (.iaload, 1) := by decide +kernel
theorem dX2_fillBetween_29 : decode cX2_fillBetween 29 = .ok (.if_icmp .ne 35, 3) := by decide +kernel
theorem dX2_fillBetween_3 : decode cX2_fillBetween 3 = .ok (.isub, 1) := by decide +kernel
theorem dX2_fillBetween_32 : decode cX2_fillBetween 32 = .ok (.iload_n 3, 1) := by decide +kernel
theorem dX2_fillBetween_33 : decode cX2_fillBetween 33 = .ok (.iconst 1, 1) := by decide +kernel
theorem dX2_fillBetween_34 : decode cX2_fillBetween 34 = .ok (.iadd, 1) := by decide +kernel
theorem dX2_fillBetween_35 : decode cX2_fillBetween 35 = .ok (.istore 6, 2) := by decide +kernel
theorem dX2_fillBetween_37 : decode cX2_fillBetween 37 = .ok (.iload 6, 2) := by decide +kernel
theorem dX2_fillBetween_39 : decode cX2_fillBetween 39 = .ok (.iload 4, 2) := by decide +kernel
theorem dX2_fillBetween_4 : decode cX2_fillBetween 4 = .ok (.iconst 2, 1) := by decide +kernel
theorem dX2_fillBetween_41 : decode cX2_fillBetween 41 = .ok (.if_icmp .ge 22, 3) := by decide +kernel
theorem dX2_fillBetween_44 : decode cX2_fillBetween 44 = .ok (.aload_n 0, 1) := by decide +kernel
theorem dX2_fillBetween_45 : decode cX2_fillBetween 45 = .ok (.getfield 15, 3) := by decide +kernel
theorem dX2_fillBetween_48 : decode cX2_fillBetween 48 = .ok (.iload 6, 2) := by decide +kernel
theorem dX2_fillBetween_5 : decode cX2_fillBetween 5 = .ok (.if_icmp .lt 10, 3) := by decide +kernel
theorem dX2_fillBetween_50 : decode cX2_fillBetween 50 = .ok (.aload_n 0, 1) := by decide +kernel
theorem dX2_fillBetween_51 : decode cX2_fillBetween 51 = .ok (.getfield 15, 3) := by decide +kernel
theorem dX2_fillBetween_54 : decode cX2_fillBetween 54 = .ok (.iload_n 3, 1) := by decide +kernel
theorem dX2_fillBetween_55 : decode cX2_fillBetween 55 = .ok (.iaload, 1) := by decide +kernel
theorem dX2_fillBetween_56 : decode cX2_fillBetween 56 = .ok (.iastore, 1) := by decide +kernel
theorem dX2_fillBetween_57 : decode cX2_fillBetween 57 = .ok (.iinc 6 1, 3) := by decide +kernel
theorem dX2_fillBetween_60 : decode cX2_fillBetween 60 = .ok (.goto (-23), 3) := by decide +kernel
theorem dX2_fillBetween_63 : decode cX2_fillBetween 63 = .ok (.return_, 1) := by decide +kernel
theorem dX2_fillBetween_64 : decode cX2_fillBetween 64 = .ok (.iload_n 3, 1) := by decide +kernel
theorem dX2_fillBetween_65 : decode cX2_fillBetween 65 = .ok (.iload 4, 2) := by decide +kernel
theorem dX2_fillBetween_67 : decode cX2_fillBetween 67 = .ok (.iadd, 1) := by decide +kernel
theorem dX2_fillBetween_68 : decode cX2_fillBetween 68 = .ok (.iconst 2, 1) := by decide +kernel
theorem dX2_fillBetween_69 : decode cX2_fillBetween 69 = .ok (.idiv, 1) := by decide +kernel
theorem dX2_fillBetween_70 : decode cX2_fillBetween 70 = .ok (.istore 6, 2) := by decide +kernel
theorem dX2_fillBetween_72 : decode cX2_fillBetween 72 = .ok (.aload_n 0, 1) := by decide +kernel
theorem dX2_fillBetween_73 : decode cX2_fillBetween 73 = .ok (.getfield 9, 3) := by decide +kernel
theorem dX2_fillBetween_76 : decode cX2_fillBetween 76 = .ok (.iload_n 2, 1) := by decide +kernel
theorem dX2_fillBetween_77 : decode cX2_fillBetween 77 = .ok (.iload 6, 2) := by decide +kernel
theorem dX2_fillBetween_79 : decode cX2_fillBetween 79 = .ok (.iastore, 1) := by decide +kernel
theorem dX2_fillBetween_8 : decode cX2_fillBetween 8 = .ok (.iload 5, 2) := by decide +kernel
theorem dX2_fillBetween_80 : decode cX2_fillBetween 80 = .ok (.aload_n 0, 1) := by decide +kernel
theorem dX2_fillBetween_81 : decode cX2_fillBetween 81 = .ok (.getfield 15, 3) := by decide +kernel
theorem dX2_fillBetween_84 : decode cX2_fillBetween 84 = .ok (.iload 6, 2) := by decide +kernel
theorem dX2_fillBetween_86 : decode cX2_fillBetween 86 = .ok (.aload_n 0, 1) := by decide +kernel
theorem dX2_fillBetween_87 : decode cX2_fillBetween 87 = .ok (.getfield 25, 3) := by decide +kernel
theorem dX2_fillBetween_90 : decode cX2_fillBetween 90 = .ok (.iload_n 1, 1) := by decide +kernel
theorem dX2_fillBetween_91 : decode cX2_fillBetween 91 = .ok (.iload_n 2, 1) := by decide +kernel
theorem dX2_fillBetween_92 : decode cX2_fillBetween 92 = .ok (.invokevirtual 50, 3) := by decide +kernel
theorem dX2_fillBetween_95 : decode cX2_fillBetween 95 = .ok (.iastore, 1) := by decide +kernel
theorem dX2_fillBetween_96 : decode cX2_fillBetween 96 = .ok (.aload_n 0, 1) := by decide +kernel
theorem dX2_fillBetween_97 : decode cX2_fillBetween 97 = .ok (.iload_n 1, 1) := by decide +kernel
theorem dX2_fillBetween_98 : decode cX2_fillBetween 98 = .ok (.iload_n 2, 1) := by decide +kernel
theorem dX2_fillBetween_99 : decode cX2_fillBetween 99 = .ok (.iload_n 3, 1) := by decide +kernel
theorem jX0_answer_X0 : ∀ w ∈ u_ws RX0 TX0 3, w ∈ wsX0_answer := fun w h => List.mem_cons_of_mem _ (List.mem_append_left _ (List.mem_append_right _ h))
theorem jX0_begin_X0 : ∀ w ∈ u_ws RX0 TX0 3, w ∈ wsX0_begin := fun w h => List.mem_cons_of_mem _ (List.mem_append_left _ (List.mem_append_right _ h))
theorem jX2_fillBetween_X2 : ∀ w ∈ u_ws RX2 TX2 5, w ∈ wsX2_fillBetween := fun w h => List.mem_cons_of_mem _ (List.mem_append_left _ (List.mem_append_left _ (List.mem_append_left _ (List.mem_append_right _ h))))
theorem hdV_X0_begin : yX0_begin.cls = RX0 ∧ yX0_begin.cls ≠ "java/lang/invoke/MethodHandle" ∧ yX0_begin.cls ≠ "java/lang/invoke/VarHandle" ∧ (parseMethodDescriptor yX0_begin.desc).map (fun d => d.parameters.length) = some 3 := by decide +kernel
theorem hdV_X0_firstBody : yX0_firstBody.cls = RX0 ∧ yX0_firstBody.cls ≠ "java/lang/invoke/MethodHandle" ∧ yX0_firstBody.cls ≠ "java/lang/invoke/VarHandle" ∧ (parseMethodDescriptor yX0_firstBody.desc).map (fun d => d.parameters.length) = some 2 := by decide +kernel
theorem hdV_X1_openBeside : yX1_openBeside.cls = RX1 ∧ yX1_openBeside.cls ≠ "java/lang/invoke/MethodHandle" ∧ yX1_openBeside.cls ≠ "java/lang/invoke/VarHandle" ∧ (parseMethodDescriptor yX1_openBeside.desc).map (fun d => d.parameters.length) = some 1 := by decide +kernel
theorem hdV_X2_fillBetween : yX2_fillBetween.cls = RX2 ∧ yX2_fillBetween.cls ≠ "java/lang/invoke/MethodHandle" ∧ yX2_fillBetween.cls ≠ "java/lang/invoke/VarHandle" ∧ (parseMethodDescriptor yX2_fillBetween.desc).map (fun d => d.parameters.length) = some 5 := by decide +kernel
set_option maxHeartbeats 4000000 in
set_option maxRecDepth 100000 in
theorem s_X0_begin (l : Launch) (D : va_G) (cI cZ cC cS : ClassId) (sq : Nat → Nat) : ∀ (fu : Nat) (sz : Nat) (ak : Nat) (bo : Nat) (ct : Nat) (aCells : Nat) (aPrices : Nat) (bd_ : Int32) (k : Int32) (dp : Int32) (tc : Int32) (fbo : Nat → Int32) (cw : Int32) (ch : Int32) (cp : Int32) (aFree : Nat) (aPlaces : Nat) (aHomes : Nat) (aManners : Nat) (aGone : Nat) (aPaid : Nat) (aBlinks : Nat) (fc : Nat → Int32) (fp : Nat → Int32) (hrg_fc : rng fc 80 (-1) (8)) (hw : 0 ≤ cw.toInt ∧ cw.toInt ≤ 10) (hh : 0 ≤ ch.toInt ∧ ch.toInt ≤ 8) (hk : 0 ≤ k.toInt ∧ k.toInt < 80) (htc : 0 ≤ tc.toInt ∧ tc.toInt ≤ 16) (hfu : 0 ≤ dp.toInt ∧ dp.toInt + (fu : Int) = 21), mI l yX0_begin wsX0_begin (10 + fu) (40 * (10 + fu)) D (tyW cI cZ cC cS) sq [(ak, .inr (0, [.ref ct, .ref bo, .int tc])), (bo, .inl (cI, 16, .inl fbo)), (ct, .inr (1, [.int cw, .int ch, .int cp, .ref aCells, .ref aPrices, .ref aFree, .ref aPlaces, .ref aHomes, .ref aManners, .ref aGone, .ref aPaid, .ref aBlinks])), (aCells, .inl (cI, 80, .inl fc)), (aPrices, .inl (cI, 6, .inl fp))] sz [.ref ak, .int bd_, .int k, .int dp] (fun r w => (∃ (tc2 : Int32), ∃ (fbo2 : Nat → Int32), (0 ≤ tc2.toInt ∧ tc2.toInt ≤ 16) ∧ w = [(ak, .inr (0, [.ref ct, .ref bo, .int tc2])), (bo, .inl (cI, 16, .inl fbo2)), (ct, .inr (1, [.int cw, .int ch, .int cp, .ref aCells, .ref aPrices, .ref aFree, .ref aPlaces, .ref aHomes, .ref aManners, .ref aGone, .ref aPaid, .ref aBlinks])), (aCells, .inl (cI, 80, .inl fc)), (aPrices, .inl (cI, 6, .inl fp))])) := by
  intro fu
  induction fu with
  | zero =>
    intro sz ak bo ct aCells aPrices bd_ k dp tc fbo cw ch cp aFree aPlaces aHomes aManners aGone aPaid aBlinks fc fp hrg_fc hw hh hk htc hfu
    refine b_metI (cc := cX0_begin) (maxL := 5) (ret := (some .int)) (by decide) rfl (Nat.le_of_ble_eq_true rfl) ?_
    intro p e s m below meth c ls A H X hsz hP hK hT hD hA hS hl
    have S : CallFix p m c cX0_begin 5 s ([.ref ak, .int bd_, .int k, .int dp] : List Value).toArray wsX0_begin RX0 := X.1
    have hl : lv_has ls 5 [(0, .ref ak), (1, .int bd_), (2, .int k), (3, .int dp)] := hl
    refine lv_iload_n S.1 S.2.1 dX0_begin_0 rfl (lv_at hl 3 rfl) ?_
    refine lv_bipush (v := (20)) S.1 S.2.1 dX0_begin_1 (by decide) ?_
    refine lv_icmp_le (tgt := 8) S.1 S.2.1 dX0_begin_3 (by decide) (fun c_1 => by exfalso; rw [le2 (a := dp) (b := 20) (A := dp.toInt) (B := 20) rfl rfl] at c_1; omega) (fun c_1 => ?_)
    rw [le2 (a := dp) (b := 20) (A := dp.toInt) (B := 20) rfl rfl] at c_1
    refine lv_iconst (v := (0)) S.1 S.2.1 dX0_begin_6 (by decide) ?_
    have lq0 : Int32.toInt (0) = 0 := by decide
    exact b_iret S.1 S.2.1 X.2.1 X.2.2.1 hP hD hS ⟨tc, fbo, (by first | assumption | omega | decide | (rw [show Int32.toInt 0 = 0 from rfl]; omega)), rfl⟩ dX0_begin_7
  | succ fu ih =>
    intro sz ak bo ct aCells aPrices bd_ k dp tc fbo cw ch cp aFree aPlaces aHomes aManners aGone aPaid aBlinks fc fp hrg_fc hw hh hk htc hfu
    refine b_metI (cc := cX0_begin) (maxL := 5) (ret := (some .int)) (by decide) rfl (Nat.le_of_ble_eq_true rfl) ?_
    intro p e s m below meth c ls A H X hsz hP hK hT hD hA hS hl
    have S : CallFix p m c cX0_begin 5 s ([.ref ak, .int bd_, .int k, .int dp] : List Value).toArray wsX0_begin RX0 := X.1
    have hl : lv_has ls 5 [(0, .ref ak), (1, .int bd_), (2, .int k), (3, .int dp)] := hl
    have iX0 := jX0_begin_X0
    refine lv_iload_n S.1 S.2.1 dX0_begin_0 rfl (lv_at hl 3 rfl) ?_
    refine lv_bipush (v := (20)) S.1 S.2.1 dX0_begin_1 (by decide) ?_
    refine lv_icmp_le (tgt := 8) S.1 S.2.1 dX0_begin_3 (by decide) (fun c_1 => ?_) (fun c_1 => ?_)
    · rw [le2 (a := dp) (b := 20) (A := dp.toInt) (B := 20) rfl rfl] at c_1
      refine lv_aload_n S.1 S.2.1 dX0_begin_8 rfl (lv_at hl 0 rfl) ?_
      refine b_get (v := .int tc) S iX0 hK hP 0 rfl rfl 2 (by decide) (by decide +kernel) rfl dX0_begin_9 ?_
      refine lv_bipush (v := (16)) S.1 S.2.1 dX0_begin_12 (by decide) ?_
      refine lv_icmp_ge (tgt := 37) S.1 S.2.1 dX0_begin_14 (by decide) (fun c_2 => ?_) (fun c_2 => ?_)
      · rw [le2 (a := 16) (b := tc) (A := 16) (B := tc.toInt) rfl rfl] at c_2
        refine lv_iload_n S.1 S.2.1 dX0_begin_37 rfl (lv_at hl 3 rfl) ?_
        refine lv_iconst (v := (1)) S.1 S.2.1 dX0_begin_38 (by decide) ?_
        refine lv_iadd S.1 S.2.1 dX0_begin_39 ?_
        refine lv_topi (fun x_3 ex_3 => ?_)
        have tx_3 : x_3.toInt = dp.toInt + (1) := addI (A := dp.toInt) (B := 1) ex_3 rfl rfl (by omega) (by omega)
        refine lv_istore (lv' := [(4, .int x_3), (0, .ref ak), (1, .int bd_), (2, .int k), (3, .int dp)]) S.1 S.2.1 dX0_begin_40 hl (by decide) rfl (fun ls hl => ?_)
        refine lv_iload_n S.1 S.2.1 dX0_begin_42 rfl (lv_at hl 2 rfl) ?_
        rcases (show bd_.toInt = 10 ∨ bd_.toInt = 11 ∨ bd_.toInt = 12 ∨ bd_.toInt = 13 ∨ bd_.toInt = 14 ∨ bd_.toInt = 15 ∨ bd_.toInt = 16 ∨ bd_.toInt = 17 ∨ bd_.toInt = 18 ∨ bd_.toInt = 19 ∨ bd_.toInt = 20 ∨ bd_.toInt = 21 ∨ bd_.toInt = 22 ∨ bd_.toInt = 23 ∨ (bd_.toInt < 10 ∨ 23 < bd_.toInt) by omega) with hsw | hsw | hsw | hsw | hsw | hsw | hsw | hsw | hsw | hsw | hsw | hsw | hsw | hsw | hsw
        · refine lv_tableIn (off := 69) (tgt := 112) S.1 S.2.1 dX0_begin_43 (by omega) (by omega) (by rw [hsw]; rfl) (by decide) ?_
          refine lv_aload_n S.1 S.2.1 dX0_begin_112 rfl (lv_at hl 1 rfl) ?_
          refine b_get (v := .ref ct) S iX0 hK hP 0 rfl rfl 0 (by decide) (by decide +kernel) rfl dX0_begin_113 ?_
          refine lv_iload_n S.1 S.2.1 dX0_begin_116 rfl (lv_at hl 3 rfl) ?_
          refine b_ai (wr := [(ak, .inr (0, [.ref ct, .ref bo, .int tc])), (bo, .inl (cI, 16, .inl fbo)), (aPrices, .inl (cI, 6, .inl fp))]) (b_runV (q0 := 2) (ci := 1) (As := [.int k]) (s_X1_openBeside l D cI cZ cC cS sq H.size ct aCells k cw ch cp aPrices aFree aPlaces aHomes aManners aGone aPaid aBlinks fc (by first | assumption | omega | decide | (rw [show Int32.toInt 0 = 0 from rfl]; omega)) (by first | assumption | omega | decide | (rw [show Int32.toInt 0 = 0 from rfl]; omega)) (by first | assumption | omega | decide | (rw [show Int32.toInt 0 = 0 from rfl]; omega)) (by first | assumption | omega | decide | (rw [show Int32.toInt 0 = 0 from rfl]; omega))) S gX0_begin_X1_openBeside rfl hdV_X1_openBeside ⟨by dsimp only [rmW]; omega, by dsimp only [rmW]; omega⟩ ⟨Nat.le_of_ble_eq_true rfl, Nat.le_of_ble_eq_true rfl⟩ hK hT hS hA hP hD rfl rfl [2, 3] rfl (by decide) rfl hl.1 rfl (Nat.le_of_ble_eq_true rfl) dX0_begin_117) hP hD hS hA [2, 3] [0, 1, 4] rfl rfl (by decide) (by decide) (fun r_4 w_5 H locs hw_6 hP hD hS => ?_)
          obtain rfl := hw_6
          have hP : va_P D vwCl [(ak, .inr (0, [.ref ct, .ref bo, .int tc])), (bo, .inl (cI, 16, .inl fbo)), (aPrices, .inl (cI, 6, .inl fp)), (ct, .inr (1, [.int cw, .int ch, .int cp, .ref aCells, .ref aPrices, .ref aFree, .ref aPlaces, .ref aHomes, .ref aManners, .ref aGone, .ref aPaid, .ref aBlinks])), (aCells, .inl (cI, 80, .inl fc))] H := hP
          have hD : va_D A [(ak, .inr (0, [.ref ct, .ref bo, .int tc])), (bo, .inl (cI, 16, .inl fbo)), (aPrices, .inl (cI, 6, .inl fp)), (ct, .inr (1, [.int cw, .int ch, .int cp, .ref aCells, .ref aPrices, .ref aFree, .ref aPlaces, .ref aHomes, .ref aManners, .ref aGone, .ref aPaid, .ref aBlinks])), (aCells, .inl (cI, 80, .inl fc))] := hD
          have hP := hP.sub (ws' := [(ak, .inr (0, [.ref ct, .ref bo, .int tc])), (bo, .inl (cI, 16, .inl fbo)), (ct, .inr (1, [.int cw, .int ch, .int cp, .ref aCells, .ref aPrices, .ref aFree, .ref aPlaces, .ref aHomes, .ref aManners, .ref aGone, .ref aPaid, .ref aBlinks])), (aCells, .inl (cI, 80, .inl fc)), (aPrices, .inl (cI, 6, .inl fp))]) [0, 1, 3, 4, 2] rfl
          have hD := hD.sub (ws' := [(ak, .inr (0, [.ref ct, .ref bo, .int tc])), (bo, .inl (cI, 16, .inl fbo)), (ct, .inr (1, [.int cw, .int ch, .int cp, .ref aCells, .ref aPrices, .ref aFree, .ref aPlaces, .ref aHomes, .ref aManners, .ref aGone, .ref aPaid, .ref aBlinks])), (aCells, .inl (cI, 80, .inl fc)), (aPrices, .inl (cI, 6, .inl fp))]) [0, 1, 3, 4, 2] (by decide) rfl
          exact b_iret S.1 S.2.1 X.2.1 X.2.2.1 hP hD hS ⟨tc, fbo, (by first | assumption | omega | decide | (rw [show Int32.toInt 0 = 0 from rfl]; omega)), rfl⟩ dX0_begin_120
        · refine lv_tableIn (off := 78) (tgt := 121) S.1 S.2.1 dX0_begin_43 (by omega) (by omega) (by rw [hsw]; rfl) (by decide) ?_
          refine lv_aload_n S.1 S.2.1 dX0_begin_121 rfl (lv_at hl 1 rfl) ?_
          refine lv_bipush (v := (10)) S.1 S.2.1 dX0_begin_122 (by decide) ?_
          refine lv_iload_n S.1 S.2.1 dX0_begin_124 rfl (lv_at hl 3 rfl) ?_
          refine lv_iload S.1 S.2.1 dX0_begin_125 (lv_at hl 0 rfl) ?_
          refine b_ai (wr := []) (b_runV (q0 := 0) (ci := 0) (As := [.int 10, .int k, .int x_3]) (ih H.size ak bo ct aCells aPrices (10) k x_3 tc fbo cw ch cp aFree aPlaces aHomes aManners aGone aPaid aBlinks fc fp (by first | assumption | omega | decide | (rw [show Int32.toInt 0 = 0 from rfl]; omega)) (by first | assumption | omega | decide | (rw [show Int32.toInt 0 = 0 from rfl]; omega)) (by first | assumption | omega | decide | (rw [show Int32.toInt 0 = 0 from rfl]; omega)) (by first | assumption | omega | decide | (rw [show Int32.toInt 0 = 0 from rfl]; omega)) (by first | assumption | omega | decide | (rw [show Int32.toInt 0 = 0 from rfl]; omega)) (by first | assumption | omega | decide | (rw [show Int32.toInt 0 = 0 from rfl]; omega))) S gX0_begin_X0_begin rfl hdV_X0_begin ⟨by dsimp only [rmW]; omega, by dsimp only [rmW]; omega⟩ ⟨Nat.le_of_ble_eq_true rfl, Nat.le_of_ble_eq_true rfl⟩ hK hT hS hA hP hD rfl rfl [0, 1, 2, 3, 4] rfl (by decide) rfl hl.1 rfl (Nat.le_of_ble_eq_true rfl) dX0_begin_127) hP hD hS hA [0, 1, 2, 3, 4] [] rfl rfl (by decide) (by decide) (fun r_7 w_8 H locs hw_9 hP hD hS => ?_)
          obtain ⟨tc2_10, fbo2_11, hf_12, rfl⟩ := hw_9
          have hP : va_P D vwCl [(ak, .inr (0, [.ref ct, .ref bo, .int tc2_10])), (bo, .inl (cI, 16, .inl fbo2_11)), (ct, .inr (1, [.int cw, .int ch, .int cp, .ref aCells, .ref aPrices, .ref aFree, .ref aPlaces, .ref aHomes, .ref aManners, .ref aGone, .ref aPaid, .ref aBlinks])), (aCells, .inl (cI, 80, .inl fc)), (aPrices, .inl (cI, 6, .inl fp))] H := hP
          have hD : va_D A [(ak, .inr (0, [.ref ct, .ref bo, .int tc2_10])), (bo, .inl (cI, 16, .inl fbo2_11)), (ct, .inr (1, [.int cw, .int ch, .int cp, .ref aCells, .ref aPrices, .ref aFree, .ref aPlaces, .ref aHomes, .ref aManners, .ref aGone, .ref aPaid, .ref aBlinks])), (aCells, .inl (cI, 80, .inl fc)), (aPrices, .inl (cI, 6, .inl fp))] := hD
          refine lv_ineg S.1 S.2.1 dX0_begin_130 ?_
          refine lv_topi (fun x_13 ex_13 => ?_)
          exact b_iret S.1 S.2.1 X.2.1 X.2.2.1 hP hD hS ⟨tc2_10, fbo2_11, (by first | assumption | omega | decide | (rw [show Int32.toInt 0 = 0 from rfl]; omega)), rfl⟩ dX0_begin_131
        · refine lv_tableIn (off := 89) (tgt := 132) S.1 S.2.1 dX0_begin_43 (by omega) (by omega) (by rw [hsw]; rfl) (by decide) ?_
          refine lv_aload_n S.1 S.2.1 dX0_begin_132 rfl (lv_at hl 1 rfl) ?_
          refine lv_bipush (v := (11)) S.1 S.2.1 dX0_begin_133 (by decide) ?_
          refine lv_iload_n S.1 S.2.1 dX0_begin_135 rfl (lv_at hl 3 rfl) ?_
          refine lv_iload S.1 S.2.1 dX0_begin_136 (lv_at hl 0 rfl) ?_
          refine b_ai (wr := []) (b_runV (q0 := 0) (ci := 0) (As := [.int 11, .int k, .int x_3]) (ih H.size ak bo ct aCells aPrices (11) k x_3 tc fbo cw ch cp aFree aPlaces aHomes aManners aGone aPaid aBlinks fc fp (by first | assumption | omega | decide | (rw [show Int32.toInt 0 = 0 from rfl]; omega)) (by first | assumption | omega | decide | (rw [show Int32.toInt 0 = 0 from rfl]; omega)) (by first | assumption | omega | decide | (rw [show Int32.toInt 0 = 0 from rfl]; omega)) (by first | assumption | omega | decide | (rw [show Int32.toInt 0 = 0 from rfl]; omega)) (by first | assumption | omega | decide | (rw [show Int32.toInt 0 = 0 from rfl]; omega)) (by first | assumption | omega | decide | (rw [show Int32.toInt 0 = 0 from rfl]; omega))) S gX0_begin_X0_begin rfl hdV_X0_begin ⟨by dsimp only [rmW]; omega, by dsimp only [rmW]; omega⟩ ⟨Nat.le_of_ble_eq_true rfl, Nat.le_of_ble_eq_true rfl⟩ hK hT hS hA hP hD rfl rfl [0, 1, 2, 3, 4] rfl (by decide) rfl hl.1 rfl (Nat.le_of_ble_eq_true rfl) dX0_begin_138) hP hD hS hA [0, 1, 2, 3, 4] [] rfl rfl (by decide) (by decide) (fun r_14 w_15 H locs hw_16 hP hD hS => ?_)
          obtain ⟨tc2_17, fbo2_18, hf_19, rfl⟩ := hw_16
          have hP : va_P D vwCl [(ak, .inr (0, [.ref ct, .ref bo, .int tc2_17])), (bo, .inl (cI, 16, .inl fbo2_18)), (ct, .inr (1, [.int cw, .int ch, .int cp, .ref aCells, .ref aPrices, .ref aFree, .ref aPlaces, .ref aHomes, .ref aManners, .ref aGone, .ref aPaid, .ref aBlinks])), (aCells, .inl (cI, 80, .inl fc)), (aPrices, .inl (cI, 6, .inl fp))] H := hP
          have hD : va_D A [(ak, .inr (0, [.ref ct, .ref bo, .int tc2_17])), (bo, .inl (cI, 16, .inl fbo2_18)), (ct, .inr (1, [.int cw, .int ch, .int cp, .ref aCells, .ref aPrices, .ref aFree, .ref aPlaces, .ref aHomes, .ref aManners, .ref aGone, .ref aPaid, .ref aBlinks])), (aCells, .inl (cI, 80, .inl fc)), (aPrices, .inl (cI, 6, .inl fp))] := hD
          refine lv_aload_n S.1 S.2.1 dX0_begin_141 rfl (lv_at hl 1 rfl) ?_
          refine lv_aload_n S.1 S.2.1 dX0_begin_142 rfl (lv_at hl 1 rfl) ?_
          refine lv_iload_n S.1 S.2.1 dX0_begin_143 rfl (lv_at hl 3 rfl) ?_
          refine lv_iconst (v := (1)) S.1 S.2.1 dX0_begin_144 (by decide) ?_
          refine b_ai (wr := [(bo, .inl (cI, 16, .inl fbo2_18))]) (b_runV (q0 := 0) (ci := 0) (As := [.int k, .int 1]) (s_X0_firstBody l D cI cZ cC cS sq H.size ak ct aCells aPrices k (1) bo tc2_17 cw ch cp aFree aPlaces aHomes aManners aGone aPaid aBlinks fc fp (by first | assumption | omega | decide | (rw [show Int32.toInt 0 = 0 from rfl]; omega)) (by first | assumption | omega | decide | (rw [show Int32.toInt 0 = 0 from rfl]; omega)) (by first | assumption | omega | decide | (rw [show Int32.toInt 0 = 0 from rfl]; omega))) S gX0_begin_X0_firstBody rfl hdV_X0_firstBody ⟨by dsimp only [rmW]; omega, by dsimp only [rmW]; omega⟩ ⟨Nat.le_of_ble_eq_true rfl, Nat.le_of_ble_eq_true rfl⟩ hK hT hS hA hP hD rfl rfl [0, 2, 3, 4] rfl (by decide) rfl hl.1 rfl (Nat.le_of_ble_eq_true rfl) dX0_begin_145) hP hD hS hA [0, 2, 3, 4] [1] rfl rfl (by decide) (by decide) (fun r_20 w_21 H locs hw_22 hP hD hS => ?_)
          obtain rfl := hw_22
          have hP : va_P D vwCl [(bo, .inl (cI, 16, .inl fbo2_18)), (ak, .inr (0, [.ref ct, .ref bo, .int tc2_17])), (ct, .inr (1, [.int cw, .int ch, .int cp, .ref aCells, .ref aPrices, .ref aFree, .ref aPlaces, .ref aHomes, .ref aManners, .ref aGone, .ref aPaid, .ref aBlinks])), (aCells, .inl (cI, 80, .inl fc)), (aPrices, .inl (cI, 6, .inl fp))] H := hP
          have hD : va_D A [(bo, .inl (cI, 16, .inl fbo2_18)), (ak, .inr (0, [.ref ct, .ref bo, .int tc2_17])), (ct, .inr (1, [.int cw, .int ch, .int cp, .ref aCells, .ref aPrices, .ref aFree, .ref aPlaces, .ref aHomes, .ref aManners, .ref aGone, .ref aPaid, .ref aBlinks])), (aCells, .inl (cI, 80, .inl fc)), (aPrices, .inl (cI, 6, .inl fp))] := hD
          refine lv_iload_n S.1 S.2.1 dX0_begin_148 rfl (lv_at hl 3 rfl) ?_
          refine lv_iload S.1 S.2.1 dX0_begin_149 (lv_at hl 0 rfl) ?_
          refine b_ai (wr := []) (b_runV (q0 := 1) (ci := 0) (As := [.int r_20, .int k, .int x_3]) (ih H.size ak bo ct aCells aPrices r_20 k x_3 tc2_17 fbo2_18 cw ch cp aFree aPlaces aHomes aManners aGone aPaid aBlinks fc fp (by first | assumption | omega | decide | (rw [show Int32.toInt 0 = 0 from rfl]; omega)) (by first | assumption | omega | decide | (rw [show Int32.toInt 0 = 0 from rfl]; omega)) (by first | assumption | omega | decide | (rw [show Int32.toInt 0 = 0 from rfl]; omega)) (by first | assumption | omega | decide | (rw [show Int32.toInt 0 = 0 from rfl]; omega)) (by first | assumption | omega | decide | (rw [show Int32.toInt 0 = 0 from rfl]; omega)) (by first | assumption | omega | decide | (rw [show Int32.toInt 0 = 0 from rfl]; omega))) S gX0_begin_X0_begin rfl hdV_X0_begin ⟨by dsimp only [rmW]; omega, by dsimp only [rmW]; omega⟩ ⟨Nat.le_of_ble_eq_true rfl, Nat.le_of_ble_eq_true rfl⟩ hK hT hS hA hP hD rfl rfl [1, 0, 2, 3, 4] rfl (by decide) rfl hl.1 rfl (Nat.le_of_ble_eq_true rfl) dX0_begin_151) hP hD hS hA [1, 0, 2, 3, 4] [] rfl rfl (by decide) (by decide) (fun r_23 w_24 H locs hw_25 hP hD hS => ?_)
          obtain ⟨tc2_26, fbo2_27, hf_28, rfl⟩ := hw_25
          have hP : va_P D vwCl [(ak, .inr (0, [.ref ct, .ref bo, .int tc2_26])), (bo, .inl (cI, 16, .inl fbo2_27)), (ct, .inr (1, [.int cw, .int ch, .int cp, .ref aCells, .ref aPrices, .ref aFree, .ref aPlaces, .ref aHomes, .ref aManners, .ref aGone, .ref aPaid, .ref aBlinks])), (aCells, .inl (cI, 80, .inl fc)), (aPrices, .inl (cI, 6, .inl fp))] H := hP
          have hD : va_D A [(ak, .inr (0, [.ref ct, .ref bo, .int tc2_26])), (bo, .inl (cI, 16, .inl fbo2_27)), (ct, .inr (1, [.int cw, .int ch, .int cp, .ref aCells, .ref aPrices, .ref aFree, .ref aPlaces, .ref aHomes, .ref aManners, .ref aGone, .ref aPaid, .ref aBlinks])), (aCells, .inl (cI, 80, .inl fc)), (aPrices, .inl (cI, 6, .inl fp))] := hD
          refine lv_iadd S.1 S.2.1 dX0_begin_154 ?_
          refine lv_topi (fun x_29 ex_29 => ?_)
          exact b_iret S.1 S.2.1 X.2.1 X.2.2.1 hP hD hS ⟨tc2_26, fbo2_27, (by first | assumption | omega | decide | (rw [show Int32.toInt 0 = 0 from rfl]; omega)), rfl⟩ dX0_begin_155
        · refine lv_tableIn (off := 113) (tgt := 156) S.1 S.2.1 dX0_begin_43 (by omega) (by omega) (by rw [hsw]; rfl) (by decide) ?_
          refine lv_iconst (v := (2)) S.1 S.2.1 dX0_begin_156 (by decide) ?_
          refine lv_aload_n S.1 S.2.1 dX0_begin_157 rfl (lv_at hl 1 rfl) ?_
          refine lv_bipush (v := (12)) S.1 S.2.1 dX0_begin_158 (by decide) ?_
          refine lv_iload_n S.1 S.2.1 dX0_begin_160 rfl (lv_at hl 3 rfl) ?_
          refine lv_iload S.1 S.2.1 dX0_begin_161 (lv_at hl 0 rfl) ?_
          refine b_ai (wr := []) (b_runV (q0 := 0) (ci := 0) (As := [.int 12, .int k, .int x_3]) (ih H.size ak bo ct aCells aPrices (12) k x_3 tc fbo cw ch cp aFree aPlaces aHomes aManners aGone aPaid aBlinks fc fp (by first | assumption | omega | decide | (rw [show Int32.toInt 0 = 0 from rfl]; omega)) (by first | assumption | omega | decide | (rw [show Int32.toInt 0 = 0 from rfl]; omega)) (by first | assumption | omega | decide | (rw [show Int32.toInt 0 = 0 from rfl]; omega)) (by first | assumption | omega | decide | (rw [show Int32.toInt 0 = 0 from rfl]; omega)) (by first | assumption | omega | decide | (rw [show Int32.toInt 0 = 0 from rfl]; omega)) (by first | assumption | omega | decide | (rw [show Int32.toInt 0 = 0 from rfl]; omega))) S gX0_begin_X0_begin rfl hdV_X0_begin ⟨by dsimp only [rmW]; omega, by dsimp only [rmW]; omega⟩ ⟨Nat.le_of_ble_eq_true rfl, Nat.le_of_ble_eq_true rfl⟩ hK hT hS hA hP hD rfl rfl [0, 1, 2, 3, 4] rfl (by decide) rfl hl.1 rfl (Nat.le_of_ble_eq_true rfl) dX0_begin_163) hP hD hS hA [0, 1, 2, 3, 4] [] rfl rfl (by decide) (by decide) (fun r_30 w_31 H locs hw_32 hP hD hS => ?_)
          obtain ⟨tc2_33, fbo2_34, hf_35, rfl⟩ := hw_32
          have hP : va_P D vwCl [(ak, .inr (0, [.ref ct, .ref bo, .int tc2_33])), (bo, .inl (cI, 16, .inl fbo2_34)), (ct, .inr (1, [.int cw, .int ch, .int cp, .ref aCells, .ref aPrices, .ref aFree, .ref aPlaces, .ref aHomes, .ref aManners, .ref aGone, .ref aPaid, .ref aBlinks])), (aCells, .inl (cI, 80, .inl fc)), (aPrices, .inl (cI, 6, .inl fp))] H := hP
          have hD : va_D A [(ak, .inr (0, [.ref ct, .ref bo, .int tc2_33])), (bo, .inl (cI, 16, .inl fbo2_34)), (ct, .inr (1, [.int cw, .int ch, .int cp, .ref aCells, .ref aPrices, .ref aFree, .ref aPlaces, .ref aHomes, .ref aManners, .ref aGone, .ref aPaid, .ref aBlinks])), (aCells, .inl (cI, 80, .inl fc)), (aPrices, .inl (cI, 6, .inl fp))] := hD
          refine lv_imul S.1 S.2.1 dX0_begin_166 ?_
          refine lv_topi (fun x_36 ex_36 => ?_)
          exact b_iret S.1 S.2.1 X.2.1 X.2.2.1 hP hD hS ⟨tc2_33, fbo2_34, (by first | assumption | omega | decide | (rw [show Int32.toInt 0 = 0 from rfl]; omega)), rfl⟩ dX0_begin_167
        · refine lv_tableIn (off := 125) (tgt := 168) S.1 S.2.1 dX0_begin_43 (by omega) (by omega) (by rw [hsw]; rfl) (by decide) ?_
          refine lv_aload_n S.1 S.2.1 dX0_begin_168 rfl (lv_at hl 1 rfl) ?_
          refine lv_bipush (v := (10)) S.1 S.2.1 dX0_begin_169 (by decide) ?_
          refine lv_iload_n S.1 S.2.1 dX0_begin_171 rfl (lv_at hl 3 rfl) ?_
          refine lv_iload S.1 S.2.1 dX0_begin_172 (lv_at hl 0 rfl) ?_
          refine b_ai (wr := []) (b_runV (q0 := 0) (ci := 0) (As := [.int 10, .int k, .int x_3]) (ih H.size ak bo ct aCells aPrices (10) k x_3 tc fbo cw ch cp aFree aPlaces aHomes aManners aGone aPaid aBlinks fc fp (by first | assumption | omega | decide | (rw [show Int32.toInt 0 = 0 from rfl]; omega)) (by first | assumption | omega | decide | (rw [show Int32.toInt 0 = 0 from rfl]; omega)) (by first | assumption | omega | decide | (rw [show Int32.toInt 0 = 0 from rfl]; omega)) (by first | assumption | omega | decide | (rw [show Int32.toInt 0 = 0 from rfl]; omega)) (by first | assumption | omega | decide | (rw [show Int32.toInt 0 = 0 from rfl]; omega)) (by first | assumption | omega | decide | (rw [show Int32.toInt 0 = 0 from rfl]; omega))) S gX0_begin_X0_begin rfl hdV_X0_begin ⟨by dsimp only [rmW]; omega, by dsimp only [rmW]; omega⟩ ⟨Nat.le_of_ble_eq_true rfl, Nat.le_of_ble_eq_true rfl⟩ hK hT hS hA hP hD rfl rfl [0, 1, 2, 3, 4] rfl (by decide) rfl hl.1 rfl (Nat.le_of_ble_eq_true rfl) dX0_begin_174) hP hD hS hA [0, 1, 2, 3, 4] [] rfl rfl (by decide) (by decide) (fun r_37 w_38 H locs hw_39 hP hD hS => ?_)
          obtain ⟨tc2_40, fbo2_41, hf_42, rfl⟩ := hw_39
          have hP : va_P D vwCl [(ak, .inr (0, [.ref ct, .ref bo, .int tc2_40])), (bo, .inl (cI, 16, .inl fbo2_41)), (ct, .inr (1, [.int cw, .int ch, .int cp, .ref aCells, .ref aPrices, .ref aFree, .ref aPlaces, .ref aHomes, .ref aManners, .ref aGone, .ref aPaid, .ref aBlinks])), (aCells, .inl (cI, 80, .inl fc)), (aPrices, .inl (cI, 6, .inl fp))] H := hP
          have hD : va_D A [(ak, .inr (0, [.ref ct, .ref bo, .int tc2_40])), (bo, .inl (cI, 16, .inl fbo2_41)), (ct, .inr (1, [.int cw, .int ch, .int cp, .ref aCells, .ref aPrices, .ref aFree, .ref aPlaces, .ref aHomes, .ref aManners, .ref aGone, .ref aPaid, .ref aBlinks])), (aCells, .inl (cI, 80, .inl fc)), (aPrices, .inl (cI, 6, .inl fp))] := hD
          refine lv_aload_n S.1 S.2.1 dX0_begin_177 rfl (lv_at hl 1 rfl) ?_
          refine lv_aload_n S.1 S.2.1 dX0_begin_178 rfl (lv_at hl 1 rfl) ?_
          refine lv_iload_n S.1 S.2.1 dX0_begin_179 rfl (lv_at hl 3 rfl) ?_
          refine lv_iconst (v := (1)) S.1 S.2.1 dX0_begin_180 (by decide) ?_
          refine b_ai (wr := [(bo, .inl (cI, 16, .inl fbo2_41))]) (b_runV (q0 := 0) (ci := 0) (As := [.int k, .int 1]) (s_X0_firstBody l D cI cZ cC cS sq H.size ak ct aCells aPrices k (1) bo tc2_40 cw ch cp aFree aPlaces aHomes aManners aGone aPaid aBlinks fc fp (by first | assumption | omega | decide | (rw [show Int32.toInt 0 = 0 from rfl]; omega)) (by first | assumption | omega | decide | (rw [show Int32.toInt 0 = 0 from rfl]; omega)) (by first | assumption | omega | decide | (rw [show Int32.toInt 0 = 0 from rfl]; omega))) S gX0_begin_X0_firstBody rfl hdV_X0_firstBody ⟨by dsimp only [rmW]; omega, by dsimp only [rmW]; omega⟩ ⟨Nat.le_of_ble_eq_true rfl, Nat.le_of_ble_eq_true rfl⟩ hK hT hS hA hP hD rfl rfl [0, 2, 3, 4] rfl (by decide) rfl hl.1 rfl (Nat.le_of_ble_eq_true rfl) dX0_begin_181) hP hD hS hA [0, 2, 3, 4] [1] rfl rfl (by decide) (by decide) (fun r_43 w_44 H locs hw_45 hP hD hS => ?_)
          obtain rfl := hw_45
          have hP : va_P D vwCl [(bo, .inl (cI, 16, .inl fbo2_41)), (ak, .inr (0, [.ref ct, .ref bo, .int tc2_40])), (ct, .inr (1, [.int cw, .int ch, .int cp, .ref aCells, .ref aPrices, .ref aFree, .ref aPlaces, .ref aHomes, .ref aManners, .ref aGone, .ref aPaid, .ref aBlinks])), (aCells, .inl (cI, 80, .inl fc)), (aPrices, .inl (cI, 6, .inl fp))] H := hP
          have hD : va_D A [(bo, .inl (cI, 16, .inl fbo2_41)), (ak, .inr (0, [.ref ct, .ref bo, .int tc2_40])), (ct, .inr (1, [.int cw, .int ch, .int cp, .ref aCells, .ref aPrices, .ref aFree, .ref aPlaces, .ref aHomes, .ref aManners, .ref aGone, .ref aPaid, .ref aBlinks])), (aCells, .inl (cI, 80, .inl fc)), (aPrices, .inl (cI, 6, .inl fp))] := hD
          refine lv_iload_n S.1 S.2.1 dX0_begin_184 rfl (lv_at hl 3 rfl) ?_
          refine lv_iload S.1 S.2.1 dX0_begin_185 (lv_at hl 0 rfl) ?_
          refine b_ai (wr := []) (b_runV (q0 := 1) (ci := 0) (As := [.int r_43, .int k, .int x_3]) (ih H.size ak bo ct aCells aPrices r_43 k x_3 tc2_40 fbo2_41 cw ch cp aFree aPlaces aHomes aManners aGone aPaid aBlinks fc fp (by first | assumption | omega | decide | (rw [show Int32.toInt 0 = 0 from rfl]; omega)) (by first | assumption | omega | decide | (rw [show Int32.toInt 0 = 0 from rfl]; omega)) (by first | assumption | omega | decide | (rw [show Int32.toInt 0 = 0 from rfl]; omega)) (by first | assumption | omega | decide | (rw [show Int32.toInt 0 = 0 from rfl]; omega)) (by first | assumption | omega | decide | (rw [show Int32.toInt 0 = 0 from rfl]; omega)) (by first | assumption | omega | decide | (rw [show Int32.toInt 0 = 0 from rfl]; omega))) S gX0_begin_X0_begin rfl hdV_X0_begin ⟨by dsimp only [rmW]; omega, by dsimp only [rmW]; omega⟩ ⟨Nat.le_of_ble_eq_true rfl, Nat.le_of_ble_eq_true rfl⟩ hK hT hS hA hP hD rfl rfl [1, 0, 2, 3, 4] rfl (by decide) rfl hl.1 rfl (Nat.le_of_ble_eq_true rfl) dX0_begin_187) hP hD hS hA [1, 0, 2, 3, 4] [] rfl rfl (by decide) (by decide) (fun r_46 w_47 H locs hw_48 hP hD hS => ?_)
          obtain ⟨tc2_49, fbo2_50, hf_51, rfl⟩ := hw_48
          have hP : va_P D vwCl [(ak, .inr (0, [.ref ct, .ref bo, .int tc2_49])), (bo, .inl (cI, 16, .inl fbo2_50)), (ct, .inr (1, [.int cw, .int ch, .int cp, .ref aCells, .ref aPrices, .ref aFree, .ref aPlaces, .ref aHomes, .ref aManners, .ref aGone, .ref aPaid, .ref aBlinks])), (aCells, .inl (cI, 80, .inl fc)), (aPrices, .inl (cI, 6, .inl fp))] H := hP
          have hD : va_D A [(ak, .inr (0, [.ref ct, .ref bo, .int tc2_49])), (bo, .inl (cI, 16, .inl fbo2_50)), (ct, .inr (1, [.int cw, .int ch, .int cp, .ref aCells, .ref aPrices, .ref aFree, .ref aPlaces, .ref aHomes, .ref aManners, .ref aGone, .ref aPaid, .ref aBlinks])), (aCells, .inl (cI, 80, .inl fc)), (aPrices, .inl (cI, 6, .inl fp))] := hD
          refine lv_isub S.1 S.2.1 dX0_begin_190 ?_
          refine lv_topi (fun x_52 ex_52 => ?_)
          exact b_iret S.1 S.2.1 X.2.1 X.2.2.1 hP hD hS ⟨tc2_49, fbo2_50, (by first | assumption | omega | decide | (rw [show Int32.toInt 0 = 0 from rfl]; omega)), rfl⟩ dX0_begin_191
        · refine lv_tableIn (off := 211) (tgt := 254) S.1 S.2.1 dX0_begin_43 (by omega) (by omega) (by rw [hsw]; rfl) (by decide) ?_
          refine lv_iconst (v := (0)) S.1 S.2.1 dX0_begin_254 (by decide) ?_
          have lq0 : Int32.toInt (0) = 0 := by decide
          exact b_iret S.1 S.2.1 X.2.1 X.2.2.1 hP hD hS ⟨tc, fbo, (by first | assumption | omega | decide | (rw [show Int32.toInt 0 = 0 from rfl]; omega)), rfl⟩ dX0_begin_255
        · refine lv_tableIn (off := 211) (tgt := 254) S.1 S.2.1 dX0_begin_43 (by omega) (by omega) (by rw [hsw]; rfl) (by decide) ?_
          refine lv_iconst (v := (0)) S.1 S.2.1 dX0_begin_254 (by decide) ?_
          have lq0 : Int32.toInt (0) = 0 := by decide
          exact b_iret S.1 S.2.1 X.2.1 X.2.2.1 hP hD hS ⟨tc, fbo, (by first | assumption | omega | decide | (rw [show Int32.toInt 0 = 0 from rfl]; omega)), rfl⟩ dX0_begin_255
        · refine lv_tableIn (off := 211) (tgt := 254) S.1 S.2.1 dX0_begin_43 (by omega) (by omega) (by rw [hsw]; rfl) (by decide) ?_
          refine lv_iconst (v := (0)) S.1 S.2.1 dX0_begin_254 (by decide) ?_
          have lq0 : Int32.toInt (0) = 0 := by decide
          exact b_iret S.1 S.2.1 X.2.1 X.2.2.1 hP hD hS ⟨tc, fbo, (by first | assumption | omega | decide | (rw [show Int32.toInt 0 = 0 from rfl]; omega)), rfl⟩ dX0_begin_255
        · refine lv_tableIn (off := 211) (tgt := 254) S.1 S.2.1 dX0_begin_43 (by omega) (by omega) (by rw [hsw]; rfl) (by decide) ?_
          refine lv_iconst (v := (0)) S.1 S.2.1 dX0_begin_254 (by decide) ?_
          have lq0 : Int32.toInt (0) = 0 := by decide
          exact b_iret S.1 S.2.1 X.2.1 X.2.2.1 hP hD hS ⟨tc, fbo, (by first | assumption | omega | decide | (rw [show Int32.toInt 0 = 0 from rfl]; omega)), rfl⟩ dX0_begin_255
        · refine lv_tableIn (off := 211) (tgt := 254) S.1 S.2.1 dX0_begin_43 (by omega) (by omega) (by rw [hsw]; rfl) (by decide) ?_
          refine lv_iconst (v := (0)) S.1 S.2.1 dX0_begin_254 (by decide) ?_
          have lq0 : Int32.toInt (0) = 0 := by decide
          exact b_iret S.1 S.2.1 X.2.1 X.2.2.1 hP hD hS ⟨tc, fbo, (by first | assumption | omega | decide | (rw [show Int32.toInt 0 = 0 from rfl]; omega)), rfl⟩ dX0_begin_255
        · refine lv_tableIn (off := 149) (tgt := 192) S.1 S.2.1 dX0_begin_43 (by omega) (by omega) (by rw [hsw]; rfl) (by decide) ?_
          refine lv_iload_n S.1 S.2.1 dX0_begin_192 rfl (lv_at hl 3 rfl) ?_
          exact b_iret S.1 S.2.1 X.2.1 X.2.2.1 hP hD hS ⟨tc, fbo, (by first | assumption | omega | decide | (rw [show Int32.toInt 0 = 0 from rfl]; omega)), rfl⟩ dX0_begin_193
        · refine lv_tableIn (off := 151) (tgt := 194) S.1 S.2.1 dX0_begin_43 (by omega) (by omega) (by rw [hsw]; rfl) (by decide) ?_
          refine lv_aload_n S.1 S.2.1 dX0_begin_194 rfl (lv_at hl 1 rfl) ?_
          refine lv_bipush (v := (20)) S.1 S.2.1 dX0_begin_195 (by decide) ?_
          refine lv_iload_n S.1 S.2.1 dX0_begin_197 rfl (lv_at hl 3 rfl) ?_
          refine lv_iload S.1 S.2.1 dX0_begin_198 (lv_at hl 0 rfl) ?_
          refine b_ai (wr := []) (b_runV (q0 := 0) (ci := 0) (As := [.int 20, .int k, .int x_3]) (ih H.size ak bo ct aCells aPrices (20) k x_3 tc fbo cw ch cp aFree aPlaces aHomes aManners aGone aPaid aBlinks fc fp (by first | assumption | omega | decide | (rw [show Int32.toInt 0 = 0 from rfl]; omega)) (by first | assumption | omega | decide | (rw [show Int32.toInt 0 = 0 from rfl]; omega)) (by first | assumption | omega | decide | (rw [show Int32.toInt 0 = 0 from rfl]; omega)) (by first | assumption | omega | decide | (rw [show Int32.toInt 0 = 0 from rfl]; omega)) (by first | assumption | omega | decide | (rw [show Int32.toInt 0 = 0 from rfl]; omega)) (by first | assumption | omega | decide | (rw [show Int32.toInt 0 = 0 from rfl]; omega))) S gX0_begin_X0_begin rfl hdV_X0_begin ⟨by dsimp only [rmW]; omega, by dsimp only [rmW]; omega⟩ ⟨Nat.le_of_ble_eq_true rfl, Nat.le_of_ble_eq_true rfl⟩ hK hT hS hA hP hD rfl rfl [0, 1, 2, 3, 4] rfl (by decide) rfl hl.1 rfl (Nat.le_of_ble_eq_true rfl) dX0_begin_200) hP hD hS hA [0, 1, 2, 3, 4] [] rfl rfl (by decide) (by decide) (fun r_53 w_54 H locs hw_55 hP hD hS => ?_)
          obtain ⟨tc2_56, fbo2_57, hf_58, rfl⟩ := hw_55
          have hP : va_P D vwCl [(ak, .inr (0, [.ref ct, .ref bo, .int tc2_56])), (bo, .inl (cI, 16, .inl fbo2_57)), (ct, .inr (1, [.int cw, .int ch, .int cp, .ref aCells, .ref aPrices, .ref aFree, .ref aPlaces, .ref aHomes, .ref aManners, .ref aGone, .ref aPaid, .ref aBlinks])), (aCells, .inl (cI, 80, .inl fc)), (aPrices, .inl (cI, 6, .inl fp))] H := hP
          have hD : va_D A [(ak, .inr (0, [.ref ct, .ref bo, .int tc2_56])), (bo, .inl (cI, 16, .inl fbo2_57)), (ct, .inr (1, [.int cw, .int ch, .int cp, .ref aCells, .ref aPrices, .ref aFree, .ref aPlaces, .ref aHomes, .ref aManners, .ref aGone, .ref aPaid, .ref aBlinks])), (aCells, .inl (cI, 80, .inl fc)), (aPrices, .inl (cI, 6, .inl fp))] := hD
          refine lv_bipush (v := (100)) S.1 S.2.1 dX0_begin_203 (by decide) ?_
          refine lv_aload_n S.1 S.2.1 dX0_begin_205 rfl (lv_at hl 1 rfl) ?_
          refine b_get (v := .ref ct) S iX0 hK hP 0 rfl rfl 0 (by decide) (by decide +kernel) rfl dX0_begin_206 ?_
          refine lv_iload_n S.1 S.2.1 dX0_begin_209 rfl (lv_at hl 3 rfl) ?_
          refine b_ai (wr := [(ak, .inr (0, [.ref ct, .ref bo, .int tc2_56])), (bo, .inl (cI, 16, .inl fbo2_57))]) (b_runV (q0 := 2) (ci := 1) (As := [.int k]) (s_X1_priceAt l D cI cZ cC cS sq H.size ct aCells aPrices k cw ch cp aFree aPlaces aHomes aManners aGone aPaid aBlinks fc fp (by first | assumption | omega | decide | (rw [show Int32.toInt 0 = 0 from rfl]; omega)) (by first | assumption | omega | decide | (rw [show Int32.toInt 0 = 0 from rfl]; omega)) (by first | assumption | omega | decide | (rw [show Int32.toInt 0 = 0 from rfl]; omega))) S gX0_begin_X1_priceAt rfl hdV_X1_priceAt ⟨by dsimp only [rmW]; omega, by dsimp only [rmW]; omega⟩ ⟨Nat.le_of_ble_eq_true rfl, Nat.le_of_ble_eq_true rfl⟩ hK hT hS hA hP hD rfl rfl [2, 3, 4] rfl (by decide) rfl hl.1 rfl (Nat.le_of_ble_eq_true rfl) dX0_begin_210) hP hD hS hA [2, 3, 4] [0, 1] rfl rfl (by decide) (by decide) (fun r_59 w_60 H locs hw_61 hP hD hS => ?_)
          obtain rfl := hw_61
          have hP : va_P D vwCl [(ak, .inr (0, [.ref ct, .ref bo, .int tc2_56])), (bo, .inl (cI, 16, .inl fbo2_57)), (ct, .inr (1, [.int cw, .int ch, .int cp, .ref aCells, .ref aPrices, .ref aFree, .ref aPlaces, .ref aHomes, .ref aManners, .ref aGone, .ref aPaid, .ref aBlinks])), (aCells, .inl (cI, 80, .inl fc)), (aPrices, .inl (cI, 6, .inl fp))] H := hP
          have hD : va_D A [(ak, .inr (0, [.ref ct, .ref bo, .int tc2_56])), (bo, .inl (cI, 16, .inl fbo2_57)), (ct, .inr (1, [.int cw, .int ch, .int cp, .ref aCells, .ref aPrices, .ref aFree, .ref aPlaces, .ref aHomes, .ref aManners, .ref aGone, .ref aPaid, .ref aBlinks])), (aCells, .inl (cI, 80, .inl fc)), (aPrices, .inl (cI, 6, .inl fp))] := hD
          refine lv_imul S.1 S.2.1 dX0_begin_213 ?_
          refine lv_topi (fun x_62 ex_62 => ?_)
          refine lv_iadd S.1 S.2.1 dX0_begin_214 ?_
          refine lv_topi (fun x_63 ex_63 => ?_)
          exact b_iret S.1 S.2.1 X.2.1 X.2.2.1 hP hD hS ⟨tc2_56, fbo2_57, (by first | assumption | omega | decide | (rw [show Int32.toInt 0 = 0 from rfl]; omega)), rfl⟩ dX0_begin_215
        · refine lv_tableIn (off := 173) (tgt := 216) S.1 S.2.1 dX0_begin_43 (by omega) (by omega) (by rw [hsw]; rfl) (by decide) ?_
          refine lv_aload_n S.1 S.2.1 dX0_begin_216 rfl (lv_at hl 1 rfl) ?_
          refine lv_bipush (v := (20)) S.1 S.2.1 dX0_begin_217 (by decide) ?_
          refine lv_iload_n S.1 S.2.1 dX0_begin_219 rfl (lv_at hl 3 rfl) ?_
          refine lv_iload S.1 S.2.1 dX0_begin_220 (lv_at hl 0 rfl) ?_
          refine b_ai (wr := []) (b_runV (q0 := 0) (ci := 0) (As := [.int 20, .int k, .int x_3]) (ih H.size ak bo ct aCells aPrices (20) k x_3 tc fbo cw ch cp aFree aPlaces aHomes aManners aGone aPaid aBlinks fc fp (by first | assumption | omega | decide | (rw [show Int32.toInt 0 = 0 from rfl]; omega)) (by first | assumption | omega | decide | (rw [show Int32.toInt 0 = 0 from rfl]; omega)) (by first | assumption | omega | decide | (rw [show Int32.toInt 0 = 0 from rfl]; omega)) (by first | assumption | omega | decide | (rw [show Int32.toInt 0 = 0 from rfl]; omega)) (by first | assumption | omega | decide | (rw [show Int32.toInt 0 = 0 from rfl]; omega)) (by first | assumption | omega | decide | (rw [show Int32.toInt 0 = 0 from rfl]; omega))) S gX0_begin_X0_begin rfl hdV_X0_begin ⟨by dsimp only [rmW]; omega, by dsimp only [rmW]; omega⟩ ⟨Nat.le_of_ble_eq_true rfl, Nat.le_of_ble_eq_true rfl⟩ hK hT hS hA hP hD rfl rfl [0, 1, 2, 3, 4] rfl (by decide) rfl hl.1 rfl (Nat.le_of_ble_eq_true rfl) dX0_begin_222) hP hD hS hA [0, 1, 2, 3, 4] [] rfl rfl (by decide) (by decide) (fun r_64 w_65 H locs hw_66 hP hD hS => ?_)
          obtain ⟨tc2_67, fbo2_68, hf_69, rfl⟩ := hw_66
          have hP : va_P D vwCl [(ak, .inr (0, [.ref ct, .ref bo, .int tc2_67])), (bo, .inl (cI, 16, .inl fbo2_68)), (ct, .inr (1, [.int cw, .int ch, .int cp, .ref aCells, .ref aPrices, .ref aFree, .ref aPlaces, .ref aHomes, .ref aManners, .ref aGone, .ref aPaid, .ref aBlinks])), (aCells, .inl (cI, 80, .inl fc)), (aPrices, .inl (cI, 6, .inl fp))] H := hP
          have hD : va_D A [(ak, .inr (0, [.ref ct, .ref bo, .int tc2_67])), (bo, .inl (cI, 16, .inl fbo2_68)), (ct, .inr (1, [.int cw, .int ch, .int cp, .ref aCells, .ref aPrices, .ref aFree, .ref aPlaces, .ref aHomes, .ref aManners, .ref aGone, .ref aPaid, .ref aBlinks])), (aCells, .inl (cI, 80, .inl fc)), (aPrices, .inl (cI, 6, .inl fp))] := hD
          refine lv_aload_n S.1 S.2.1 dX0_begin_225 rfl (lv_at hl 1 rfl) ?_
          refine lv_aload_n S.1 S.2.1 dX0_begin_226 rfl (lv_at hl 1 rfl) ?_
          refine lv_iload_n S.1 S.2.1 dX0_begin_227 rfl (lv_at hl 3 rfl) ?_
          refine lv_iconst (v := (0)) S.1 S.2.1 dX0_begin_228 (by decide) ?_
          refine b_ai (wr := [(bo, .inl (cI, 16, .inl fbo2_68))]) (b_runV (q0 := 0) (ci := 0) (As := [.int k, .int 0]) (s_X0_firstBody l D cI cZ cC cS sq H.size ak ct aCells aPrices k (0) bo tc2_67 cw ch cp aFree aPlaces aHomes aManners aGone aPaid aBlinks fc fp (by first | assumption | omega | decide | (rw [show Int32.toInt 0 = 0 from rfl]; omega)) (by first | assumption | omega | decide | (rw [show Int32.toInt 0 = 0 from rfl]; omega)) (by first | assumption | omega | decide | (rw [show Int32.toInt 0 = 0 from rfl]; omega))) S gX0_begin_X0_firstBody rfl hdV_X0_firstBody ⟨by dsimp only [rmW]; omega, by dsimp only [rmW]; omega⟩ ⟨Nat.le_of_ble_eq_true rfl, Nat.le_of_ble_eq_true rfl⟩ hK hT hS hA hP hD rfl rfl [0, 2, 3, 4] rfl (by decide) rfl hl.1 rfl (Nat.le_of_ble_eq_true rfl) dX0_begin_229) hP hD hS hA [0, 2, 3, 4] [1] rfl rfl (by decide) (by decide) (fun r_70 w_71 H locs hw_72 hP hD hS => ?_)
          obtain rfl := hw_72
          have hP : va_P D vwCl [(bo, .inl (cI, 16, .inl fbo2_68)), (ak, .inr (0, [.ref ct, .ref bo, .int tc2_67])), (ct, .inr (1, [.int cw, .int ch, .int cp, .ref aCells, .ref aPrices, .ref aFree, .ref aPlaces, .ref aHomes, .ref aManners, .ref aGone, .ref aPaid, .ref aBlinks])), (aCells, .inl (cI, 80, .inl fc)), (aPrices, .inl (cI, 6, .inl fp))] H := hP
          have hD : va_D A [(bo, .inl (cI, 16, .inl fbo2_68)), (ak, .inr (0, [.ref ct, .ref bo, .int tc2_67])), (ct, .inr (1, [.int cw, .int ch, .int cp, .ref aCells, .ref aPrices, .ref aFree, .ref aPlaces, .ref aHomes, .ref aManners, .ref aGone, .ref aPaid, .ref aBlinks])), (aCells, .inl (cI, 80, .inl fc)), (aPrices, .inl (cI, 6, .inl fp))] := hD
          refine lv_iload_n S.1 S.2.1 dX0_begin_232 rfl (lv_at hl 3 rfl) ?_
          refine lv_iload S.1 S.2.1 dX0_begin_233 (lv_at hl 0 rfl) ?_
          refine b_ai (wr := []) (b_runV (q0 := 1) (ci := 0) (As := [.int r_70, .int k, .int x_3]) (ih H.size ak bo ct aCells aPrices r_70 k x_3 tc2_67 fbo2_68 cw ch cp aFree aPlaces aHomes aManners aGone aPaid aBlinks fc fp (by first | assumption | omega | decide | (rw [show Int32.toInt 0 = 0 from rfl]; omega)) (by first | assumption | omega | decide | (rw [show Int32.toInt 0 = 0 from rfl]; omega)) (by first | assumption | omega | decide | (rw [show Int32.toInt 0 = 0 from rfl]; omega)) (by first | assumption | omega | decide | (rw [show Int32.toInt 0 = 0 from rfl]; omega)) (by first | assumption | omega | decide | (rw [show Int32.toInt 0 = 0 from rfl]; omega)) (by first | assumption | omega | decide | (rw [show Int32.toInt 0 = 0 from rfl]; omega))) S gX0_begin_X0_begin rfl hdV_X0_begin ⟨by dsimp only [rmW]; omega, by dsimp only [rmW]; omega⟩ ⟨Nat.le_of_ble_eq_true rfl, Nat.le_of_ble_eq_true rfl⟩ hK hT hS hA hP hD rfl rfl [1, 0, 2, 3, 4] rfl (by decide) rfl hl.1 rfl (Nat.le_of_ble_eq_true rfl) dX0_begin_235) hP hD hS hA [1, 0, 2, 3, 4] [] rfl rfl (by decide) (by decide) (fun r_73 w_74 H locs hw_75 hP hD hS => ?_)
          obtain ⟨tc2_76, fbo2_77, hf_78, rfl⟩ := hw_75
          have hP : va_P D vwCl [(ak, .inr (0, [.ref ct, .ref bo, .int tc2_76])), (bo, .inl (cI, 16, .inl fbo2_77)), (ct, .inr (1, [.int cw, .int ch, .int cp, .ref aCells, .ref aPrices, .ref aFree, .ref aPlaces, .ref aHomes, .ref aManners, .ref aGone, .ref aPaid, .ref aBlinks])), (aCells, .inl (cI, 80, .inl fc)), (aPrices, .inl (cI, 6, .inl fp))] H := hP
          have hD : va_D A [(ak, .inr (0, [.ref ct, .ref bo, .int tc2_76])), (bo, .inl (cI, 16, .inl fbo2_77)), (ct, .inr (1, [.int cw, .int ch, .int cp, .ref aCells, .ref aPrices, .ref aFree, .ref aPlaces, .ref aHomes, .ref aManners, .ref aGone, .ref aPaid, .ref aBlinks])), (aCells, .inl (cI, 80, .inl fc)), (aPrices, .inl (cI, 6, .inl fp))] := hD
          refine lv_iadd S.1 S.2.1 dX0_begin_238 ?_
          refine lv_topi (fun x_79 ex_79 => ?_)
          exact b_iret S.1 S.2.1 X.2.1 X.2.2.1 hP hD hS ⟨tc2_76, fbo2_77, (by first | assumption | omega | decide | (rw [show Int32.toInt 0 = 0 from rfl]; omega)), rfl⟩ dX0_begin_239
        · refine lv_tableIn (off := 197) (tgt := 240) S.1 S.2.1 dX0_begin_43 (by omega) (by omega) (by rw [hsw]; rfl) (by decide) ?_
          refine lv_aload_n S.1 S.2.1 dX0_begin_240 rfl (lv_at hl 1 rfl) ?_
          refine lv_bipush (v := (21)) S.1 S.2.1 dX0_begin_241 (by decide) ?_
          refine lv_iload_n S.1 S.2.1 dX0_begin_243 rfl (lv_at hl 3 rfl) ?_
          refine lv_iload S.1 S.2.1 dX0_begin_244 (lv_at hl 0 rfl) ?_
          refine b_ai (wr := []) (b_runV (q0 := 0) (ci := 0) (As := [.int 21, .int k, .int x_3]) (ih H.size ak bo ct aCells aPrices (21) k x_3 tc fbo cw ch cp aFree aPlaces aHomes aManners aGone aPaid aBlinks fc fp (by first | assumption | omega | decide | (rw [show Int32.toInt 0 = 0 from rfl]; omega)) (by first | assumption | omega | decide | (rw [show Int32.toInt 0 = 0 from rfl]; omega)) (by first | assumption | omega | decide | (rw [show Int32.toInt 0 = 0 from rfl]; omega)) (by first | assumption | omega | decide | (rw [show Int32.toInt 0 = 0 from rfl]; omega)) (by first | assumption | omega | decide | (rw [show Int32.toInt 0 = 0 from rfl]; omega)) (by first | assumption | omega | decide | (rw [show Int32.toInt 0 = 0 from rfl]; omega))) S gX0_begin_X0_begin rfl hdV_X0_begin ⟨by dsimp only [rmW]; omega, by dsimp only [rmW]; omega⟩ ⟨Nat.le_of_ble_eq_true rfl, Nat.le_of_ble_eq_true rfl⟩ hK hT hS hA hP hD rfl rfl [0, 1, 2, 3, 4] rfl (by decide) rfl hl.1 rfl (Nat.le_of_ble_eq_true rfl) dX0_begin_246) hP hD hS hA [0, 1, 2, 3, 4] [] rfl rfl (by decide) (by decide) (fun r_80 w_81 H locs hw_82 hP hD hS => ?_)
          obtain ⟨tc2_83, fbo2_84, hf_85, rfl⟩ := hw_82
          have hP : va_P D vwCl [(ak, .inr (0, [.ref ct, .ref bo, .int tc2_83])), (bo, .inl (cI, 16, .inl fbo2_84)), (ct, .inr (1, [.int cw, .int ch, .int cp, .ref aCells, .ref aPrices, .ref aFree, .ref aPlaces, .ref aHomes, .ref aManners, .ref aGone, .ref aPaid, .ref aBlinks])), (aCells, .inl (cI, 80, .inl fc)), (aPrices, .inl (cI, 6, .inl fp))] H := hP
          have hD : va_D A [(ak, .inr (0, [.ref ct, .ref bo, .int tc2_83])), (bo, .inl (cI, 16, .inl fbo2_84)), (ct, .inr (1, [.int cw, .int ch, .int cp, .ref aCells, .ref aPrices, .ref aFree, .ref aPlaces, .ref aHomes, .ref aManners, .ref aGone, .ref aPaid, .ref aBlinks])), (aCells, .inl (cI, 80, .inl fc)), (aPrices, .inl (cI, 6, .inl fp))] := hD
          refine lv_sipush (v := (1000)) S.1 S.2.1 dX0_begin_249 (by decide) ?_
          refine lv_isub S.1 S.2.1 dX0_begin_252 ?_
          refine lv_topi (fun x_86 ex_86 => ?_)
          exact b_iret S.1 S.2.1 X.2.1 X.2.2.1 hP hD hS ⟨tc2_83, fbo2_84, (by first | assumption | omega | decide | (rw [show Int32.toInt 0 = 0 from rfl]; omega)), rfl⟩ dX0_begin_253
        · refine lv_tableOut (tgt := 254) S.1 S.2.1 dX0_begin_43 hsw (by decide) ?_
          refine lv_iconst (v := (0)) S.1 S.2.1 dX0_begin_254 (by decide) ?_
          have lq0 : Int32.toInt (0) = 0 := by decide
          exact b_iret S.1 S.2.1 X.2.1 X.2.2.1 hP hD hS ⟨tc, fbo, (by first | assumption | omega | decide | (rw [show Int32.toInt 0 = 0 from rfl]; omega)), rfl⟩ dX0_begin_255
      · rw [le2 (a := 16) (b := tc) (A := 16) (B := tc.toInt) rfl rfl] at c_2
        refine lv_aload_n S.1 S.2.1 dX0_begin_17 rfl (lv_at hl 0 rfl) ?_
        refine b_get (v := .ref bo) S iX0 hK hP 0 rfl rfl 1 (by decide) (by decide +kernel) rfl dX0_begin_18 ?_
        refine lv_aload_n S.1 S.2.1 dX0_begin_21 rfl (lv_at hl 0 rfl) ?_
        refine b_get (v := .int tc) S iX0 hK hP 0 rfl rfl 2 (by decide) (by decide +kernel) rfl dX0_begin_22 ?_
        refine lv_iload_n S.1 S.2.1 dX0_begin_25 rfl (lv_at hl 1 rfl) ?_
        refine va_iast S.1 S.2.1 hK.1 hP hD hS 1 0 rfl rfl (in_of (n := 16) (by omega) (by omega)) dX0_begin_26 (fun H locs hP hD hS => ?_)
        obtain ⟨f_87, hf_87⟩ : ∃ g, (upd fbo tc.toNatClampNeg (bd_)) = g := ⟨_, rfl⟩
        have hP : va_P D vwCl [(ak, .inr (0, [.ref ct, .ref bo, .int tc])), (bo, .inl (cI, 16, .inl (upd fbo tc.toNatClampNeg (bd_)))), (ct, .inr (1, [.int cw, .int ch, .int cp, .ref aCells, .ref aPrices, .ref aFree, .ref aPlaces, .ref aHomes, .ref aManners, .ref aGone, .ref aPaid, .ref aBlinks])), (aCells, .inl (cI, 80, .inl fc)), (aPrices, .inl (cI, 6, .inl fp))] H := hP
        have hD : va_D A [(ak, .inr (0, [.ref ct, .ref bo, .int tc])), (bo, .inl (cI, 16, .inl (upd fbo tc.toNatClampNeg (bd_)))), (ct, .inr (1, [.int cw, .int ch, .int cp, .ref aCells, .ref aPrices, .ref aFree, .ref aPlaces, .ref aHomes, .ref aManners, .ref aGone, .ref aPaid, .ref aBlinks])), (aCells, .inl (cI, 80, .inl fc)), (aPrices, .inl (cI, 6, .inl fp))] := hD
        rw [hf_87] at hP hD
        refine lv_aload_n S.1 S.2.1 dX0_begin_27 rfl (lv_at hl 0 rfl) ?_
        refine lv_dup S.1 S.2.1 dX0_begin_28 rfl ?_
        refine b_get (v := .int tc) S iX0 hK hP 0 rfl rfl 2 (by decide) (by decide +kernel) rfl dX0_begin_29 ?_
        refine lv_iconst (v := (1)) S.1 S.2.1 dX0_begin_32 (by decide) ?_
        refine lv_iadd S.1 S.2.1 dX0_begin_33 ?_
        refine lv_topi (fun x_88 ex_88 => ?_)
        have tx_88 : x_88.toInt = tc.toInt + (1) := addI (A := tc.toInt) (B := 1) ex_88 rfl rfl (by omega) (by omega)
        refine b_put (v := .int x_88) S iX0 tyX0 tyX0_ok nmX0 hK hP hD hS 0 rfl rfl 2 (by decide) (by decide +kernel) rfl rfl rfl (Nat.le_of_ble_eq_true rfl) dX0_begin_34 (fun H locs hP hD hS => ?_)
        have hP : va_P D vwCl [(ak, .inr (0, [.ref ct, .ref bo, .int x_88])), (bo, .inl (cI, 16, .inl f_87)), (ct, .inr (1, [.int cw, .int ch, .int cp, .ref aCells, .ref aPrices, .ref aFree, .ref aPlaces, .ref aHomes, .ref aManners, .ref aGone, .ref aPaid, .ref aBlinks])), (aCells, .inl (cI, 80, .inl fc)), (aPrices, .inl (cI, 6, .inl fp))] H := hP
        have hD : va_D A [(ak, .inr (0, [.ref ct, .ref bo, .int x_88])), (bo, .inl (cI, 16, .inl f_87)), (ct, .inr (1, [.int cw, .int ch, .int cp, .ref aCells, .ref aPrices, .ref aFree, .ref aPlaces, .ref aHomes, .ref aManners, .ref aGone, .ref aPaid, .ref aBlinks])), (aCells, .inl (cI, 80, .inl fc)), (aPrices, .inl (cI, 6, .inl fp))] := hD
        refine lv_iload_n S.1 S.2.1 dX0_begin_37 rfl (lv_at hl 3 rfl) ?_
        refine lv_iconst (v := (1)) S.1 S.2.1 dX0_begin_38 (by decide) ?_
        refine lv_iadd S.1 S.2.1 dX0_begin_39 ?_
        refine lv_topi (fun x_89 ex_89 => ?_)
        have tx_89 : x_89.toInt = dp.toInt + (1) := addI (A := dp.toInt) (B := 1) ex_89 rfl rfl (by omega) (by omega)
        refine lv_istore (lv' := [(4, .int x_89), (0, .ref ak), (1, .int bd_), (2, .int k), (3, .int dp)]) S.1 S.2.1 dX0_begin_40 hl (by decide) rfl (fun ls hl => ?_)
        refine lv_iload_n S.1 S.2.1 dX0_begin_42 rfl (lv_at hl 2 rfl) ?_
        rcases (show bd_.toInt = 10 ∨ bd_.toInt = 11 ∨ bd_.toInt = 12 ∨ bd_.toInt = 13 ∨ bd_.toInt = 14 ∨ bd_.toInt = 15 ∨ bd_.toInt = 16 ∨ bd_.toInt = 17 ∨ bd_.toInt = 18 ∨ bd_.toInt = 19 ∨ bd_.toInt = 20 ∨ bd_.toInt = 21 ∨ bd_.toInt = 22 ∨ bd_.toInt = 23 ∨ (bd_.toInt < 10 ∨ 23 < bd_.toInt) by omega) with hsw | hsw | hsw | hsw | hsw | hsw | hsw | hsw | hsw | hsw | hsw | hsw | hsw | hsw | hsw
        · refine lv_tableIn (off := 69) (tgt := 112) S.1 S.2.1 dX0_begin_43 (by omega) (by omega) (by rw [hsw]; rfl) (by decide) ?_
          refine lv_aload_n S.1 S.2.1 dX0_begin_112 rfl (lv_at hl 1 rfl) ?_
          refine b_get (v := .ref ct) S iX0 hK hP 0 rfl rfl 0 (by decide) (by decide +kernel) rfl dX0_begin_113 ?_
          refine lv_iload_n S.1 S.2.1 dX0_begin_116 rfl (lv_at hl 3 rfl) ?_
          refine b_ai (wr := [(ak, .inr (0, [.ref ct, .ref bo, .int x_88])), (bo, .inl (cI, 16, .inl f_87)), (aPrices, .inl (cI, 6, .inl fp))]) (b_runV (q0 := 2) (ci := 1) (As := [.int k]) (s_X1_openBeside l D cI cZ cC cS sq H.size ct aCells k cw ch cp aPrices aFree aPlaces aHomes aManners aGone aPaid aBlinks fc (by first | assumption | omega | decide | (rw [show Int32.toInt 0 = 0 from rfl]; omega)) (by first | assumption | omega | decide | (rw [show Int32.toInt 0 = 0 from rfl]; omega)) (by first | assumption | omega | decide | (rw [show Int32.toInt 0 = 0 from rfl]; omega)) (by first | assumption | omega | decide | (rw [show Int32.toInt 0 = 0 from rfl]; omega))) S gX0_begin_X1_openBeside rfl hdV_X1_openBeside ⟨by dsimp only [rmW]; omega, by dsimp only [rmW]; omega⟩ ⟨Nat.le_of_ble_eq_true rfl, Nat.le_of_ble_eq_true rfl⟩ hK hT hS hA hP hD rfl rfl [2, 3] rfl (by decide) rfl hl.1 rfl (Nat.le_of_ble_eq_true rfl) dX0_begin_117) hP hD hS hA [2, 3] [0, 1, 4] rfl rfl (by decide) (by decide) (fun r_90 w_91 H locs hw_92 hP hD hS => ?_)
          obtain rfl := hw_92
          have hP : va_P D vwCl [(ak, .inr (0, [.ref ct, .ref bo, .int x_88])), (bo, .inl (cI, 16, .inl f_87)), (aPrices, .inl (cI, 6, .inl fp)), (ct, .inr (1, [.int cw, .int ch, .int cp, .ref aCells, .ref aPrices, .ref aFree, .ref aPlaces, .ref aHomes, .ref aManners, .ref aGone, .ref aPaid, .ref aBlinks])), (aCells, .inl (cI, 80, .inl fc))] H := hP
          have hD : va_D A [(ak, .inr (0, [.ref ct, .ref bo, .int x_88])), (bo, .inl (cI, 16, .inl f_87)), (aPrices, .inl (cI, 6, .inl fp)), (ct, .inr (1, [.int cw, .int ch, .int cp, .ref aCells, .ref aPrices, .ref aFree, .ref aPlaces, .ref aHomes, .ref aManners, .ref aGone, .ref aPaid, .ref aBlinks])), (aCells, .inl (cI, 80, .inl fc))] := hD
          have hP := hP.sub (ws' := [(ak, .inr (0, [.ref ct, .ref bo, .int x_88])), (bo, .inl (cI, 16, .inl f_87)), (ct, .inr (1, [.int cw, .int ch, .int cp, .ref aCells, .ref aPrices, .ref aFree, .ref aPlaces, .ref aHomes, .ref aManners, .ref aGone, .ref aPaid, .ref aBlinks])), (aCells, .inl (cI, 80, .inl fc)), (aPrices, .inl (cI, 6, .inl fp))]) [0, 1, 3, 4, 2] rfl
          have hD := hD.sub (ws' := [(ak, .inr (0, [.ref ct, .ref bo, .int x_88])), (bo, .inl (cI, 16, .inl f_87)), (ct, .inr (1, [.int cw, .int ch, .int cp, .ref aCells, .ref aPrices, .ref aFree, .ref aPlaces, .ref aHomes, .ref aManners, .ref aGone, .ref aPaid, .ref aBlinks])), (aCells, .inl (cI, 80, .inl fc)), (aPrices, .inl (cI, 6, .inl fp))]) [0, 1, 3, 4, 2] (by decide) rfl
          exact b_iret S.1 S.2.1 X.2.1 X.2.2.1 hP hD hS ⟨x_88, f_87, (by first | assumption | omega | decide | (rw [show Int32.toInt 0 = 0 from rfl]; omega)), rfl⟩ dX0_begin_120
        · refine lv_tableIn (off := 78) (tgt := 121) S.1 S.2.1 dX0_begin_43 (by omega) (by omega) (by rw [hsw]; rfl) (by decide) ?_
          refine lv_aload_n S.1 S.2.1 dX0_begin_121 rfl (lv_at hl 1 rfl) ?_
          refine lv_bipush (v := (10)) S.1 S.2.1 dX0_begin_122 (by decide) ?_
          refine lv_iload_n S.1 S.2.1 dX0_begin_124 rfl (lv_at hl 3 rfl) ?_
          refine lv_iload S.1 S.2.1 dX0_begin_125 (lv_at hl 0 rfl) ?_
          refine b_ai (wr := []) (b_runV (q0 := 0) (ci := 0) (As := [.int 10, .int k, .int x_89]) (ih H.size ak bo ct aCells aPrices (10) k x_89 x_88 f_87 cw ch cp aFree aPlaces aHomes aManners aGone aPaid aBlinks fc fp (by first | assumption | omega | decide | (rw [show Int32.toInt 0 = 0 from rfl]; omega)) (by first | assumption | omega | decide | (rw [show Int32.toInt 0 = 0 from rfl]; omega)) (by first | assumption | omega | decide | (rw [show Int32.toInt 0 = 0 from rfl]; omega)) (by first | assumption | omega | decide | (rw [show Int32.toInt 0 = 0 from rfl]; omega)) (by first | assumption | omega | decide | (rw [show Int32.toInt 0 = 0 from rfl]; omega)) (by first | assumption | omega | decide | (rw [show Int32.toInt 0 = 0 from rfl]; omega))) S gX0_begin_X0_begin rfl hdV_X0_begin ⟨by dsimp only [rmW]; omega, by dsimp only [rmW]; omega⟩ ⟨Nat.le_of_ble_eq_true rfl, Nat.le_of_ble_eq_true rfl⟩ hK hT hS hA hP hD rfl rfl [0, 1, 2, 3, 4] rfl (by decide) rfl hl.1 rfl (Nat.le_of_ble_eq_true rfl) dX0_begin_127) hP hD hS hA [0, 1, 2, 3, 4] [] rfl rfl (by decide) (by decide) (fun r_93 w_94 H locs hw_95 hP hD hS => ?_)
          obtain ⟨tc2_96, fbo2_97, hf_98, rfl⟩ := hw_95
          have hP : va_P D vwCl [(ak, .inr (0, [.ref ct, .ref bo, .int tc2_96])), (bo, .inl (cI, 16, .inl fbo2_97)), (ct, .inr (1, [.int cw, .int ch, .int cp, .ref aCells, .ref aPrices, .ref aFree, .ref aPlaces, .ref aHomes, .ref aManners, .ref aGone, .ref aPaid, .ref aBlinks])), (aCells, .inl (cI, 80, .inl fc)), (aPrices, .inl (cI, 6, .inl fp))] H := hP
          have hD : va_D A [(ak, .inr (0, [.ref ct, .ref bo, .int tc2_96])), (bo, .inl (cI, 16, .inl fbo2_97)), (ct, .inr (1, [.int cw, .int ch, .int cp, .ref aCells, .ref aPrices, .ref aFree, .ref aPlaces, .ref aHomes, .ref aManners, .ref aGone, .ref aPaid, .ref aBlinks])), (aCells, .inl (cI, 80, .inl fc)), (aPrices, .inl (cI, 6, .inl fp))] := hD
          refine lv_ineg S.1 S.2.1 dX0_begin_130 ?_
          refine lv_topi (fun x_99 ex_99 => ?_)
          exact b_iret S.1 S.2.1 X.2.1 X.2.2.1 hP hD hS ⟨tc2_96, fbo2_97, (by first | assumption | omega | decide | (rw [show Int32.toInt 0 = 0 from rfl]; omega)), rfl⟩ dX0_begin_131
        · refine lv_tableIn (off := 89) (tgt := 132) S.1 S.2.1 dX0_begin_43 (by omega) (by omega) (by rw [hsw]; rfl) (by decide) ?_
          refine lv_aload_n S.1 S.2.1 dX0_begin_132 rfl (lv_at hl 1 rfl) ?_
          refine lv_bipush (v := (11)) S.1 S.2.1 dX0_begin_133 (by decide) ?_
          refine lv_iload_n S.1 S.2.1 dX0_begin_135 rfl (lv_at hl 3 rfl) ?_
          refine lv_iload S.1 S.2.1 dX0_begin_136 (lv_at hl 0 rfl) ?_
          refine b_ai (wr := []) (b_runV (q0 := 0) (ci := 0) (As := [.int 11, .int k, .int x_89]) (ih H.size ak bo ct aCells aPrices (11) k x_89 x_88 f_87 cw ch cp aFree aPlaces aHomes aManners aGone aPaid aBlinks fc fp (by first | assumption | omega | decide | (rw [show Int32.toInt 0 = 0 from rfl]; omega)) (by first | assumption | omega | decide | (rw [show Int32.toInt 0 = 0 from rfl]; omega)) (by first | assumption | omega | decide | (rw [show Int32.toInt 0 = 0 from rfl]; omega)) (by first | assumption | omega | decide | (rw [show Int32.toInt 0 = 0 from rfl]; omega)) (by first | assumption | omega | decide | (rw [show Int32.toInt 0 = 0 from rfl]; omega)) (by first | assumption | omega | decide | (rw [show Int32.toInt 0 = 0 from rfl]; omega))) S gX0_begin_X0_begin rfl hdV_X0_begin ⟨by dsimp only [rmW]; omega, by dsimp only [rmW]; omega⟩ ⟨Nat.le_of_ble_eq_true rfl, Nat.le_of_ble_eq_true rfl⟩ hK hT hS hA hP hD rfl rfl [0, 1, 2, 3, 4] rfl (by decide) rfl hl.1 rfl (Nat.le_of_ble_eq_true rfl) dX0_begin_138) hP hD hS hA [0, 1, 2, 3, 4] [] rfl rfl (by decide) (by decide) (fun r_100 w_101 H locs hw_102 hP hD hS => ?_)
          obtain ⟨tc2_103, fbo2_104, hf_105, rfl⟩ := hw_102
          have hP : va_P D vwCl [(ak, .inr (0, [.ref ct, .ref bo, .int tc2_103])), (bo, .inl (cI, 16, .inl fbo2_104)), (ct, .inr (1, [.int cw, .int ch, .int cp, .ref aCells, .ref aPrices, .ref aFree, .ref aPlaces, .ref aHomes, .ref aManners, .ref aGone, .ref aPaid, .ref aBlinks])), (aCells, .inl (cI, 80, .inl fc)), (aPrices, .inl (cI, 6, .inl fp))] H := hP
          have hD : va_D A [(ak, .inr (0, [.ref ct, .ref bo, .int tc2_103])), (bo, .inl (cI, 16, .inl fbo2_104)), (ct, .inr (1, [.int cw, .int ch, .int cp, .ref aCells, .ref aPrices, .ref aFree, .ref aPlaces, .ref aHomes, .ref aManners, .ref aGone, .ref aPaid, .ref aBlinks])), (aCells, .inl (cI, 80, .inl fc)), (aPrices, .inl (cI, 6, .inl fp))] := hD
          refine lv_aload_n S.1 S.2.1 dX0_begin_141 rfl (lv_at hl 1 rfl) ?_
          refine lv_aload_n S.1 S.2.1 dX0_begin_142 rfl (lv_at hl 1 rfl) ?_
          refine lv_iload_n S.1 S.2.1 dX0_begin_143 rfl (lv_at hl 3 rfl) ?_
          refine lv_iconst (v := (1)) S.1 S.2.1 dX0_begin_144 (by decide) ?_
          refine b_ai (wr := [(bo, .inl (cI, 16, .inl fbo2_104))]) (b_runV (q0 := 0) (ci := 0) (As := [.int k, .int 1]) (s_X0_firstBody l D cI cZ cC cS sq H.size ak ct aCells aPrices k (1) bo tc2_103 cw ch cp aFree aPlaces aHomes aManners aGone aPaid aBlinks fc fp (by first | assumption | omega | decide | (rw [show Int32.toInt 0 = 0 from rfl]; omega)) (by first | assumption | omega | decide | (rw [show Int32.toInt 0 = 0 from rfl]; omega)) (by first | assumption | omega | decide | (rw [show Int32.toInt 0 = 0 from rfl]; omega))) S gX0_begin_X0_firstBody rfl hdV_X0_firstBody ⟨by dsimp only [rmW]; omega, by dsimp only [rmW]; omega⟩ ⟨Nat.le_of_ble_eq_true rfl, Nat.le_of_ble_eq_true rfl⟩ hK hT hS hA hP hD rfl rfl [0, 2, 3, 4] rfl (by decide) rfl hl.1 rfl (Nat.le_of_ble_eq_true rfl) dX0_begin_145) hP hD hS hA [0, 2, 3, 4] [1] rfl rfl (by decide) (by decide) (fun r_106 w_107 H locs hw_108 hP hD hS => ?_)
          obtain rfl := hw_108
          have hP : va_P D vwCl [(bo, .inl (cI, 16, .inl fbo2_104)), (ak, .inr (0, [.ref ct, .ref bo, .int tc2_103])), (ct, .inr (1, [.int cw, .int ch, .int cp, .ref aCells, .ref aPrices, .ref aFree, .ref aPlaces, .ref aHomes, .ref aManners, .ref aGone, .ref aPaid, .ref aBlinks])), (aCells, .inl (cI, 80, .inl fc)), (aPrices, .inl (cI, 6, .inl fp))] H := hP
          have hD : va_D A [(bo, .inl (cI, 16, .inl fbo2_104)), (ak, .inr (0, [.ref ct, .ref bo, .int tc2_103])), (ct, .inr (1, [.int cw, .int ch, .int cp, .ref aCells, .ref aPrices, .ref aFree, .ref aPlaces, .ref aHomes, .ref aManners, .ref aGone, .ref aPaid, .ref aBlinks])), (aCells, .inl (cI, 80, .inl fc)), (aPrices, .inl (cI, 6, .inl fp))] := hD
          refine lv_iload_n S.1 S.2.1 dX0_begin_148 rfl (lv_at hl 3 rfl) ?_
          refine lv_iload S.1 S.2.1 dX0_begin_149 (lv_at hl 0 rfl) ?_
          refine b_ai (wr := []) (b_runV (q0 := 1) (ci := 0) (As := [.int r_106, .int k, .int x_89]) (ih H.size ak bo ct aCells aPrices r_106 k x_89 tc2_103 fbo2_104 cw ch cp aFree aPlaces aHomes aManners aGone aPaid aBlinks fc fp (by first | assumption | omega | decide | (rw [show Int32.toInt 0 = 0 from rfl]; omega)) (by first | assumption | omega | decide | (rw [show Int32.toInt 0 = 0 from rfl]; omega)) (by first | assumption | omega | decide | (rw [show Int32.toInt 0 = 0 from rfl]; omega)) (by first | assumption | omega | decide | (rw [show Int32.toInt 0 = 0 from rfl]; omega)) (by first | assumption | omega | decide | (rw [show Int32.toInt 0 = 0 from rfl]; omega)) (by first | assumption | omega | decide | (rw [show Int32.toInt 0 = 0 from rfl]; omega))) S gX0_begin_X0_begin rfl hdV_X0_begin ⟨by dsimp only [rmW]; omega, by dsimp only [rmW]; omega⟩ ⟨Nat.le_of_ble_eq_true rfl, Nat.le_of_ble_eq_true rfl⟩ hK hT hS hA hP hD rfl rfl [1, 0, 2, 3, 4] rfl (by decide) rfl hl.1 rfl (Nat.le_of_ble_eq_true rfl) dX0_begin_151) hP hD hS hA [1, 0, 2, 3, 4] [] rfl rfl (by decide) (by decide) (fun r_109 w_110 H locs hw_111 hP hD hS => ?_)
          obtain ⟨tc2_112, fbo2_113, hf_114, rfl⟩ := hw_111
          have hP : va_P D vwCl [(ak, .inr (0, [.ref ct, .ref bo, .int tc2_112])), (bo, .inl (cI, 16, .inl fbo2_113)), (ct, .inr (1, [.int cw, .int ch, .int cp, .ref aCells, .ref aPrices, .ref aFree, .ref aPlaces, .ref aHomes, .ref aManners, .ref aGone, .ref aPaid, .ref aBlinks])), (aCells, .inl (cI, 80, .inl fc)), (aPrices, .inl (cI, 6, .inl fp))] H := hP
          have hD : va_D A [(ak, .inr (0, [.ref ct, .ref bo, .int tc2_112])), (bo, .inl (cI, 16, .inl fbo2_113)), (ct, .inr (1, [.int cw, .int ch, .int cp, .ref aCells, .ref aPrices, .ref aFree, .ref aPlaces, .ref aHomes, .ref aManners, .ref aGone, .ref aPaid, .ref aBlinks])), (aCells, .inl (cI, 80, .inl fc)), (aPrices, .inl (cI, 6, .inl fp))] := hD
          refine lv_iadd S.1 S.2.1 dX0_begin_154 ?_
          refine lv_topi (fun x_115 ex_115 => ?_)
          exact b_iret S.1 S.2.1 X.2.1 X.2.2.1 hP hD hS ⟨tc2_112, fbo2_113, (by first | assumption | omega | decide | (rw [show Int32.toInt 0 = 0 from rfl]; omega)), rfl⟩ dX0_begin_155
        · refine lv_tableIn (off := 113) (tgt := 156) S.1 S.2.1 dX0_begin_43 (by omega) (by omega) (by rw [hsw]; rfl) (by decide) ?_
          refine lv_iconst (v := (2)) S.1 S.2.1 dX0_begin_156 (by decide) ?_
          refine lv_aload_n S.1 S.2.1 dX0_begin_157 rfl (lv_at hl 1 rfl) ?_
          refine lv_bipush (v := (12)) S.1 S.2.1 dX0_begin_158 (by decide) ?_
          refine lv_iload_n S.1 S.2.1 dX0_begin_160 rfl (lv_at hl 3 rfl) ?_
          refine lv_iload S.1 S.2.1 dX0_begin_161 (lv_at hl 0 rfl) ?_
          refine b_ai (wr := []) (b_runV (q0 := 0) (ci := 0) (As := [.int 12, .int k, .int x_89]) (ih H.size ak bo ct aCells aPrices (12) k x_89 x_88 f_87 cw ch cp aFree aPlaces aHomes aManners aGone aPaid aBlinks fc fp (by first | assumption | omega | decide | (rw [show Int32.toInt 0 = 0 from rfl]; omega)) (by first | assumption | omega | decide | (rw [show Int32.toInt 0 = 0 from rfl]; omega)) (by first | assumption | omega | decide | (rw [show Int32.toInt 0 = 0 from rfl]; omega)) (by first | assumption | omega | decide | (rw [show Int32.toInt 0 = 0 from rfl]; omega)) (by first | assumption | omega | decide | (rw [show Int32.toInt 0 = 0 from rfl]; omega)) (by first | assumption | omega | decide | (rw [show Int32.toInt 0 = 0 from rfl]; omega))) S gX0_begin_X0_begin rfl hdV_X0_begin ⟨by dsimp only [rmW]; omega, by dsimp only [rmW]; omega⟩ ⟨Nat.le_of_ble_eq_true rfl, Nat.le_of_ble_eq_true rfl⟩ hK hT hS hA hP hD rfl rfl [0, 1, 2, 3, 4] rfl (by decide) rfl hl.1 rfl (Nat.le_of_ble_eq_true rfl) dX0_begin_163) hP hD hS hA [0, 1, 2, 3, 4] [] rfl rfl (by decide) (by decide) (fun r_116 w_117 H locs hw_118 hP hD hS => ?_)
          obtain ⟨tc2_119, fbo2_120, hf_121, rfl⟩ := hw_118
          have hP : va_P D vwCl [(ak, .inr (0, [.ref ct, .ref bo, .int tc2_119])), (bo, .inl (cI, 16, .inl fbo2_120)), (ct, .inr (1, [.int cw, .int ch, .int cp, .ref aCells, .ref aPrices, .ref aFree, .ref aPlaces, .ref aHomes, .ref aManners, .ref aGone, .ref aPaid, .ref aBlinks])), (aCells, .inl (cI, 80, .inl fc)), (aPrices, .inl (cI, 6, .inl fp))] H := hP
          have hD : va_D A [(ak, .inr (0, [.ref ct, .ref bo, .int tc2_119])), (bo, .inl (cI, 16, .inl fbo2_120)), (ct, .inr (1, [.int cw, .int ch, .int cp, .ref aCells, .ref aPrices, .ref aFree, .ref aPlaces, .ref aHomes, .ref aManners, .ref aGone, .ref aPaid, .ref aBlinks])), (aCells, .inl (cI, 80, .inl fc)), (aPrices, .inl (cI, 6, .inl fp))] := hD
          refine lv_imul S.1 S.2.1 dX0_begin_166 ?_
          refine lv_topi (fun x_122 ex_122 => ?_)
          exact b_iret S.1 S.2.1 X.2.1 X.2.2.1 hP hD hS ⟨tc2_119, fbo2_120, (by first | assumption | omega | decide | (rw [show Int32.toInt 0 = 0 from rfl]; omega)), rfl⟩ dX0_begin_167
        · refine lv_tableIn (off := 125) (tgt := 168) S.1 S.2.1 dX0_begin_43 (by omega) (by omega) (by rw [hsw]; rfl) (by decide) ?_
          refine lv_aload_n S.1 S.2.1 dX0_begin_168 rfl (lv_at hl 1 rfl) ?_
          refine lv_bipush (v := (10)) S.1 S.2.1 dX0_begin_169 (by decide) ?_
          refine lv_iload_n S.1 S.2.1 dX0_begin_171 rfl (lv_at hl 3 rfl) ?_
          refine lv_iload S.1 S.2.1 dX0_begin_172 (lv_at hl 0 rfl) ?_
          refine b_ai (wr := []) (b_runV (q0 := 0) (ci := 0) (As := [.int 10, .int k, .int x_89]) (ih H.size ak bo ct aCells aPrices (10) k x_89 x_88 f_87 cw ch cp aFree aPlaces aHomes aManners aGone aPaid aBlinks fc fp (by first | assumption | omega | decide | (rw [show Int32.toInt 0 = 0 from rfl]; omega)) (by first | assumption | omega | decide | (rw [show Int32.toInt 0 = 0 from rfl]; omega)) (by first | assumption | omega | decide | (rw [show Int32.toInt 0 = 0 from rfl]; omega)) (by first | assumption | omega | decide | (rw [show Int32.toInt 0 = 0 from rfl]; omega)) (by first | assumption | omega | decide | (rw [show Int32.toInt 0 = 0 from rfl]; omega)) (by first | assumption | omega | decide | (rw [show Int32.toInt 0 = 0 from rfl]; omega))) S gX0_begin_X0_begin rfl hdV_X0_begin ⟨by dsimp only [rmW]; omega, by dsimp only [rmW]; omega⟩ ⟨Nat.le_of_ble_eq_true rfl, Nat.le_of_ble_eq_true rfl⟩ hK hT hS hA hP hD rfl rfl [0, 1, 2, 3, 4] rfl (by decide) rfl hl.1 rfl (Nat.le_of_ble_eq_true rfl) dX0_begin_174) hP hD hS hA [0, 1, 2, 3, 4] [] rfl rfl (by decide) (by decide) (fun r_123 w_124 H locs hw_125 hP hD hS => ?_)
          obtain ⟨tc2_126, fbo2_127, hf_128, rfl⟩ := hw_125
          have hP : va_P D vwCl [(ak, .inr (0, [.ref ct, .ref bo, .int tc2_126])), (bo, .inl (cI, 16, .inl fbo2_127)), (ct, .inr (1, [.int cw, .int ch, .int cp, .ref aCells, .ref aPrices, .ref aFree, .ref aPlaces, .ref aHomes, .ref aManners, .ref aGone, .ref aPaid, .ref aBlinks])), (aCells, .inl (cI, 80, .inl fc)), (aPrices, .inl (cI, 6, .inl fp))] H := hP
          have hD : va_D A [(ak, .inr (0, [.ref ct, .ref bo, .int tc2_126])), (bo, .inl (cI, 16, .inl fbo2_127)), (ct, .inr (1, [.int cw, .int ch, .int cp, .ref aCells, .ref aPrices, .ref aFree, .ref aPlaces, .ref aHomes, .ref aManners, .ref aGone, .ref aPaid, .ref aBlinks])), (aCells, .inl (cI, 80, .inl fc)), (aPrices, .inl (cI, 6, .inl fp))] := hD
          refine lv_aload_n S.1 S.2.1 dX0_begin_177 rfl (lv_at hl 1 rfl) ?_
          refine lv_aload_n S.1 S.2.1 dX0_begin_178 rfl (lv_at hl 1 rfl) ?_
          refine lv_iload_n S.1 S.2.1 dX0_begin_179 rfl (lv_at hl 3 rfl) ?_
          refine lv_iconst (v := (1)) S.1 S.2.1 dX0_begin_180 (by decide) ?_
          refine b_ai (wr := [(bo, .inl (cI, 16, .inl fbo2_127))]) (b_runV (q0 := 0) (ci := 0) (As := [.int k, .int 1]) (s_X0_firstBody l D cI cZ cC cS sq H.size ak ct aCells aPrices k (1) bo tc2_126 cw ch cp aFree aPlaces aHomes aManners aGone aPaid aBlinks fc fp (by first | assumption | omega | decide | (rw [show Int32.toInt 0 = 0 from rfl]; omega)) (by first | assumption | omega | decide | (rw [show Int32.toInt 0 = 0 from rfl]; omega)) (by first | assumption | omega | decide | (rw [show Int32.toInt 0 = 0 from rfl]; omega))) S gX0_begin_X0_firstBody rfl hdV_X0_firstBody ⟨by dsimp only [rmW]; omega, by dsimp only [rmW]; omega⟩ ⟨Nat.le_of_ble_eq_true rfl, Nat.le_of_ble_eq_true rfl⟩ hK hT hS hA hP hD rfl rfl [0, 2, 3, 4] rfl (by decide) rfl hl.1 rfl (Nat.le_of_ble_eq_true rfl) dX0_begin_181) hP hD hS hA [0, 2, 3, 4] [1] rfl rfl (by decide) (by decide) (fun r_129 w_130 H locs hw_131 hP hD hS => ?_)
          obtain rfl := hw_131
          have hP : va_P D vwCl [(bo, .inl (cI, 16, .inl fbo2_127)), (ak, .inr (0, [.ref ct, .ref bo, .int tc2_126])), (ct, .inr (1, [.int cw, .int ch, .int cp, .ref aCells, .ref aPrices, .ref aFree, .ref aPlaces, .ref aHomes, .ref aManners, .ref aGone, .ref aPaid, .ref aBlinks])), (aCells, .inl (cI, 80, .inl fc)), (aPrices, .inl (cI, 6, .inl fp))] H := hP
          have hD : va_D A [(bo, .inl (cI, 16, .inl fbo2_127)), (ak, .inr (0, [.ref ct, .ref bo, .int tc2_126])), (ct, .inr (1, [.int cw, .int ch, .int cp, .ref aCells, .ref aPrices, .ref aFree, .ref aPlaces, .ref aHomes, .ref aManners, .ref aGone, .ref aPaid, .ref aBlinks])), (aCells, .inl (cI, 80, .inl fc)), (aPrices, .inl (cI, 6, .inl fp))] := hD
          refine lv_iload_n S.1 S.2.1 dX0_begin_184 rfl (lv_at hl 3 rfl) ?_
          refine lv_iload S.1 S.2.1 dX0_begin_185 (lv_at hl 0 rfl) ?_
          refine b_ai (wr := []) (b_runV (q0 := 1) (ci := 0) (As := [.int r_129, .int k, .int x_89]) (ih H.size ak bo ct aCells aPrices r_129 k x_89 tc2_126 fbo2_127 cw ch cp aFree aPlaces aHomes aManners aGone aPaid aBlinks fc fp (by first | assumption | omega | decide | (rw [show Int32.toInt 0 = 0 from rfl]; omega)) (by first | assumption | omega | decide | (rw [show Int32.toInt 0 = 0 from rfl]; omega)) (by first | assumption | omega | decide | (rw [show Int32.toInt 0 = 0 from rfl]; omega)) (by first | assumption | omega | decide | (rw [show Int32.toInt 0 = 0 from rfl]; omega)) (by first | assumption | omega | decide | (rw [show Int32.toInt 0 = 0 from rfl]; omega)) (by first | assumption | omega | decide | (rw [show Int32.toInt 0 = 0 from rfl]; omega))) S gX0_begin_X0_begin rfl hdV_X0_begin ⟨by dsimp only [rmW]; omega, by dsimp only [rmW]; omega⟩ ⟨Nat.le_of_ble_eq_true rfl, Nat.le_of_ble_eq_true rfl⟩ hK hT hS hA hP hD rfl rfl [1, 0, 2, 3, 4] rfl (by decide) rfl hl.1 rfl (Nat.le_of_ble_eq_true rfl) dX0_begin_187) hP hD hS hA [1, 0, 2, 3, 4] [] rfl rfl (by decide) (by decide) (fun r_132 w_133 H locs hw_134 hP hD hS => ?_)
          obtain ⟨tc2_135, fbo2_136, hf_137, rfl⟩ := hw_134
          have hP : va_P D vwCl [(ak, .inr (0, [.ref ct, .ref bo, .int tc2_135])), (bo, .inl (cI, 16, .inl fbo2_136)), (ct, .inr (1, [.int cw, .int ch, .int cp, .ref aCells, .ref aPrices, .ref aFree, .ref aPlaces, .ref aHomes, .ref aManners, .ref aGone, .ref aPaid, .ref aBlinks])), (aCells, .inl (cI, 80, .inl fc)), (aPrices, .inl (cI, 6, .inl fp))] H := hP
          have hD : va_D A [(ak, .inr (0, [.ref ct, .ref bo, .int tc2_135])), (bo, .inl (cI, 16, .inl fbo2_136)), (ct, .inr (1, [.int cw, .int ch, .int cp, .ref aCells, .ref aPrices, .ref aFree, .ref aPlaces, .ref aHomes, .ref aManners, .ref aGone, .ref aPaid, .ref aBlinks])), (aCells, .inl (cI, 80, .inl fc)), (aPrices, .inl (cI, 6, .inl fp))] := hD
          refine lv_isub S.1 S.2.1 dX0_begin_190 ?_
          refine lv_topi (fun x_138 ex_138 => ?_)
          exact b_iret S.1 S.2.1 X.2.1 X.2.2.1 hP hD hS ⟨tc2_135, fbo2_136, (by first | assumption | omega | decide | (rw [show Int32.toInt 0 = 0 from rfl]; omega)), rfl⟩ dX0_begin_191
        · refine lv_tableIn (off := 211) (tgt := 254) S.1 S.2.1 dX0_begin_43 (by omega) (by omega) (by rw [hsw]; rfl) (by decide) ?_
          refine lv_iconst (v := (0)) S.1 S.2.1 dX0_begin_254 (by decide) ?_
          have lq0 : Int32.toInt (0) = 0 := by decide
          exact b_iret S.1 S.2.1 X.2.1 X.2.2.1 hP hD hS ⟨x_88, f_87, (by first | assumption | omega | decide | (rw [show Int32.toInt 0 = 0 from rfl]; omega)), rfl⟩ dX0_begin_255
        · refine lv_tableIn (off := 211) (tgt := 254) S.1 S.2.1 dX0_begin_43 (by omega) (by omega) (by rw [hsw]; rfl) (by decide) ?_
          refine lv_iconst (v := (0)) S.1 S.2.1 dX0_begin_254 (by decide) ?_
          have lq0 : Int32.toInt (0) = 0 := by decide
          exact b_iret S.1 S.2.1 X.2.1 X.2.2.1 hP hD hS ⟨x_88, f_87, (by first | assumption | omega | decide | (rw [show Int32.toInt 0 = 0 from rfl]; omega)), rfl⟩ dX0_begin_255
        · refine lv_tableIn (off := 211) (tgt := 254) S.1 S.2.1 dX0_begin_43 (by omega) (by omega) (by rw [hsw]; rfl) (by decide) ?_
          refine lv_iconst (v := (0)) S.1 S.2.1 dX0_begin_254 (by decide) ?_
          have lq0 : Int32.toInt (0) = 0 := by decide
          exact b_iret S.1 S.2.1 X.2.1 X.2.2.1 hP hD hS ⟨x_88, f_87, (by first | assumption | omega | decide | (rw [show Int32.toInt 0 = 0 from rfl]; omega)), rfl⟩ dX0_begin_255
        · refine lv_tableIn (off := 211) (tgt := 254) S.1 S.2.1 dX0_begin_43 (by omega) (by omega) (by rw [hsw]; rfl) (by decide) ?_
          refine lv_iconst (v := (0)) S.1 S.2.1 dX0_begin_254 (by decide) ?_
          have lq0 : Int32.toInt (0) = 0 := by decide
          exact b_iret S.1 S.2.1 X.2.1 X.2.2.1 hP hD hS ⟨x_88, f_87, (by first | assumption | omega | decide | (rw [show Int32.toInt 0 = 0 from rfl]; omega)), rfl⟩ dX0_begin_255
        · refine lv_tableIn (off := 211) (tgt := 254) S.1 S.2.1 dX0_begin_43 (by omega) (by omega) (by rw [hsw]; rfl) (by decide) ?_
          refine lv_iconst (v := (0)) S.1 S.2.1 dX0_begin_254 (by decide) ?_
          have lq0 : Int32.toInt (0) = 0 := by decide
          exact b_iret S.1 S.2.1 X.2.1 X.2.2.1 hP hD hS ⟨x_88, f_87, (by first | assumption | omega | decide | (rw [show Int32.toInt 0 = 0 from rfl]; omega)), rfl⟩ dX0_begin_255
        · refine lv_tableIn (off := 149) (tgt := 192) S.1 S.2.1 dX0_begin_43 (by omega) (by omega) (by rw [hsw]; rfl) (by decide) ?_
          refine lv_iload_n S.1 S.2.1 dX0_begin_192 rfl (lv_at hl 3 rfl) ?_
          exact b_iret S.1 S.2.1 X.2.1 X.2.2.1 hP hD hS ⟨x_88, f_87, (by first | assumption | omega | decide | (rw [show Int32.toInt 0 = 0 from rfl]; omega)), rfl⟩ dX0_begin_193
        · refine lv_tableIn (off := 151) (tgt := 194) S.1 S.2.1 dX0_begin_43 (by omega) (by omega) (by rw [hsw]; rfl) (by decide) ?_
          refine lv_aload_n S.1 S.2.1 dX0_begin_194 rfl (lv_at hl 1 rfl) ?_
          refine lv_bipush (v := (20)) S.1 S.2.1 dX0_begin_195 (by decide) ?_
          refine lv_iload_n S.1 S.2.1 dX0_begin_197 rfl (lv_at hl 3 rfl) ?_
          refine lv_iload S.1 S.2.1 dX0_begin_198 (lv_at hl 0 rfl) ?_
          refine b_ai (wr := []) (b_runV (q0 := 0) (ci := 0) (As := [.int 20, .int k, .int x_89]) (ih H.size ak bo ct aCells aPrices (20) k x_89 x_88 f_87 cw ch cp aFree aPlaces aHomes aManners aGone aPaid aBlinks fc fp (by first | assumption | omega | decide | (rw [show Int32.toInt 0 = 0 from rfl]; omega)) (by first | assumption | omega | decide | (rw [show Int32.toInt 0 = 0 from rfl]; omega)) (by first | assumption | omega | decide | (rw [show Int32.toInt 0 = 0 from rfl]; omega)) (by first | assumption | omega | decide | (rw [show Int32.toInt 0 = 0 from rfl]; omega)) (by first | assumption | omega | decide | (rw [show Int32.toInt 0 = 0 from rfl]; omega)) (by first | assumption | omega | decide | (rw [show Int32.toInt 0 = 0 from rfl]; omega))) S gX0_begin_X0_begin rfl hdV_X0_begin ⟨by dsimp only [rmW]; omega, by dsimp only [rmW]; omega⟩ ⟨Nat.le_of_ble_eq_true rfl, Nat.le_of_ble_eq_true rfl⟩ hK hT hS hA hP hD rfl rfl [0, 1, 2, 3, 4] rfl (by decide) rfl hl.1 rfl (Nat.le_of_ble_eq_true rfl) dX0_begin_200) hP hD hS hA [0, 1, 2, 3, 4] [] rfl rfl (by decide) (by decide) (fun r_139 w_140 H locs hw_141 hP hD hS => ?_)
          obtain ⟨tc2_142, fbo2_143, hf_144, rfl⟩ := hw_141
          have hP : va_P D vwCl [(ak, .inr (0, [.ref ct, .ref bo, .int tc2_142])), (bo, .inl (cI, 16, .inl fbo2_143)), (ct, .inr (1, [.int cw, .int ch, .int cp, .ref aCells, .ref aPrices, .ref aFree, .ref aPlaces, .ref aHomes, .ref aManners, .ref aGone, .ref aPaid, .ref aBlinks])), (aCells, .inl (cI, 80, .inl fc)), (aPrices, .inl (cI, 6, .inl fp))] H := hP
          have hD : va_D A [(ak, .inr (0, [.ref ct, .ref bo, .int tc2_142])), (bo, .inl (cI, 16, .inl fbo2_143)), (ct, .inr (1, [.int cw, .int ch, .int cp, .ref aCells, .ref aPrices, .ref aFree, .ref aPlaces, .ref aHomes, .ref aManners, .ref aGone, .ref aPaid, .ref aBlinks])), (aCells, .inl (cI, 80, .inl fc)), (aPrices, .inl (cI, 6, .inl fp))] := hD
          refine lv_bipush (v := (100)) S.1 S.2.1 dX0_begin_203 (by decide) ?_
          refine lv_aload_n S.1 S.2.1 dX0_begin_205 rfl (lv_at hl 1 rfl) ?_
          refine b_get (v := .ref ct) S iX0 hK hP 0 rfl rfl 0 (by decide) (by decide +kernel) rfl dX0_begin_206 ?_
          refine lv_iload_n S.1 S.2.1 dX0_begin_209 rfl (lv_at hl 3 rfl) ?_
          refine b_ai (wr := [(ak, .inr (0, [.ref ct, .ref bo, .int tc2_142])), (bo, .inl (cI, 16, .inl fbo2_143))]) (b_runV (q0 := 2) (ci := 1) (As := [.int k]) (s_X1_priceAt l D cI cZ cC cS sq H.size ct aCells aPrices k cw ch cp aFree aPlaces aHomes aManners aGone aPaid aBlinks fc fp (by first | assumption | omega | decide | (rw [show Int32.toInt 0 = 0 from rfl]; omega)) (by first | assumption | omega | decide | (rw [show Int32.toInt 0 = 0 from rfl]; omega)) (by first | assumption | omega | decide | (rw [show Int32.toInt 0 = 0 from rfl]; omega))) S gX0_begin_X1_priceAt rfl hdV_X1_priceAt ⟨by dsimp only [rmW]; omega, by dsimp only [rmW]; omega⟩ ⟨Nat.le_of_ble_eq_true rfl, Nat.le_of_ble_eq_true rfl⟩ hK hT hS hA hP hD rfl rfl [2, 3, 4] rfl (by decide) rfl hl.1 rfl (Nat.le_of_ble_eq_true rfl) dX0_begin_210) hP hD hS hA [2, 3, 4] [0, 1] rfl rfl (by decide) (by decide) (fun r_145 w_146 H locs hw_147 hP hD hS => ?_)
          obtain rfl := hw_147
          have hP : va_P D vwCl [(ak, .inr (0, [.ref ct, .ref bo, .int tc2_142])), (bo, .inl (cI, 16, .inl fbo2_143)), (ct, .inr (1, [.int cw, .int ch, .int cp, .ref aCells, .ref aPrices, .ref aFree, .ref aPlaces, .ref aHomes, .ref aManners, .ref aGone, .ref aPaid, .ref aBlinks])), (aCells, .inl (cI, 80, .inl fc)), (aPrices, .inl (cI, 6, .inl fp))] H := hP
          have hD : va_D A [(ak, .inr (0, [.ref ct, .ref bo, .int tc2_142])), (bo, .inl (cI, 16, .inl fbo2_143)), (ct, .inr (1, [.int cw, .int ch, .int cp, .ref aCells, .ref aPrices, .ref aFree, .ref aPlaces, .ref aHomes, .ref aManners, .ref aGone, .ref aPaid, .ref aBlinks])), (aCells, .inl (cI, 80, .inl fc)), (aPrices, .inl (cI, 6, .inl fp))] := hD
          refine lv_imul S.1 S.2.1 dX0_begin_213 ?_
          refine lv_topi (fun x_148 ex_148 => ?_)
          refine lv_iadd S.1 S.2.1 dX0_begin_214 ?_
          refine lv_topi (fun x_149 ex_149 => ?_)
          exact b_iret S.1 S.2.1 X.2.1 X.2.2.1 hP hD hS ⟨tc2_142, fbo2_143, (by first | assumption | omega | decide | (rw [show Int32.toInt 0 = 0 from rfl]; omega)), rfl⟩ dX0_begin_215
        · refine lv_tableIn (off := 173) (tgt := 216) S.1 S.2.1 dX0_begin_43 (by omega) (by omega) (by rw [hsw]; rfl) (by decide) ?_
          refine lv_aload_n S.1 S.2.1 dX0_begin_216 rfl (lv_at hl 1 rfl) ?_
          refine lv_bipush (v := (20)) S.1 S.2.1 dX0_begin_217 (by decide) ?_
          refine lv_iload_n S.1 S.2.1 dX0_begin_219 rfl (lv_at hl 3 rfl) ?_
          refine lv_iload S.1 S.2.1 dX0_begin_220 (lv_at hl 0 rfl) ?_
          refine b_ai (wr := []) (b_runV (q0 := 0) (ci := 0) (As := [.int 20, .int k, .int x_89]) (ih H.size ak bo ct aCells aPrices (20) k x_89 x_88 f_87 cw ch cp aFree aPlaces aHomes aManners aGone aPaid aBlinks fc fp (by first | assumption | omega | decide | (rw [show Int32.toInt 0 = 0 from rfl]; omega)) (by first | assumption | omega | decide | (rw [show Int32.toInt 0 = 0 from rfl]; omega)) (by first | assumption | omega | decide | (rw [show Int32.toInt 0 = 0 from rfl]; omega)) (by first | assumption | omega | decide | (rw [show Int32.toInt 0 = 0 from rfl]; omega)) (by first | assumption | omega | decide | (rw [show Int32.toInt 0 = 0 from rfl]; omega)) (by first | assumption | omega | decide | (rw [show Int32.toInt 0 = 0 from rfl]; omega))) S gX0_begin_X0_begin rfl hdV_X0_begin ⟨by dsimp only [rmW]; omega, by dsimp only [rmW]; omega⟩ ⟨Nat.le_of_ble_eq_true rfl, Nat.le_of_ble_eq_true rfl⟩ hK hT hS hA hP hD rfl rfl [0, 1, 2, 3, 4] rfl (by decide) rfl hl.1 rfl (Nat.le_of_ble_eq_true rfl) dX0_begin_222) hP hD hS hA [0, 1, 2, 3, 4] [] rfl rfl (by decide) (by decide) (fun r_150 w_151 H locs hw_152 hP hD hS => ?_)
          obtain ⟨tc2_153, fbo2_154, hf_155, rfl⟩ := hw_152
          have hP : va_P D vwCl [(ak, .inr (0, [.ref ct, .ref bo, .int tc2_153])), (bo, .inl (cI, 16, .inl fbo2_154)), (ct, .inr (1, [.int cw, .int ch, .int cp, .ref aCells, .ref aPrices, .ref aFree, .ref aPlaces, .ref aHomes, .ref aManners, .ref aGone, .ref aPaid, .ref aBlinks])), (aCells, .inl (cI, 80, .inl fc)), (aPrices, .inl (cI, 6, .inl fp))] H := hP
          have hD : va_D A [(ak, .inr (0, [.ref ct, .ref bo, .int tc2_153])), (bo, .inl (cI, 16, .inl fbo2_154)), (ct, .inr (1, [.int cw, .int ch, .int cp, .ref aCells, .ref aPrices, .ref aFree, .ref aPlaces, .ref aHomes, .ref aManners, .ref aGone, .ref aPaid, .ref aBlinks])), (aCells, .inl (cI, 80, .inl fc)), (aPrices, .inl (cI, 6, .inl fp))] := hD
          refine lv_aload_n S.1 S.2.1 dX0_begin_225 rfl (lv_at hl 1 rfl) ?_
          refine lv_aload_n S.1 S.2.1 dX0_begin_226 rfl (lv_at hl 1 rfl) ?_
          refine lv_iload_n S.1 S.2.1 dX0_begin_227 rfl (lv_at hl 3 rfl) ?_
          refine lv_iconst (v := (0)) S.1 S.2.1 dX0_begin_228 (by decide) ?_
          refine b_ai (wr := [(bo, .inl (cI, 16, .inl fbo2_154))]) (b_runV (q0 := 0) (ci := 0) (As := [.int k, .int 0]) (s_X0_firstBody l D cI cZ cC cS sq H.size ak ct aCells aPrices k (0) bo tc2_153 cw ch cp aFree aPlaces aHomes aManners aGone aPaid aBlinks fc fp (by first | assumption | omega | decide | (rw [show Int32.toInt 0 = 0 from rfl]; omega)) (by first | assumption | omega | decide | (rw [show Int32.toInt 0 = 0 from rfl]; omega)) (by first | assumption | omega | decide | (rw [show Int32.toInt 0 = 0 from rfl]; omega))) S gX0_begin_X0_firstBody rfl hdV_X0_firstBody ⟨by dsimp only [rmW]; omega, by dsimp only [rmW]; omega⟩ ⟨Nat.le_of_ble_eq_true rfl, Nat.le_of_ble_eq_true rfl⟩ hK hT hS hA hP hD rfl rfl [0, 2, 3, 4] rfl (by decide) rfl hl.1 rfl (Nat.le_of_ble_eq_true rfl) dX0_begin_229) hP hD hS hA [0, 2, 3, 4] [1] rfl rfl (by decide) (by decide) (fun r_156 w_157 H locs hw_158 hP hD hS => ?_)
          obtain rfl := hw_158
          have hP : va_P D vwCl [(bo, .inl (cI, 16, .inl fbo2_154)), (ak, .inr (0, [.ref ct, .ref bo, .int tc2_153])), (ct, .inr (1, [.int cw, .int ch, .int cp, .ref aCells, .ref aPrices, .ref aFree, .ref aPlaces, .ref aHomes, .ref aManners, .ref aGone, .ref aPaid, .ref aBlinks])), (aCells, .inl (cI, 80, .inl fc)), (aPrices, .inl (cI, 6, .inl fp))] H := hP
          have hD : va_D A [(bo, .inl (cI, 16, .inl fbo2_154)), (ak, .inr (0, [.ref ct, .ref bo, .int tc2_153])), (ct, .inr (1, [.int cw, .int ch, .int cp, .ref aCells, .ref aPrices, .ref aFree, .ref aPlaces, .ref aHomes, .ref aManners, .ref aGone, .ref aPaid, .ref aBlinks])), (aCells, .inl (cI, 80, .inl fc)), (aPrices, .inl (cI, 6, .inl fp))] := hD
          refine lv_iload_n S.1 S.2.1 dX0_begin_232 rfl (lv_at hl 3 rfl) ?_
          refine lv_iload S.1 S.2.1 dX0_begin_233 (lv_at hl 0 rfl) ?_
          refine b_ai (wr := []) (b_runV (q0 := 1) (ci := 0) (As := [.int r_156, .int k, .int x_89]) (ih H.size ak bo ct aCells aPrices r_156 k x_89 tc2_153 fbo2_154 cw ch cp aFree aPlaces aHomes aManners aGone aPaid aBlinks fc fp (by first | assumption | omega | decide | (rw [show Int32.toInt 0 = 0 from rfl]; omega)) (by first | assumption | omega | decide | (rw [show Int32.toInt 0 = 0 from rfl]; omega)) (by first | assumption | omega | decide | (rw [show Int32.toInt 0 = 0 from rfl]; omega)) (by first | assumption | omega | decide | (rw [show Int32.toInt 0 = 0 from rfl]; omega)) (by first | assumption | omega | decide | (rw [show Int32.toInt 0 = 0 from rfl]; omega)) (by first | assumption | omega | decide | (rw [show Int32.toInt 0 = 0 from rfl]; omega))) S gX0_begin_X0_begin rfl hdV_X0_begin ⟨by dsimp only [rmW]; omega, by dsimp only [rmW]; omega⟩ ⟨Nat.le_of_ble_eq_true rfl, Nat.le_of_ble_eq_true rfl⟩ hK hT hS hA hP hD rfl rfl [1, 0, 2, 3, 4] rfl (by decide) rfl hl.1 rfl (Nat.le_of_ble_eq_true rfl) dX0_begin_235) hP hD hS hA [1, 0, 2, 3, 4] [] rfl rfl (by decide) (by decide) (fun r_159 w_160 H locs hw_161 hP hD hS => ?_)
          obtain ⟨tc2_162, fbo2_163, hf_164, rfl⟩ := hw_161
          have hP : va_P D vwCl [(ak, .inr (0, [.ref ct, .ref bo, .int tc2_162])), (bo, .inl (cI, 16, .inl fbo2_163)), (ct, .inr (1, [.int cw, .int ch, .int cp, .ref aCells, .ref aPrices, .ref aFree, .ref aPlaces, .ref aHomes, .ref aManners, .ref aGone, .ref aPaid, .ref aBlinks])), (aCells, .inl (cI, 80, .inl fc)), (aPrices, .inl (cI, 6, .inl fp))] H := hP
          have hD : va_D A [(ak, .inr (0, [.ref ct, .ref bo, .int tc2_162])), (bo, .inl (cI, 16, .inl fbo2_163)), (ct, .inr (1, [.int cw, .int ch, .int cp, .ref aCells, .ref aPrices, .ref aFree, .ref aPlaces, .ref aHomes, .ref aManners, .ref aGone, .ref aPaid, .ref aBlinks])), (aCells, .inl (cI, 80, .inl fc)), (aPrices, .inl (cI, 6, .inl fp))] := hD
          refine lv_iadd S.1 S.2.1 dX0_begin_238 ?_
          refine lv_topi (fun x_165 ex_165 => ?_)
          exact b_iret S.1 S.2.1 X.2.1 X.2.2.1 hP hD hS ⟨tc2_162, fbo2_163, (by first | assumption | omega | decide | (rw [show Int32.toInt 0 = 0 from rfl]; omega)), rfl⟩ dX0_begin_239
        · refine lv_tableIn (off := 197) (tgt := 240) S.1 S.2.1 dX0_begin_43 (by omega) (by omega) (by rw [hsw]; rfl) (by decide) ?_
          refine lv_aload_n S.1 S.2.1 dX0_begin_240 rfl (lv_at hl 1 rfl) ?_
          refine lv_bipush (v := (21)) S.1 S.2.1 dX0_begin_241 (by decide) ?_
          refine lv_iload_n S.1 S.2.1 dX0_begin_243 rfl (lv_at hl 3 rfl) ?_
          refine lv_iload S.1 S.2.1 dX0_begin_244 (lv_at hl 0 rfl) ?_
          refine b_ai (wr := []) (b_runV (q0 := 0) (ci := 0) (As := [.int 21, .int k, .int x_89]) (ih H.size ak bo ct aCells aPrices (21) k x_89 x_88 f_87 cw ch cp aFree aPlaces aHomes aManners aGone aPaid aBlinks fc fp (by first | assumption | omega | decide | (rw [show Int32.toInt 0 = 0 from rfl]; omega)) (by first | assumption | omega | decide | (rw [show Int32.toInt 0 = 0 from rfl]; omega)) (by first | assumption | omega | decide | (rw [show Int32.toInt 0 = 0 from rfl]; omega)) (by first | assumption | omega | decide | (rw [show Int32.toInt 0 = 0 from rfl]; omega)) (by first | assumption | omega | decide | (rw [show Int32.toInt 0 = 0 from rfl]; omega)) (by first | assumption | omega | decide | (rw [show Int32.toInt 0 = 0 from rfl]; omega))) S gX0_begin_X0_begin rfl hdV_X0_begin ⟨by dsimp only [rmW]; omega, by dsimp only [rmW]; omega⟩ ⟨Nat.le_of_ble_eq_true rfl, Nat.le_of_ble_eq_true rfl⟩ hK hT hS hA hP hD rfl rfl [0, 1, 2, 3, 4] rfl (by decide) rfl hl.1 rfl (Nat.le_of_ble_eq_true rfl) dX0_begin_246) hP hD hS hA [0, 1, 2, 3, 4] [] rfl rfl (by decide) (by decide) (fun r_166 w_167 H locs hw_168 hP hD hS => ?_)
          obtain ⟨tc2_169, fbo2_170, hf_171, rfl⟩ := hw_168
          have hP : va_P D vwCl [(ak, .inr (0, [.ref ct, .ref bo, .int tc2_169])), (bo, .inl (cI, 16, .inl fbo2_170)), (ct, .inr (1, [.int cw, .int ch, .int cp, .ref aCells, .ref aPrices, .ref aFree, .ref aPlaces, .ref aHomes, .ref aManners, .ref aGone, .ref aPaid, .ref aBlinks])), (aCells, .inl (cI, 80, .inl fc)), (aPrices, .inl (cI, 6, .inl fp))] H := hP
          have hD : va_D A [(ak, .inr (0, [.ref ct, .ref bo, .int tc2_169])), (bo, .inl (cI, 16, .inl fbo2_170)), (ct, .inr (1, [.int cw, .int ch, .int cp, .ref aCells, .ref aPrices, .ref aFree, .ref aPlaces, .ref aHomes, .ref aManners, .ref aGone, .ref aPaid, .ref aBlinks])), (aCells, .inl (cI, 80, .inl fc)), (aPrices, .inl (cI, 6, .inl fp))] := hD
          refine lv_sipush (v := (1000)) S.1 S.2.1 dX0_begin_249 (by decide) ?_
          refine lv_isub S.1 S.2.1 dX0_begin_252 ?_
          refine lv_topi (fun x_172 ex_172 => ?_)
          exact b_iret S.1 S.2.1 X.2.1 X.2.2.1 hP hD hS ⟨tc2_169, fbo2_170, (by first | assumption | omega | decide | (rw [show Int32.toInt 0 = 0 from rfl]; omega)), rfl⟩ dX0_begin_253
        · refine lv_tableOut (tgt := 254) S.1 S.2.1 dX0_begin_43 hsw (by decide) ?_
          refine lv_iconst (v := (0)) S.1 S.2.1 dX0_begin_254 (by decide) ?_
          have lq0 : Int32.toInt (0) = 0 := by decide
          exact b_iret S.1 S.2.1 X.2.1 X.2.2.1 hP hD hS ⟨x_88, f_87, (by first | assumption | omega | decide | (rw [show Int32.toInt 0 = 0 from rfl]; omega)), rfl⟩ dX0_begin_255
    · rw [le2 (a := dp) (b := 20) (A := dp.toInt) (B := 20) rfl rfl] at c_1
      refine lv_iconst (v := (0)) S.1 S.2.1 dX0_begin_6 (by decide) ?_
      have lq0 : Int32.toInt (0) = 0 := by decide
      exact b_iret S.1 S.2.1 X.2.1 X.2.2.1 hP hD hS ⟨tc, fbo, (by first | assumption | omega | decide | (rw [show Int32.toInt 0 = 0 from rfl]; omega)), rfl⟩ dX0_begin_7
set_option maxHeartbeats 4000000 in
set_option maxRecDepth 100000 in
theorem s_X0_answer (l : Launch) (D : va_G) (cI cZ cC cS : ClassId) (sq : Nat → Nat) (sz : Nat) (ak : Nat) (bo : Nat) (ct : Nat) (aCells : Nat) (aPrices : Nat) (k : Int32) (wa : Int32) (tc : Int32) (fbo : Nat → Int32) (cw : Int32) (ch : Int32) (cp : Int32) (aFree : Nat) (aPlaces : Nat) (aHomes : Nat) (aManners : Nat) (aGone : Nat) (aPaid : Nat) (aBlinks : Nat) (fc : Nat → Int32) (fp : Nat → Int32) (hrg_fc : rng fc 80 (-1) (8)) (hw : 0 ≤ cw.toInt ∧ cw.toInt ≤ 10) (hh : 0 ≤ ch.toInt ∧ ch.toInt ≤ 8) (hk : 0 ≤ k.toInt ∧ k.toInt < 80) : mI l yX0_answer wsX0_answer 40 1600 D (tyW cI cZ cC cS) sq [(ak, .inr (0, [.ref ct, .ref bo, .int tc])), (bo, .inl (cI, 16, .inl fbo)), (ct, .inr (1, [.int cw, .int ch, .int cp, .ref aCells, .ref aPrices, .ref aFree, .ref aPlaces, .ref aHomes, .ref aManners, .ref aGone, .ref aPaid, .ref aBlinks])), (aCells, .inl (cI, 80, .inl fc)), (aPrices, .inl (cI, 6, .inl fp))] sz [.ref ak, .int k, .int wa] (fun r w => (∃ (tc2 : Int32), ∃ (fbo2 : Nat → Int32), (0 ≤ tc2.toInt ∧ tc2.toInt ≤ 16) ∧ w = [(ak, .inr (0, [.ref ct, .ref bo, .int tc2])), (bo, .inl (cI, 16, .inl fbo2)), (ct, .inr (1, [.int cw, .int ch, .int cp, .ref aCells, .ref aPrices, .ref aFree, .ref aPlaces, .ref aHomes, .ref aManners, .ref aGone, .ref aPaid, .ref aBlinks])), (aCells, .inl (cI, 80, .inl fc)), (aPrices, .inl (cI, 6, .inl fp))])) := by
  refine b_metI (cc := cX0_answer) (maxL := 3) (ret := (some .int)) (by decide) rfl (Nat.le_of_ble_eq_true rfl) ?_
  intro p e s m below meth c ls A H X hsz hP hK hT hD hA hS hl
  have S : CallFix p m c cX0_answer 3 s ([.ref ak, .int k, .int wa] : List Value).toArray wsX0_answer RX0 := X.1
  have hl : lv_has ls 3 [(0, .ref ak), (1, .int k), (2, .int wa)] := hl
  have iX0 := jX0_answer_X0
  refine lv_aload_n S.1 S.2.1 dX0_answer_0 rfl (lv_at hl 0 rfl) ?_
  refine lv_iconst (v := (0)) S.1 S.2.1 dX0_answer_1 (by decide) ?_
  refine b_put (v := .int 0) S iX0 tyX0 tyX0_ok nmX0 hK hP hD hS 0 rfl rfl 2 (by decide) (by decide +kernel) rfl rfl rfl (Nat.le_of_ble_eq_true rfl) dX0_answer_2 (fun H locs hP hD hS => ?_)
  have hP : va_P D vwCl [(ak, .inr (0, [.ref ct, .ref bo, .int 0])), (bo, .inl (cI, 16, .inl fbo)), (ct, .inr (1, [.int cw, .int ch, .int cp, .ref aCells, .ref aPrices, .ref aFree, .ref aPlaces, .ref aHomes, .ref aManners, .ref aGone, .ref aPaid, .ref aBlinks])), (aCells, .inl (cI, 80, .inl fc)), (aPrices, .inl (cI, 6, .inl fp))] H := hP
  have hD : va_D A [(ak, .inr (0, [.ref ct, .ref bo, .int 0])), (bo, .inl (cI, 16, .inl fbo)), (ct, .inr (1, [.int cw, .int ch, .int cp, .ref aCells, .ref aPrices, .ref aFree, .ref aPlaces, .ref aHomes, .ref aManners, .ref aGone, .ref aPaid, .ref aBlinks])), (aCells, .inl (cI, 80, .inl fc)), (aPrices, .inl (cI, 6, .inl fp))] := hD
  refine lv_aload_n S.1 S.2.1 dX0_answer_5 rfl (lv_at hl 0 rfl) ?_
  refine lv_aload_n S.1 S.2.1 dX0_answer_6 rfl (lv_at hl 0 rfl) ?_
  refine lv_iload_n S.1 S.2.1 dX0_answer_7 rfl (lv_at hl 1 rfl) ?_
  refine lv_iload_n S.1 S.2.1 dX0_answer_8 rfl (lv_at hl 2 rfl) ?_
  refine b_ai (wr := [(bo, .inl (cI, 16, .inl fbo))]) (b_runV (q0 := 0) (ci := 0) (As := [.int k, .int wa]) (s_X0_firstBody l D cI cZ cC cS sq H.size ak ct aCells aPrices k wa bo (0) cw ch cp aFree aPlaces aHomes aManners aGone aPaid aBlinks fc fp (by first | assumption | omega | decide | (rw [show Int32.toInt 0 = 0 from rfl]; omega)) (by first | assumption | omega | decide | (rw [show Int32.toInt 0 = 0 from rfl]; omega)) (by first | assumption | omega | decide | (rw [show Int32.toInt 0 = 0 from rfl]; omega))) S gX0_answer_X0_firstBody rfl hdV_X0_firstBody ⟨Nat.le_of_ble_eq_true rfl, Nat.le_of_ble_eq_true rfl⟩ ⟨Nat.le_of_ble_eq_true rfl, Nat.le_of_ble_eq_true rfl⟩ hK hT hS hA hP hD rfl rfl [0, 2, 3, 4] rfl (by decide) rfl hl.1 rfl (Nat.le_of_ble_eq_true rfl) dX0_answer_9) hP hD hS hA [0, 2, 3, 4] [1] rfl rfl (by decide) (by decide) (fun r_1 w_2 H locs hw_3 hP hD hS => ?_)
  obtain rfl := hw_3
  have hP : va_P D vwCl [(bo, .inl (cI, 16, .inl fbo)), (ak, .inr (0, [.ref ct, .ref bo, .int 0])), (ct, .inr (1, [.int cw, .int ch, .int cp, .ref aCells, .ref aPrices, .ref aFree, .ref aPlaces, .ref aHomes, .ref aManners, .ref aGone, .ref aPaid, .ref aBlinks])), (aCells, .inl (cI, 80, .inl fc)), (aPrices, .inl (cI, 6, .inl fp))] H := hP
  have hD : va_D A [(bo, .inl (cI, 16, .inl fbo)), (ak, .inr (0, [.ref ct, .ref bo, .int 0])), (ct, .inr (1, [.int cw, .int ch, .int cp, .ref aCells, .ref aPrices, .ref aFree, .ref aPlaces, .ref aHomes, .ref aManners, .ref aGone, .ref aPaid, .ref aBlinks])), (aCells, .inl (cI, 80, .inl fc)), (aPrices, .inl (cI, 6, .inl fp))] := hD
  refine lv_iload_n S.1 S.2.1 dX0_answer_12 rfl (lv_at hl 1 rfl) ?_
  refine lv_iconst (v := (0)) S.1 S.2.1 dX0_answer_13 (by decide) ?_
  refine b_ai (wr := []) (b_runV (q0 := 1) (ci := 0) (As := [.int r_1, .int k, .int 0]) (s_X0_begin l D cI cZ cC cS sq 21 H.size ak bo ct aCells aPrices r_1 k (0) (0) fbo cw ch cp aFree aPlaces aHomes aManners aGone aPaid aBlinks fc fp (by first | assumption | omega | decide | (rw [show Int32.toInt 0 = 0 from rfl]; omega)) (by first | assumption | omega | decide | (rw [show Int32.toInt 0 = 0 from rfl]; omega)) (by first | assumption | omega | decide | (rw [show Int32.toInt 0 = 0 from rfl]; omega)) (by first | assumption | omega | decide | (rw [show Int32.toInt 0 = 0 from rfl]; omega)) (by first | assumption | omega | decide | (rw [show Int32.toInt 0 = 0 from rfl]; omega)) (by first | assumption | omega | decide | (rw [show Int32.toInt 0 = 0 from rfl]; omega))) S gX0_answer_X0_begin rfl hdV_X0_begin ⟨Nat.le_of_ble_eq_true rfl, Nat.le_of_ble_eq_true rfl⟩ ⟨Nat.le_of_ble_eq_true rfl, Nat.le_of_ble_eq_true rfl⟩ hK hT hS hA hP hD rfl rfl [1, 0, 2, 3, 4] rfl (by decide) rfl hl.1 rfl (Nat.le_of_ble_eq_true rfl) dX0_answer_14) hP hD hS hA [1, 0, 2, 3, 4] [] rfl rfl (by decide) (by decide) (fun r_4 w_5 H locs hw_6 hP hD hS => ?_)
  obtain ⟨tc2_7, fbo2_8, hf_9, rfl⟩ := hw_6
  have hP : va_P D vwCl [(ak, .inr (0, [.ref ct, .ref bo, .int tc2_7])), (bo, .inl (cI, 16, .inl fbo2_8)), (ct, .inr (1, [.int cw, .int ch, .int cp, .ref aCells, .ref aPrices, .ref aFree, .ref aPlaces, .ref aHomes, .ref aManners, .ref aGone, .ref aPaid, .ref aBlinks])), (aCells, .inl (cI, 80, .inl fc)), (aPrices, .inl (cI, 6, .inl fp))] H := hP
  have hD : va_D A [(ak, .inr (0, [.ref ct, .ref bo, .int tc2_7])), (bo, .inl (cI, 16, .inl fbo2_8)), (ct, .inr (1, [.int cw, .int ch, .int cp, .ref aCells, .ref aPrices, .ref aFree, .ref aPlaces, .ref aHomes, .ref aManners, .ref aGone, .ref aPaid, .ref aBlinks])), (aCells, .inl (cI, 80, .inl fc)), (aPrices, .inl (cI, 6, .inl fp))] := hD
  exact b_iret S.1 S.2.1 X.2.1 X.2.2.1 hP hD hS ⟨tc2_7, fbo2_8, (by first | assumption | omega | decide | (rw [show Int32.toInt 0 = 0 from rfl]; omega)), rfl⟩ dX0_answer_17
set_option maxHeartbeats 4000000 in
set_option maxRecDepth 100000 in
theorem lp_fillB {p : Program} (l : Launch) {e : Env} {s : State} {m : MethodId} {below : List Frame} {meth : Method} {c : Code} (D : va_G) (cI cZ cC cS : ClassId) (sq : Nat → Nat) (fu : Nat) (mk : Nat) (tr : Nat) (tm : Nat) (wh : Nat) (wD_ : Nat) (wL : Nat) (wQ : Nat) (wE : Nat) (ct : Nat) (aPlaces : Nat) (aHomes : Nat) (aManners : Nat) (aFree : Nat) (vw : Nat) (vN : Nat) (vM : Nat) (vF : Nat) (a : Int32) (b : Int32) (lw : Int32) (hg : Int32) (hv : Int32) (tt : Nat) (ft : Nat → Int32) (fx : Nat → Int32) (wt : Int32) (tl : Int32) (bd : Int32) (st : Int32) (du : Nat → Int32) (lf : Nat → Int32) (qu : Nat → Int32) (qd : Nat → Int32) (cw : Int32) (ch : Int32) (cp : Int32) (aCells : Nat) (aPrices : Nat) (aGone : Nat) (aPaid : Nat) (aBlinks : Nat) (fl : Nat → Int32) (fh : Nat → Int32) (fm : Nat → Int32) (ff : Nat → Int32) (vS : Nat) (vn : Nat → Int32) (vm : Nat → Int32) (vf : Nat → Int32) (hrg_qu : rng qu 480 (0) (479)) (hrg_fl : rng fl 6 (0) (79)) (hrg_fh : rng fh 6 (0) (79)) (hrg_vn : rng vn 640 (-1) (79)) (hrg_vm : rng vm 640 (0) (2)) (hrg_vf : rng vf 640 (0) (6)) (ha : 0 ≤ a.toInt ∧ a.toInt < 6) (hb : 0 ≤ b.toInt ∧ b.toInt < 6) (ht : 0 ≤ tl.toInt ∧ tl.toInt < 480) (hs : 0 ≤ st.toInt ∧ st.toInt < 480) (hbd : 0 ≤ bd.toInt ∧ bd.toInt ≤ 5) (hlo : 1 ≤ lw.toInt ∧ lw.toInt ≤ 20) (hhi : 1 ≤ hg.toInt ∧ hg.toInt ≤ 20) (hfu : 0 ≤ hv.toInt ∧ hv.toInt + (fu : Int) = 7) {A : Nat → Prop} (X : bX p s m meth c cX2_fillBetween 7 wsX2_fillBetween yX2_fillBetween none [.ref mk, .int a, .int b, .int lw, .int hg, .int hv]) (hK : kW D (tyW cI cZ cC cS) sq s) (hT : sT sq A s s.heap) (hA : ∀ q, s.heap.size ≤ q → A q) (K : ∀ (i : Int32) (fx : Nat → Int32), (rng qu 480 (0) (479)) → (rng fl 6 (0) (79)) → (rng fh 6 (0) (79)) → (rng vn 640 (-1) (79)) → (rng vm 640 (0) (2)) → (rng vf 640 (0) (6)) → (lw.toInt < i.toInt ∧ i.toInt ≤ 21) → ∀ (H : Heap) (locs : List Loc) (ls : Array Slot), va_P D vwCl [(mk, .inr (2, [.ref ct, .ref wh, .ref tr, .ref tm, .ref tt])), (tr, .inl (cI, 6, .inl ft)), (tm, .inl (cI, 21, .inl fx)), (wh, .inr (7, [.ref ct, .ref vw, .ref tr, .ref wD_, .ref wL, .ref wQ, .ref wE, .int wt, .int tl, .int bd, .int st])), (wD_, .inl (cI, 7, .inl du)), (wL, .inl (cI, 480, .inl lf)), (wQ, .inl (cI, 480, .inl qu)), (wE, .inl (cI, 480, .inl qd)), (ct, .inr (1, [.int cw, .int ch, .int cp, .ref aCells, .ref aPrices, .ref aFree, .ref aPlaces, .ref aHomes, .ref aManners, .ref aGone, .ref aPaid, .ref aBlinks])), (aPlaces, .inl (cI, 6, .inl fl)), (aHomes, .inl (cI, 6, .inl fh)), (aManners, .inl (cI, 6, .inl fm)), (aFree, .inl (cI, 6, .inl ff)), (vw, .inr (6, [.ref vN, .ref vS, .ref vM, .ref vF])), (vN, .inl (cI, 640, .inl vn)), (vM, .inl (cI, 640, .inl vm)), (vF, .inl (cI, 640, .inl vf))] H → va_D A [(mk, .inr (2, [.ref ct, .ref wh, .ref tr, .ref tm, .ref tt])), (tr, .inl (cI, 6, .inl ft)), (tm, .inl (cI, 21, .inl fx)), (wh, .inr (7, [.ref ct, .ref vw, .ref tr, .ref wD_, .ref wL, .ref wQ, .ref wE, .int wt, .int tl, .int bd, .int st])), (wD_, .inl (cI, 7, .inl du)), (wL, .inl (cI, 480, .inl lf)), (wQ, .inl (cI, 480, .inl qu)), (wE, .inl (cI, 480, .inl qd)), (ct, .inr (1, [.int cw, .int ch, .int cp, .ref aCells, .ref aPrices, .ref aFree, .ref aPlaces, .ref aHomes, .ref aManners, .ref aGone, .ref aPaid, .ref aBlinks])), (aPlaces, .inl (cI, 6, .inl fl)), (aHomes, .inl (cI, 6, .inl fh)), (aManners, .inl (cI, 6, .inl fm)), (aFree, .inl (cI, 6, .inl ff)), (vw, .inr (6, [.ref vN, .ref vS, .ref vM, .ref vF])), (vN, .inl (cI, 640, .inl vn)), (vM, .inl (cI, 640, .inl vm)), (vF, .inl (cI, 640, .inl vf))] → va_S A s.heap H locs → lv_has ls 7 [(6, .int i), (0, .ref mk), (1, .int a), (2, .int b), (3, .int lw), (4, .int hg), (5, .int hv)] → W p l e (rmW (10 + fu) (40 * (10 + fu)) 0 0) s m ([.ref mk, .int a, .int b, .int lw, .int hg, .int hv] : List Value).toArray below meth c H locs 0 0 (MQ below (va_Qv (fun w => (∃ (ft2 : Nat → Int32), ∃ (fx2 : Nat → Int32), ∃ (wt2 : Int32), ∃ (tl2 : Int32), ∃ (bd2 : Int32), ∃ (st2 : Int32), ∃ (du2 : Nat → Int32), ∃ (lf2 : Nat → Int32), ∃ (qu2 : Nat → Int32), ∃ (qd2 : Nat → Int32), (rng qu2 480 (0) (479)) ∧ (0 ≤ tl2.toInt ∧ tl2.toInt < 480) ∧ (0 ≤ st2.toInt ∧ st2.toInt < 480) ∧ (0 ≤ bd2.toInt ∧ bd2.toInt ≤ 5) ∧ w = [(mk, .inr (2, [.ref ct, .ref wh, .ref tr, .ref tm, .ref tt])), (tr, .inl (cI, 6, .inl ft2)), (tm, .inl (cI, 21, .inl fx2)), (wh, .inr (7, [.ref ct, .ref vw, .ref tr, .ref wD_, .ref wL, .ref wQ, .ref wE, .int wt2, .int tl2, .int bd2, .int st2])), (wD_, .inl (cI, 7, .inl du2)), (wL, .inl (cI, 480, .inl lf2)), (wQ, .inl (cI, 480, .inl qu2)), (wE, .inl (cI, 480, .inl qd2)), (ct, .inr (1, [.int cw, .int ch, .int cp, .ref aCells, .ref aPrices, .ref aFree, .ref aPlaces, .ref aHomes, .ref aManners, .ref aGone, .ref aPaid, .ref aBlinks])), (aPlaces, .inl (cI, 6, .inl fl)), (aHomes, .inl (cI, 6, .inl fh)), (aManners, .inl (cI, 6, .inl fm)), (aFree, .inl (cI, 6, .inl ff)), (vw, .inr (6, [.ref vN, .ref vS, .ref vM, .ref vF])), (vN, .inl (cI, 640, .inl vn)), (vM, .inl (cI, 640, .inl vm)), (vF, .inl (cI, 640, .inl vf))])) (wD D A) A) ([.ref mk, .int a, .int b, .int lw, .int hg, .int hv] : List Value).toArray s 0 0 A) (F0 m 63 ls [])) : ∀ (mN : Nat) (i : Int32) (fx : Nat → Int32), (rng qu 480 (0) (479)) → (rng fl 6 (0) (79)) → (rng fh 6 (0) (79)) → (rng vn 640 (-1) (79)) → (rng vm 640 (0) (2)) → (rng vf 640 (0) (6)) → (lw.toInt < i.toInt ∧ i.toInt ≤ 21) → ((21 - i.toInt).toNat < mN) → ∀ (H : Heap) (locs : List Loc) (ls : Array Slot), va_P D vwCl [(mk, .inr (2, [.ref ct, .ref wh, .ref tr, .ref tm, .ref tt])), (tr, .inl (cI, 6, .inl ft)), (tm, .inl (cI, 21, .inl fx)), (wh, .inr (7, [.ref ct, .ref vw, .ref tr, .ref wD_, .ref wL, .ref wQ, .ref wE, .int wt, .int tl, .int bd, .int st])), (wD_, .inl (cI, 7, .inl du)), (wL, .inl (cI, 480, .inl lf)), (wQ, .inl (cI, 480, .inl qu)), (wE, .inl (cI, 480, .inl qd)), (ct, .inr (1, [.int cw, .int ch, .int cp, .ref aCells, .ref aPrices, .ref aFree, .ref aPlaces, .ref aHomes, .ref aManners, .ref aGone, .ref aPaid, .ref aBlinks])), (aPlaces, .inl (cI, 6, .inl fl)), (aHomes, .inl (cI, 6, .inl fh)), (aManners, .inl (cI, 6, .inl fm)), (aFree, .inl (cI, 6, .inl ff)), (vw, .inr (6, [.ref vN, .ref vS, .ref vM, .ref vF])), (vN, .inl (cI, 640, .inl vn)), (vM, .inl (cI, 640, .inl vm)), (vF, .inl (cI, 640, .inl vf))] H → va_D A [(mk, .inr (2, [.ref ct, .ref wh, .ref tr, .ref tm, .ref tt])), (tr, .inl (cI, 6, .inl ft)), (tm, .inl (cI, 21, .inl fx)), (wh, .inr (7, [.ref ct, .ref vw, .ref tr, .ref wD_, .ref wL, .ref wQ, .ref wE, .int wt, .int tl, .int bd, .int st])), (wD_, .inl (cI, 7, .inl du)), (wL, .inl (cI, 480, .inl lf)), (wQ, .inl (cI, 480, .inl qu)), (wE, .inl (cI, 480, .inl qd)), (ct, .inr (1, [.int cw, .int ch, .int cp, .ref aCells, .ref aPrices, .ref aFree, .ref aPlaces, .ref aHomes, .ref aManners, .ref aGone, .ref aPaid, .ref aBlinks])), (aPlaces, .inl (cI, 6, .inl fl)), (aHomes, .inl (cI, 6, .inl fh)), (aManners, .inl (cI, 6, .inl fm)), (aFree, .inl (cI, 6, .inl ff)), (vw, .inr (6, [.ref vN, .ref vS, .ref vM, .ref vF])), (vN, .inl (cI, 640, .inl vn)), (vM, .inl (cI, 640, .inl vm)), (vF, .inl (cI, 640, .inl vf))] → va_S A s.heap H locs → lv_has ls 7 [(6, .int i), (0, .ref mk), (1, .int a), (2, .int b), (3, .int lw), (4, .int hg), (5, .int hv)] → W p l e (rmW (10 + fu) (40 * (10 + fu)) 0 0) s m ([.ref mk, .int a, .int b, .int lw, .int hg, .int hv] : List Value).toArray below meth c H locs 0 0 (MQ below (va_Qv (fun w => (∃ (ft2 : Nat → Int32), ∃ (fx2 : Nat → Int32), ∃ (wt2 : Int32), ∃ (tl2 : Int32), ∃ (bd2 : Int32), ∃ (st2 : Int32), ∃ (du2 : Nat → Int32), ∃ (lf2 : Nat → Int32), ∃ (qu2 : Nat → Int32), ∃ (qd2 : Nat → Int32), (rng qu2 480 (0) (479)) ∧ (0 ≤ tl2.toInt ∧ tl2.toInt < 480) ∧ (0 ≤ st2.toInt ∧ st2.toInt < 480) ∧ (0 ≤ bd2.toInt ∧ bd2.toInt ≤ 5) ∧ w = [(mk, .inr (2, [.ref ct, .ref wh, .ref tr, .ref tm, .ref tt])), (tr, .inl (cI, 6, .inl ft2)), (tm, .inl (cI, 21, .inl fx2)), (wh, .inr (7, [.ref ct, .ref vw, .ref tr, .ref wD_, .ref wL, .ref wQ, .ref wE, .int wt2, .int tl2, .int bd2, .int st2])), (wD_, .inl (cI, 7, .inl du2)), (wL, .inl (cI, 480, .inl lf2)), (wQ, .inl (cI, 480, .inl qu2)), (wE, .inl (cI, 480, .inl qd2)), (ct, .inr (1, [.int cw, .int ch, .int cp, .ref aCells, .ref aPrices, .ref aFree, .ref aPlaces, .ref aHomes, .ref aManners, .ref aGone, .ref aPaid, .ref aBlinks])), (aPlaces, .inl (cI, 6, .inl fl)), (aHomes, .inl (cI, 6, .inl fh)), (aManners, .inl (cI, 6, .inl fm)), (aFree, .inl (cI, 6, .inl ff)), (vw, .inr (6, [.ref vN, .ref vS, .ref vM, .ref vF])), (vN, .inl (cI, 640, .inl vn)), (vM, .inl (cI, 640, .inl vm)), (vF, .inl (cI, 640, .inl vf))])) (wD D A) A) ([.ref mk, .int a, .int b, .int lw, .int hg, .int hv] : List Value).toArray s 0 0 A) (F0 m 37 ls []) := by
  have S : CallFix p m c cX2_fillBetween 7 s ([.ref mk, .int a, .int b, .int lw, .int hg, .int hv] : List Value).toArray wsX2_fillBetween RX2 := X.1
  have iX2 := jX2_fillBetween_X2
  intro mN
  induction mN with
  | zero => intro i fx hrg_qu hrg_fl hrg_fh hrg_vn hrg_vm hrg_vf hi hm; exact absurd hm (Nat.not_lt_zero _)
  | succ mN ih =>
    intro i fx hrg_qu hrg_fl hrg_fh hrg_vn hrg_vm hrg_vf hi hm H locs ls hP hD hS hl
    refine lv_iload S.1 S.2.1 dX2_fillBetween_37 (lv_at hl 0 rfl) ?_
    refine lv_iload S.1 S.2.1 dX2_fillBetween_39 (lv_at hl 5 rfl) ?_
    refine lv_icmp_ge (tgt := 63) S.1 S.2.1 dX2_fillBetween_41 (by decide) (fun c_101 => ?_) (fun c_101 => ?_)
    · rw [le2 (a := hg) (b := i) (A := hg.toInt) (B := i.toInt) rfl rfl] at c_101
      exact K i fx (by first | assumption | omega | decide | (rw [show Int32.toInt 0 = 0 from rfl]; omega)) (by first | assumption | omega | decide | (rw [show Int32.toInt 0 = 0 from rfl]; omega)) (by first | assumption | omega | decide | (rw [show Int32.toInt 0 = 0 from rfl]; omega)) (by first | assumption | omega | decide | (rw [show Int32.toInt 0 = 0 from rfl]; omega)) (by first | assumption | omega | decide | (rw [show Int32.toInt 0 = 0 from rfl]; omega)) (by first | assumption | omega | decide | (rw [show Int32.toInt 0 = 0 from rfl]; omega)) (by first | assumption | omega | decide | (rw [show Int32.toInt 0 = 0 from rfl]; omega)) H _ ls hP hD hS (lv_sub hl [0, 1, 2, 3, 4, 5, 6] rfl)
    · rw [le2 (a := hg) (b := i) (A := hg.toInt) (B := i.toInt) rfl rfl] at c_101
      refine lv_aload_n S.1 S.2.1 dX2_fillBetween_44 rfl (lv_at hl 1 rfl) ?_
      refine b_get (v := .ref tm) S iX2 hK hP 0 rfl rfl 3 (by decide) (by decide +kernel) rfl dX2_fillBetween_45 ?_
      refine lv_iload S.1 S.2.1 dX2_fillBetween_48 (lv_at hl 0 rfl) ?_
      refine lv_aload_n S.1 S.2.1 dX2_fillBetween_50 rfl (lv_at hl 1 rfl) ?_
      refine b_get (v := .ref tm) S iX2 hK hP 0 rfl rfl 3 (by decide) (by decide +kernel) rfl dX2_fillBetween_51 ?_
      refine lv_iload_n S.1 S.2.1 dX2_fillBetween_54 rfl (lv_at hl 4 rfl) ?_
      have hin_102 : vp_in lw 21 := (in_of (n := 21) (by omega) (by omega))
      refine va_iald S.1 S.2.1 hK.1 hP 2 0 rfl rfl hin_102 dX2_fillBetween_55 ?_
      refine lv_topi (fun x_103 ex_103 => ?_)
      refine va_iast S.1 S.2.1 hK.1 hP hD hS 2 0 rfl rfl (in_of (n := 21) (by omega) (by omega)) dX2_fillBetween_56 (fun H locs hP hD hS => ?_)
      obtain ⟨f_104, hf_104⟩ : ∃ g, (upd fx i.toNatClampNeg (x_103)) = g := ⟨_, rfl⟩
      have hP : va_P D vwCl [(mk, .inr (2, [.ref ct, .ref wh, .ref tr, .ref tm, .ref tt])), (tr, .inl (cI, 6, .inl ft)), (tm, .inl (cI, 21, .inl (upd fx i.toNatClampNeg (x_103)))), (wh, .inr (7, [.ref ct, .ref vw, .ref tr, .ref wD_, .ref wL, .ref wQ, .ref wE, .int wt, .int tl, .int bd, .int st])), (wD_, .inl (cI, 7, .inl du)), (wL, .inl (cI, 480, .inl lf)), (wQ, .inl (cI, 480, .inl qu)), (wE, .inl (cI, 480, .inl qd)), (ct, .inr (1, [.int cw, .int ch, .int cp, .ref aCells, .ref aPrices, .ref aFree, .ref aPlaces, .ref aHomes, .ref aManners, .ref aGone, .ref aPaid, .ref aBlinks])), (aPlaces, .inl (cI, 6, .inl fl)), (aHomes, .inl (cI, 6, .inl fh)), (aManners, .inl (cI, 6, .inl fm)), (aFree, .inl (cI, 6, .inl ff)), (vw, .inr (6, [.ref vN, .ref vS, .ref vM, .ref vF])), (vN, .inl (cI, 640, .inl vn)), (vM, .inl (cI, 640, .inl vm)), (vF, .inl (cI, 640, .inl vf))] H := hP
      have hD : va_D A [(mk, .inr (2, [.ref ct, .ref wh, .ref tr, .ref tm, .ref tt])), (tr, .inl (cI, 6, .inl ft)), (tm, .inl (cI, 21, .inl (upd fx i.toNatClampNeg (x_103)))), (wh, .inr (7, [.ref ct, .ref vw, .ref tr, .ref wD_, .ref wL, .ref wQ, .ref wE, .int wt, .int tl, .int bd, .int st])), (wD_, .inl (cI, 7, .inl du)), (wL, .inl (cI, 480, .inl lf)), (wQ, .inl (cI, 480, .inl qu)), (wE, .inl (cI, 480, .inl qd)), (ct, .inr (1, [.int cw, .int ch, .int cp, .ref aCells, .ref aPrices, .ref aFree, .ref aPlaces, .ref aHomes, .ref aManners, .ref aGone, .ref aPaid, .ref aBlinks])), (aPlaces, .inl (cI, 6, .inl fl)), (aHomes, .inl (cI, 6, .inl fh)), (aManners, .inl (cI, 6, .inl fm)), (aFree, .inl (cI, 6, .inl ff)), (vw, .inr (6, [.ref vN, .ref vS, .ref vM, .ref vF])), (vN, .inl (cI, 640, .inl vn)), (vM, .inl (cI, 640, .inl vm)), (vF, .inl (cI, 640, .inl vf))] := hD
      rw [hf_104] at hP hD
      obtain ⟨x_105, ex_105⟩ : ∃ y : Int32, y = i + Int32.ofInt (1) := ⟨_, rfl⟩
      refine lv_iinc (v := x_105) (lv' := [(6, .int x_105), (0, .ref mk), (1, .int a), (2, .int b), (3, .int lw), (4, .int hg), (5, .int hv)]) S.1 S.2.1 dX2_fillBetween_57 hl (k := 0) rfl ex_105.symm (by decide) rfl (fun ls hl => ?_)
      have tx_105 : x_105.toInt = i.toInt + (1) := addI (A := i.toInt) (B := 1) ex_105 rfl rfl (by omega) (by omega)
      refine lv_goto (tgt := 37) S.1 S.2.1 dX2_fillBetween_60 (by decide) ?_
      exact ih x_105 f_104 (by first | assumption | omega | decide | (rw [show Int32.toInt 0 = 0 from rfl]; omega)) (by first | assumption | omega | decide | (rw [show Int32.toInt 0 = 0 from rfl]; omega)) (by first | assumption | omega | decide | (rw [show Int32.toInt 0 = 0 from rfl]; omega)) (by first | assumption | omega | decide | (rw [show Int32.toInt 0 = 0 from rfl]; omega)) (by first | assumption | omega | decide | (rw [show Int32.toInt 0 = 0 from rfl]; omega)) (by first | assumption | omega | decide | (rw [show Int32.toInt 0 = 0 from rfl]; omega)) (by first | assumption | omega | decide | (rw [show Int32.toInt 0 = 0 from rfl]; omega)) (by omega) H _ ls hP hD hS (lv_sub hl [0, 1, 2, 3, 4, 5, 6] rfl)
set_option maxHeartbeats 4000000 in
set_option maxRecDepth 100000 in
theorem s_X2_fillBetween (l : Launch) (D : va_G) (cI cZ cC cS : ClassId) (sq : Nat → Nat) : ∀ (fu : Nat) (sz : Nat) (mk : Nat) (tr : Nat) (tm : Nat) (wh : Nat) (wD_ : Nat) (wL : Nat) (wQ : Nat) (wE : Nat) (ct : Nat) (aPlaces : Nat) (aHomes : Nat) (aManners : Nat) (aFree : Nat) (vw : Nat) (vN : Nat) (vM : Nat) (vF : Nat) (a : Int32) (b : Int32) (lw : Int32) (hg : Int32) (hv : Int32) (tt : Nat) (ft : Nat → Int32) (fx : Nat → Int32) (wt : Int32) (tl : Int32) (bd : Int32) (st : Int32) (du : Nat → Int32) (lf : Nat → Int32) (qu : Nat → Int32) (qd : Nat → Int32) (cw : Int32) (ch : Int32) (cp : Int32) (aCells : Nat) (aPrices : Nat) (aGone : Nat) (aPaid : Nat) (aBlinks : Nat) (fl : Nat → Int32) (fh : Nat → Int32) (fm : Nat → Int32) (ff : Nat → Int32) (vS : Nat) (vn : Nat → Int32) (vm : Nat → Int32) (vf : Nat → Int32) (hrg_qu : rng qu 480 (0) (479)) (hrg_fl : rng fl 6 (0) (79)) (hrg_fh : rng fh 6 (0) (79)) (hrg_vn : rng vn 640 (-1) (79)) (hrg_vm : rng vm 640 (0) (2)) (hrg_vf : rng vf 640 (0) (6)) (ha : 0 ≤ a.toInt ∧ a.toInt < 6) (hb : 0 ≤ b.toInt ∧ b.toInt < 6) (ht : 0 ≤ tl.toInt ∧ tl.toInt < 480) (hs : 0 ≤ st.toInt ∧ st.toInt < 480) (hbd : 0 ≤ bd.toInt ∧ bd.toInt ≤ 5) (hlo : 1 ≤ lw.toInt ∧ lw.toInt ≤ 20) (hhi : 1 ≤ hg.toInt ∧ hg.toInt ≤ 20) (hfu : 0 ≤ hv.toInt ∧ hv.toInt + (fu : Int) = 7), mV l yX2_fillBetween wsX2_fillBetween (10 + fu) (40 * (10 + fu)) 0 0 D (tyW cI cZ cC cS) sq [(mk, .inr (2, [.ref ct, .ref wh, .ref tr, .ref tm, .ref tt])), (tr, .inl (cI, 6, .inl ft)), (tm, .inl (cI, 21, .inl fx)), (wh, .inr (7, [.ref ct, .ref vw, .ref tr, .ref wD_, .ref wL, .ref wQ, .ref wE, .int wt, .int tl, .int bd, .int st])), (wD_, .inl (cI, 7, .inl du)), (wL, .inl (cI, 480, .inl lf)), (wQ, .inl (cI, 480, .inl qu)), (wE, .inl (cI, 480, .inl qd)), (ct, .inr (1, [.int cw, .int ch, .int cp, .ref aCells, .ref aPrices, .ref aFree, .ref aPlaces, .ref aHomes, .ref aManners, .ref aGone, .ref aPaid, .ref aBlinks])), (aPlaces, .inl (cI, 6, .inl fl)), (aHomes, .inl (cI, 6, .inl fh)), (aManners, .inl (cI, 6, .inl fm)), (aFree, .inl (cI, 6, .inl ff)), (vw, .inr (6, [.ref vN, .ref vS, .ref vM, .ref vF])), (vN, .inl (cI, 640, .inl vn)), (vM, .inl (cI, 640, .inl vm)), (vF, .inl (cI, 640, .inl vf))] sz [.ref mk, .int a, .int b, .int lw, .int hg, .int hv] (fun w => (∃ (ft2 : Nat → Int32), ∃ (fx2 : Nat → Int32), ∃ (wt2 : Int32), ∃ (tl2 : Int32), ∃ (bd2 : Int32), ∃ (st2 : Int32), ∃ (du2 : Nat → Int32), ∃ (lf2 : Nat → Int32), ∃ (qu2 : Nat → Int32), ∃ (qd2 : Nat → Int32), (rng qu2 480 (0) (479)) ∧ (0 ≤ tl2.toInt ∧ tl2.toInt < 480) ∧ (0 ≤ st2.toInt ∧ st2.toInt < 480) ∧ (0 ≤ bd2.toInt ∧ bd2.toInt ≤ 5) ∧ w = [(mk, .inr (2, [.ref ct, .ref wh, .ref tr, .ref tm, .ref tt])), (tr, .inl (cI, 6, .inl ft2)), (tm, .inl (cI, 21, .inl fx2)), (wh, .inr (7, [.ref ct, .ref vw, .ref tr, .ref wD_, .ref wL, .ref wQ, .ref wE, .int wt2, .int tl2, .int bd2, .int st2])), (wD_, .inl (cI, 7, .inl du2)), (wL, .inl (cI, 480, .inl lf2)), (wQ, .inl (cI, 480, .inl qu2)), (wE, .inl (cI, 480, .inl qd2)), (ct, .inr (1, [.int cw, .int ch, .int cp, .ref aCells, .ref aPrices, .ref aFree, .ref aPlaces, .ref aHomes, .ref aManners, .ref aGone, .ref aPaid, .ref aBlinks])), (aPlaces, .inl (cI, 6, .inl fl)), (aHomes, .inl (cI, 6, .inl fh)), (aManners, .inl (cI, 6, .inl fm)), (aFree, .inl (cI, 6, .inl ff)), (vw, .inr (6, [.ref vN, .ref vS, .ref vM, .ref vF])), (vN, .inl (cI, 640, .inl vn)), (vM, .inl (cI, 640, .inl vm)), (vF, .inl (cI, 640, .inl vf))])) := by
  intro fu
  induction fu with
  | zero =>
    intro sz mk tr tm wh wD_ wL wQ wE ct aPlaces aHomes aManners aFree vw vN vM vF a b lw hg hv tt ft fx wt tl bd st du lf qu qd cw ch cp aCells aPrices aGone aPaid aBlinks fl fh fm ff vS vn vm vf hrg_qu hrg_fl hrg_fh hrg_vn hrg_vm hrg_vf ha hb ht hs hbd hlo hhi hfu
    refine b_metV (cc := cX2_fillBetween) (maxL := 7) (ret := none) (by decide) rfl (Nat.le_of_ble_eq_true rfl) ?_
    intro p e s m below meth c ls A H X hsz hP hK hT hD hA hS hl
    have S : CallFix p m c cX2_fillBetween 7 s ([.ref mk, .int a, .int b, .int lw, .int hg, .int hv] : List Value).toArray wsX2_fillBetween RX2 := X.1
    have hl : lv_has ls 7 [(0, .ref mk), (1, .int a), (2, .int b), (3, .int lw), (4, .int hg), (5, .int hv)] := hl
    refine lv_iload S.1 S.2.1 dX2_fillBetween_0 (lv_at hl 4 rfl) ?_
    refine lv_iload_n S.1 S.2.1 dX2_fillBetween_2 rfl (lv_at hl 3 rfl) ?_
    refine lv_isub S.1 S.2.1 dX2_fillBetween_3 ?_
    refine lv_topi (fun x_1 ex_1 => ?_)
    have tx_1 : x_1.toInt = hg.toInt - (lw.toInt) := subI (A := hg.toInt) (B := lw.toInt) ex_1 rfl rfl (by omega) (by omega)
    refine lv_iconst (v := (2)) S.1 S.2.1 dX2_fillBetween_4 (by decide) ?_
    refine lv_icmp_lt (tgt := 15) S.1 S.2.1 dX2_fillBetween_5 (by decide) (fun c_2 => ?_) (fun c_2 => ?_)
    · rw [lt2 (a := x_1) (b := 2) (A := x_1.toInt) (B := 2) rfl rfl] at c_2
      exact b_vret S.1 S.2.1 X.2.1 X.2.2.1 hP hD hS ⟨ft, fx, wt, tl, bd, st, du, lf, qu, qd, (by first | assumption | omega | decide | (rw [show Int32.toInt 0 = 0 from rfl]; omega)), (by first | assumption | omega | decide | (rw [show Int32.toInt 0 = 0 from rfl]; omega)), (by first | assumption | omega | decide | (rw [show Int32.toInt 0 = 0 from rfl]; omega)), (by first | assumption | omega | decide | (rw [show Int32.toInt 0 = 0 from rfl]; omega)), rfl⟩ dX2_fillBetween_15
    · rw [lt2 (a := x_1) (b := 2) (A := x_1.toInt) (B := 2) rfl rfl] at c_2
      refine lv_iload S.1 S.2.1 dX2_fillBetween_8 (lv_at hl 5 rfl) ?_
      refine lv_bipush (v := (6)) S.1 S.2.1 dX2_fillBetween_10 (by decide) ?_
      refine lv_icmp_le (tgt := 16) S.1 S.2.1 dX2_fillBetween_12 (by decide) (fun c_3 => by exfalso; rw [le2 (a := hv) (b := 6) (A := hv.toInt) (B := 6) rfl rfl] at c_3; omega) (fun c_3 => ?_)
      rw [le2 (a := hv) (b := 6) (A := hv.toInt) (B := 6) rfl rfl] at c_3
      exact b_vret S.1 S.2.1 X.2.1 X.2.2.1 hP hD hS ⟨ft, fx, wt, tl, bd, st, du, lf, qu, qd, (by first | assumption | omega | decide | (rw [show Int32.toInt 0 = 0 from rfl]; omega)), (by first | assumption | omega | decide | (rw [show Int32.toInt 0 = 0 from rfl]; omega)), (by first | assumption | omega | decide | (rw [show Int32.toInt 0 = 0 from rfl]; omega)), (by first | assumption | omega | decide | (rw [show Int32.toInt 0 = 0 from rfl]; omega)), rfl⟩ dX2_fillBetween_15
  | succ fu ih =>
    intro sz mk tr tm wh wD_ wL wQ wE ct aPlaces aHomes aManners aFree vw vN vM vF a b lw hg hv tt ft fx wt tl bd st du lf qu qd cw ch cp aCells aPrices aGone aPaid aBlinks fl fh fm ff vS vn vm vf hrg_qu hrg_fl hrg_fh hrg_vn hrg_vm hrg_vf ha hb ht hs hbd hlo hhi hfu
    refine b_metV (cc := cX2_fillBetween) (maxL := 7) (ret := none) (by decide) rfl (Nat.le_of_ble_eq_true rfl) ?_
    intro p e s m below meth c ls A H X hsz hP hK hT hD hA hS hl
    have S : CallFix p m c cX2_fillBetween 7 s ([.ref mk, .int a, .int b, .int lw, .int hg, .int hv] : List Value).toArray wsX2_fillBetween RX2 := X.1
    have hl : lv_has ls 7 [(0, .ref mk), (1, .int a), (2, .int b), (3, .int lw), (4, .int hg), (5, .int hv)] := hl
    have iX2 := jX2_fillBetween_X2
    refine lv_iload S.1 S.2.1 dX2_fillBetween_0 (lv_at hl 4 rfl) ?_
    refine lv_iload_n S.1 S.2.1 dX2_fillBetween_2 rfl (lv_at hl 3 rfl) ?_
    refine lv_isub S.1 S.2.1 dX2_fillBetween_3 ?_
    refine lv_topi (fun x_1 ex_1 => ?_)
    have tx_1 : x_1.toInt = hg.toInt - (lw.toInt) := subI (A := hg.toInt) (B := lw.toInt) ex_1 rfl rfl (by omega) (by omega)
    refine lv_iconst (v := (2)) S.1 S.2.1 dX2_fillBetween_4 (by decide) ?_
    refine lv_icmp_lt (tgt := 15) S.1 S.2.1 dX2_fillBetween_5 (by decide) (fun c_2 => ?_) (fun c_2 => ?_)
    · rw [lt2 (a := x_1) (b := 2) (A := x_1.toInt) (B := 2) rfl rfl] at c_2
      exact b_vret S.1 S.2.1 X.2.1 X.2.2.1 hP hD hS ⟨ft, fx, wt, tl, bd, st, du, lf, qu, qd, (by first | assumption | omega | decide | (rw [show Int32.toInt 0 = 0 from rfl]; omega)), (by first | assumption | omega | decide | (rw [show Int32.toInt 0 = 0 from rfl]; omega)), (by first | assumption | omega | decide | (rw [show Int32.toInt 0 = 0 from rfl]; omega)), (by first | assumption | omega | decide | (rw [show Int32.toInt 0 = 0 from rfl]; omega)), rfl⟩ dX2_fillBetween_15
    · rw [lt2 (a := x_1) (b := 2) (A := x_1.toInt) (B := 2) rfl rfl] at c_2
      refine lv_iload S.1 S.2.1 dX2_fillBetween_8 (lv_at hl 5 rfl) ?_
      refine lv_bipush (v := (6)) S.1 S.2.1 dX2_fillBetween_10 (by decide) ?_
      refine lv_icmp_le (tgt := 16) S.1 S.2.1 dX2_fillBetween_12 (by decide) (fun c_3 => ?_) (fun c_3 => ?_)
      · rw [le2 (a := hv) (b := 6) (A := hv.toInt) (B := 6) rfl rfl] at c_3
        refine lv_aload_n S.1 S.2.1 dX2_fillBetween_16 rfl (lv_at hl 0 rfl) ?_
        refine b_get (v := .ref tm) S iX2 hK hP 0 rfl rfl 3 (by decide) (by decide +kernel) rfl dX2_fillBetween_17 ?_
        refine lv_iload_n S.1 S.2.1 dX2_fillBetween_20 rfl (lv_at hl 3 rfl) ?_
        have hin_4 : vp_in lw 21 := (in_of (n := 21) (by omega) (by omega))
        refine va_iald S.1 S.2.1 hK.1 hP 2 0 rfl rfl hin_4 dX2_fillBetween_21 ?_
        refine lv_topi (fun x_5 ex_5 => ?_)
        refine lv_aload_n S.1 S.2.1 dX2_fillBetween_22 rfl (lv_at hl 0 rfl) ?_
        refine b_get (v := .ref tm) S iX2 hK hP 0 rfl rfl 3 (by decide) (by decide +kernel) rfl dX2_fillBetween_23 ?_
        refine lv_iload S.1 S.2.1 dX2_fillBetween_26 (lv_at hl 4 rfl) ?_
        have hin_6 : vp_in hg 21 := (in_of (n := 21) (by omega) (by omega))
        refine va_iald S.1 S.2.1 hK.1 hP 2 0 rfl rfl hin_6 dX2_fillBetween_28 ?_
        refine lv_topi (fun x_7 ex_7 => ?_)
        refine lv_icmp_ne (tgt := 64) S.1 S.2.1 dX2_fillBetween_29 (by decide) (fun c_8 => ?_) (fun c_8 => ?_)
        · rw [eq2 (a := x_5) (b := x_7) (A := x_5.toInt) (B := x_7.toInt) rfl rfl] at c_8
          refine lv_iload_n S.1 S.2.1 dX2_fillBetween_64 rfl (lv_at hl 3 rfl) ?_
          refine lv_iload S.1 S.2.1 dX2_fillBetween_65 (lv_at hl 4 rfl) ?_
          refine lv_iadd S.1 S.2.1 dX2_fillBetween_67 ?_
          refine lv_topi (fun x_9 ex_9 => ?_)
          have tx_9 : x_9.toInt = lw.toInt + (hg.toInt) := addI (A := lw.toInt) (B := hg.toInt) ex_9 rfl rfl (by omega) (by omega)
          refine lv_iconst (v := (2)) S.1 S.2.1 dX2_fillBetween_68 (by decide) ?_
          refine lv_idiv S.1 S.2.1 dX2_fillBetween_69 (by decide) ?_
          refine lv_topi (fun x_10 ex_10 => ?_)
          have tx_10 : x_10.toInt = x_9.toInt / 2 := divI (A := x_9.toInt) (B := 2) ex_10 rfl rfl (by omega) (by decide)
          refine lv_istore (lv' := [(6, .int x_10), (0, .ref mk), (1, .int a), (2, .int b), (3, .int lw), (4, .int hg), (5, .int hv)]) S.1 S.2.1 dX2_fillBetween_70 hl (by decide) rfl (fun ls hl => ?_)
          refine lv_aload_n S.1 S.2.1 dX2_fillBetween_72 rfl (lv_at hl 1 rfl) ?_
          refine b_get (v := .ref tr) S iX2 hK hP 0 rfl rfl 2 (by decide) (by decide +kernel) rfl dX2_fillBetween_73 ?_
          refine lv_iload_n S.1 S.2.1 dX2_fillBetween_76 rfl (lv_at hl 3 rfl) ?_
          refine lv_iload S.1 S.2.1 dX2_fillBetween_77 (lv_at hl 0 rfl) ?_
          refine va_iast S.1 S.2.1 hK.1 hP hD hS 1 0 rfl rfl (in_of (n := 6) (by omega) (by omega)) dX2_fillBetween_79 (fun H locs hP hD hS => ?_)
          obtain ⟨f_11, hf_11⟩ : ∃ g, (upd ft b.toNatClampNeg (x_10)) = g := ⟨_, rfl⟩
          have hP : va_P D vwCl [(mk, .inr (2, [.ref ct, .ref wh, .ref tr, .ref tm, .ref tt])), (tr, .inl (cI, 6, .inl (upd ft b.toNatClampNeg (x_10)))), (tm, .inl (cI, 21, .inl fx)), (wh, .inr (7, [.ref ct, .ref vw, .ref tr, .ref wD_, .ref wL, .ref wQ, .ref wE, .int wt, .int tl, .int bd, .int st])), (wD_, .inl (cI, 7, .inl du)), (wL, .inl (cI, 480, .inl lf)), (wQ, .inl (cI, 480, .inl qu)), (wE, .inl (cI, 480, .inl qd)), (ct, .inr (1, [.int cw, .int ch, .int cp, .ref aCells, .ref aPrices, .ref aFree, .ref aPlaces, .ref aHomes, .ref aManners, .ref aGone, .ref aPaid, .ref aBlinks])), (aPlaces, .inl (cI, 6, .inl fl)), (aHomes, .inl (cI, 6, .inl fh)), (aManners, .inl (cI, 6, .inl fm)), (aFree, .inl (cI, 6, .inl ff)), (vw, .inr (6, [.ref vN, .ref vS, .ref vM, .ref vF])), (vN, .inl (cI, 640, .inl vn)), (vM, .inl (cI, 640, .inl vm)), (vF, .inl (cI, 640, .inl vf))] H := hP
          have hD : va_D A [(mk, .inr (2, [.ref ct, .ref wh, .ref tr, .ref tm, .ref tt])), (tr, .inl (cI, 6, .inl (upd ft b.toNatClampNeg (x_10)))), (tm, .inl (cI, 21, .inl fx)), (wh, .inr (7, [.ref ct, .ref vw, .ref tr, .ref wD_, .ref wL, .ref wQ, .ref wE, .int wt, .int tl, .int bd, .int st])), (wD_, .inl (cI, 7, .inl du)), (wL, .inl (cI, 480, .inl lf)), (wQ, .inl (cI, 480, .inl qu)), (wE, .inl (cI, 480, .inl qd)), (ct, .inr (1, [.int cw, .int ch, .int cp, .ref aCells, .ref aPrices, .ref aFree, .ref aPlaces, .ref aHomes, .ref aManners, .ref aGone, .ref aPaid, .ref aBlinks])), (aPlaces, .inl (cI, 6, .inl fl)), (aHomes, .inl (cI, 6, .inl fh)), (aManners, .inl (cI, 6, .inl fm)), (aFree, .inl (cI, 6, .inl ff)), (vw, .inr (6, [.ref vN, .ref vS, .ref vM, .ref vF])), (vN, .inl (cI, 640, .inl vn)), (vM, .inl (cI, 640, .inl vm)), (vF, .inl (cI, 640, .inl vf))] := hD
          rw [hf_11] at hP hD
          refine lv_aload_n S.1 S.2.1 dX2_fillBetween_80 rfl (lv_at hl 1 rfl) ?_
          refine b_get (v := .ref tm) S iX2 hK hP 0 rfl rfl 3 (by decide) (by decide +kernel) rfl dX2_fillBetween_81 ?_
          refine lv_iload S.1 S.2.1 dX2_fillBetween_84 (lv_at hl 0 rfl) ?_
          refine lv_aload_n S.1 S.2.1 dX2_fillBetween_86 rfl (lv_at hl 1 rfl) ?_
          refine b_get (v := .ref wh) S iX2 hK hP 0 rfl rfl 1 (by decide) (by decide +kernel) rfl dX2_fillBetween_87 ?_
          refine lv_iload_n S.1 S.2.1 dX2_fillBetween_90 rfl (lv_at hl 2 rfl) ?_
          refine lv_iload_n S.1 S.2.1 dX2_fillBetween_91 rfl (lv_at hl 3 rfl) ?_
          refine b_ai (wr := [(mk, .inr (2, [.ref ct, .ref wh, .ref tr, .ref tm, .ref tt])), (tm, .inl (cI, 21, .inl fx))]) (b_runV (q0 := 3) (ci := 7) (As := [.int a, .int b]) (s_X7_timesPaid l D cI cZ cC cS sq H.size wh wD_ wL wQ wE ct aPlaces aHomes aManners aFree tr vw vN vM vF a b wt tl bd st du lf qu qd cw ch cp aCells aPrices aGone aPaid aBlinks fl fh fm ff f_11 vS vn vm vf (by first | assumption | omega | decide | (rw [show Int32.toInt 0 = 0 from rfl]; omega)) (by first | assumption | omega | decide | (rw [show Int32.toInt 0 = 0 from rfl]; omega)) (by first | assumption | omega | decide | (rw [show Int32.toInt 0 = 0 from rfl]; omega)) (by first | assumption | omega | decide | (rw [show Int32.toInt 0 = 0 from rfl]; omega)) (by first | assumption | omega | decide | (rw [show Int32.toInt 0 = 0 from rfl]; omega)) (by first | assumption | omega | decide | (rw [show Int32.toInt 0 = 0 from rfl]; omega)) (by first | assumption | omega | decide | (rw [show Int32.toInt 0 = 0 from rfl]; omega)) (by first | assumption | omega | decide | (rw [show Int32.toInt 0 = 0 from rfl]; omega)) (by first | assumption | omega | decide | (rw [show Int32.toInt 0 = 0 from rfl]; omega)) (by first | assumption | omega | decide | (rw [show Int32.toInt 0 = 0 from rfl]; omega)) (by first | assumption | omega | decide | (rw [show Int32.toInt 0 = 0 from rfl]; omega))) S gX2_fillBetween_X7_timesPaid rfl hdV_X7_timesPaid ⟨by dsimp only [rmW]; omega, by dsimp only [rmW]; omega⟩ ⟨Nat.le_of_ble_eq_true rfl, Nat.le_of_ble_eq_true rfl⟩ hK hT hS hA hP hD rfl rfl [3, 4, 5, 6, 7, 8, 9, 10, 11, 12, 1, 13, 14, 15, 16] rfl (by decide) rfl hl.1 rfl (Nat.le_of_ble_eq_true rfl) dX2_fillBetween_92) hP hD hS hA [3, 4, 5, 6, 7, 8, 9, 10, 11, 12, 1, 13, 14, 15, 16] [0, 2] rfl rfl (by decide) (by decide) (fun r_12 w_13 H locs hw_14 hP hD hS => ?_)
          obtain ⟨wt2_15, tl2_16, bd2_17, st2_18, du2_19, lf2_20, qu2_21, qd2_22, hf_23, hf_24, hf_25, hf_26, rfl⟩ := hw_14
          have hP : va_P D vwCl [(mk, .inr (2, [.ref ct, .ref wh, .ref tr, .ref tm, .ref tt])), (tm, .inl (cI, 21, .inl fx)), (wh, .inr (7, [.ref ct, .ref vw, .ref tr, .ref wD_, .ref wL, .ref wQ, .ref wE, .int wt2_15, .int tl2_16, .int bd2_17, .int st2_18])), (wD_, .inl (cI, 7, .inl du2_19)), (wL, .inl (cI, 480, .inl lf2_20)), (wQ, .inl (cI, 480, .inl qu2_21)), (wE, .inl (cI, 480, .inl qd2_22)), (ct, .inr (1, [.int cw, .int ch, .int cp, .ref aCells, .ref aPrices, .ref aFree, .ref aPlaces, .ref aHomes, .ref aManners, .ref aGone, .ref aPaid, .ref aBlinks])), (aPlaces, .inl (cI, 6, .inl fl)), (aHomes, .inl (cI, 6, .inl fh)), (aManners, .inl (cI, 6, .inl fm)), (aFree, .inl (cI, 6, .inl ff)), (tr, .inl (cI, 6, .inl f_11)), (vw, .inr (6, [.ref vN, .ref vS, .ref vM, .ref vF])), (vN, .inl (cI, 640, .inl vn)), (vM, .inl (cI, 640, .inl vm)), (vF, .inl (cI, 640, .inl vf))] H := hP
          have hD : va_D A [(mk, .inr (2, [.ref ct, .ref wh, .ref tr, .ref tm, .ref tt])), (tm, .inl (cI, 21, .inl fx)), (wh, .inr (7, [.ref ct, .ref vw, .ref tr, .ref wD_, .ref wL, .ref wQ, .ref wE, .int wt2_15, .int tl2_16, .int bd2_17, .int st2_18])), (wD_, .inl (cI, 7, .inl du2_19)), (wL, .inl (cI, 480, .inl lf2_20)), (wQ, .inl (cI, 480, .inl qu2_21)), (wE, .inl (cI, 480, .inl qd2_22)), (ct, .inr (1, [.int cw, .int ch, .int cp, .ref aCells, .ref aPrices, .ref aFree, .ref aPlaces, .ref aHomes, .ref aManners, .ref aGone, .ref aPaid, .ref aBlinks])), (aPlaces, .inl (cI, 6, .inl fl)), (aHomes, .inl (cI, 6, .inl fh)), (aManners, .inl (cI, 6, .inl fm)), (aFree, .inl (cI, 6, .inl ff)), (tr, .inl (cI, 6, .inl f_11)), (vw, .inr (6, [.ref vN, .ref vS, .ref vM, .ref vF])), (vN, .inl (cI, 640, .inl vn)), (vM, .inl (cI, 640, .inl vm)), (vF, .inl (cI, 640, .inl vf))] := hD
          refine va_iast S.1 S.2.1 hK.1 hP hD hS 1 0 rfl rfl (in_of (n := 21) (by omega) (by omega)) dX2_fillBetween_95 (fun H locs hP hD hS => ?_)
          obtain ⟨f_27, hf_27⟩ : ∃ g, (upd fx x_10.toNatClampNeg (r_12)) = g := ⟨_, rfl⟩
          have hP : va_P D vwCl [(mk, .inr (2, [.ref ct, .ref wh, .ref tr, .ref tm, .ref tt])), (tm, .inl (cI, 21, .inl (upd fx x_10.toNatClampNeg (r_12)))), (wh, .inr (7, [.ref ct, .ref vw, .ref tr, .ref wD_, .ref wL, .ref wQ, .ref wE, .int wt2_15, .int tl2_16, .int bd2_17, .int st2_18])), (wD_, .inl (cI, 7, .inl du2_19)), (wL, .inl (cI, 480, .inl lf2_20)), (wQ, .inl (cI, 480, .inl qu2_21)), (wE, .inl (cI, 480, .inl qd2_22)), (ct, .inr (1, [.int cw, .int ch, .int cp, .ref aCells, .ref aPrices, .ref aFree, .ref aPlaces, .ref aHomes, .ref aManners, .ref aGone, .ref aPaid, .ref aBlinks])), (aPlaces, .inl (cI, 6, .inl fl)), (aHomes, .inl (cI, 6, .inl fh)), (aManners, .inl (cI, 6, .inl fm)), (aFree, .inl (cI, 6, .inl ff)), (tr, .inl (cI, 6, .inl f_11)), (vw, .inr (6, [.ref vN, .ref vS, .ref vM, .ref vF])), (vN, .inl (cI, 640, .inl vn)), (vM, .inl (cI, 640, .inl vm)), (vF, .inl (cI, 640, .inl vf))] H := hP
          have hD : va_D A [(mk, .inr (2, [.ref ct, .ref wh, .ref tr, .ref tm, .ref tt])), (tm, .inl (cI, 21, .inl (upd fx x_10.toNatClampNeg (r_12)))), (wh, .inr (7, [.ref ct, .ref vw, .ref tr, .ref wD_, .ref wL, .ref wQ, .ref wE, .int wt2_15, .int tl2_16, .int bd2_17, .int st2_18])), (wD_, .inl (cI, 7, .inl du2_19)), (wL, .inl (cI, 480, .inl lf2_20)), (wQ, .inl (cI, 480, .inl qu2_21)), (wE, .inl (cI, 480, .inl qd2_22)), (ct, .inr (1, [.int cw, .int ch, .int cp, .ref aCells, .ref aPrices, .ref aFree, .ref aPlaces, .ref aHomes, .ref aManners, .ref aGone, .ref aPaid, .ref aBlinks])), (aPlaces, .inl (cI, 6, .inl fl)), (aHomes, .inl (cI, 6, .inl fh)), (aManners, .inl (cI, 6, .inl fm)), (aFree, .inl (cI, 6, .inl ff)), (tr, .inl (cI, 6, .inl f_11)), (vw, .inr (6, [.ref vN, .ref vS, .ref vM, .ref vF])), (vN, .inl (cI, 640, .inl vn)), (vM, .inl (cI, 640, .inl vm)), (vF, .inl (cI, 640, .inl vf))] := hD
          rw [hf_27] at hP hD
          refine lv_aload_n S.1 S.2.1 dX2_fillBetween_96 rfl (lv_at hl 1 rfl) ?_
          refine lv_iload_n S.1 S.2.1 dX2_fillBetween_97 rfl (lv_at hl 2 rfl) ?_
          refine lv_iload_n S.1 S.2.1 dX2_fillBetween_98 rfl (lv_at hl 3 rfl) ?_
          refine lv_iload_n S.1 S.2.1 dX2_fillBetween_99 rfl (lv_at hl 4 rfl) ?_
          refine lv_iload S.1 S.2.1 dX2_fillBetween_100 (lv_at hl 0 rfl) ?_
          refine lv_iload S.1 S.2.1 dX2_fillBetween_102 (lv_at hl 6 rfl) ?_
          refine lv_iconst (v := (1)) S.1 S.2.1 dX2_fillBetween_104 (by decide) ?_
          refine lv_iadd S.1 S.2.1 dX2_fillBetween_105 ?_
          refine lv_topi (fun x_28 ex_28 => ?_)
          have tx_28 : x_28.toInt = hv.toInt + (1) := addI (A := hv.toInt) (B := 1) ex_28 rfl rfl (by omega) (by omega)
          refine b_av (wr := []) (b_runV (q0 := 0) (ci := 2) (As := [.int a, .int b, .int lw, .int x_10, .int x_28]) (ih H.size mk tr tm wh wD_ wL wQ wE ct aPlaces aHomes aManners aFree vw vN vM vF a b lw x_10 x_28 tt f_11 f_27 wt2_15 tl2_16 bd2_17 st2_18 du2_19 lf2_20 qu2_21 qd2_22 cw ch cp aCells aPrices aGone aPaid aBlinks fl fh fm ff vS vn vm vf (by first | assumption | omega | decide | (rw [show Int32.toInt 0 = 0 from rfl]; omega)) (by first | assumption | omega | decide | (rw [show Int32.toInt 0 = 0 from rfl]; omega)) (by first | assumption | omega | decide | (rw [show Int32.toInt 0 = 0 from rfl]; omega)) (by first | assumption | omega | decide | (rw [show Int32.toInt 0 = 0 from rfl]; omega)) (by first | assumption | omega | decide | (rw [show Int32.toInt 0 = 0 from rfl]; omega)) (by first | assumption | omega | decide | (rw [show Int32.toInt 0 = 0 from rfl]; omega)) (by first | assumption | omega | decide | (rw [show Int32.toInt 0 = 0 from rfl]; omega)) (by first | assumption | omega | decide | (rw [show Int32.toInt 0 = 0 from rfl]; omega)) (by first | assumption | omega | decide | (rw [show Int32.toInt 0 = 0 from rfl]; omega)) (by first | assumption | omega | decide | (rw [show Int32.toInt 0 = 0 from rfl]; omega)) (by first | assumption | omega | decide | (rw [show Int32.toInt 0 = 0 from rfl]; omega)) (by first | assumption | omega | decide | (rw [show Int32.toInt 0 = 0 from rfl]; omega)) (by first | assumption | omega | decide | (rw [show Int32.toInt 0 = 0 from rfl]; omega)) (by first | assumption | omega | decide | (rw [show Int32.toInt 0 = 0 from rfl]; omega))) S gX2_fillBetween_X2_fillBetween rfl hdV_X2_fillBetween ⟨by dsimp only [rmW]; omega, by dsimp only [rmW]; omega⟩ ⟨Nat.le_of_ble_eq_true rfl, Nat.le_of_ble_eq_true rfl⟩ hK hT hS hA hP hD rfl rfl [0, 12, 1, 2, 3, 4, 5, 6, 7, 8, 9, 10, 11, 13, 14, 15, 16] rfl (by decide) rfl hl.1 rfl (Nat.le_of_ble_eq_true rfl) dX2_fillBetween_106) hP hD hS hA [0, 12, 1, 2, 3, 4, 5, 6, 7, 8, 9, 10, 11, 13, 14, 15, 16] [] rfl rfl (by decide) (by decide) (fun w_30 H locs hw_31 hP hD hS => ?_)
          obtain ⟨ft2_32, fx2_33, wt2_34, tl2_35, bd2_36, st2_37, du2_38, lf2_39, qu2_40, qd2_41, hf_42, hf_43, hf_44, hf_45, rfl⟩ := hw_31
          have hP : va_P D vwCl [(mk, .inr (2, [.ref ct, .ref wh, .ref tr, .ref tm, .ref tt])), (tr, .inl (cI, 6, .inl ft2_32)), (tm, .inl (cI, 21, .inl fx2_33)), (wh, .inr (7, [.ref ct, .ref vw, .ref tr, .ref wD_, .ref wL, .ref wQ, .ref wE, .int wt2_34, .int tl2_35, .int bd2_36, .int st2_37])), (wD_, .inl (cI, 7, .inl du2_38)), (wL, .inl (cI, 480, .inl lf2_39)), (wQ, .inl (cI, 480, .inl qu2_40)), (wE, .inl (cI, 480, .inl qd2_41)), (ct, .inr (1, [.int cw, .int ch, .int cp, .ref aCells, .ref aPrices, .ref aFree, .ref aPlaces, .ref aHomes, .ref aManners, .ref aGone, .ref aPaid, .ref aBlinks])), (aPlaces, .inl (cI, 6, .inl fl)), (aHomes, .inl (cI, 6, .inl fh)), (aManners, .inl (cI, 6, .inl fm)), (aFree, .inl (cI, 6, .inl ff)), (vw, .inr (6, [.ref vN, .ref vS, .ref vM, .ref vF])), (vN, .inl (cI, 640, .inl vn)), (vM, .inl (cI, 640, .inl vm)), (vF, .inl (cI, 640, .inl vf))] H := hP
          have hD : va_D A [(mk, .inr (2, [.ref ct, .ref wh, .ref tr, .ref tm, .ref tt])), (tr, .inl (cI, 6, .inl ft2_32)), (tm, .inl (cI, 21, .inl fx2_33)), (wh, .inr (7, [.ref ct, .ref vw, .ref tr, .ref wD_, .ref wL, .ref wQ, .ref wE, .int wt2_34, .int tl2_35, .int bd2_36, .int st2_37])), (wD_, .inl (cI, 7, .inl du2_38)), (wL, .inl (cI, 480, .inl lf2_39)), (wQ, .inl (cI, 480, .inl qu2_40)), (wE, .inl (cI, 480, .inl qd2_41)), (ct, .inr (1, [.int cw, .int ch, .int cp, .ref aCells, .ref aPrices, .ref aFree, .ref aPlaces, .ref aHomes, .ref aManners, .ref aGone, .ref aPaid, .ref aBlinks])), (aPlaces, .inl (cI, 6, .inl fl)), (aHomes, .inl (cI, 6, .inl fh)), (aManners, .inl (cI, 6, .inl fm)), (aFree, .inl (cI, 6, .inl ff)), (vw, .inr (6, [.ref vN, .ref vS, .ref vM, .ref vF])), (vN, .inl (cI, 640, .inl vn)), (vM, .inl (cI, 640, .inl vm)), (vF, .inl (cI, 640, .inl vf))] := hD
          refine lv_aload_n S.1 S.2.1 dX2_fillBetween_109 rfl (lv_at hl 1 rfl) ?_
          refine lv_iload_n S.1 S.2.1 dX2_fillBetween_110 rfl (lv_at hl 2 rfl) ?_
          refine lv_iload_n S.1 S.2.1 dX2_fillBetween_111 rfl (lv_at hl 3 rfl) ?_
          refine lv_iload S.1 S.2.1 dX2_fillBetween_112 (lv_at hl 0 rfl) ?_
          refine lv_iload S.1 S.2.1 dX2_fillBetween_114 (lv_at hl 5 rfl) ?_
          refine lv_iload S.1 S.2.1 dX2_fillBetween_116 (lv_at hl 6 rfl) ?_
          refine lv_iconst (v := (1)) S.1 S.2.1 dX2_fillBetween_118 (by decide) ?_
          refine lv_iadd S.1 S.2.1 dX2_fillBetween_119 ?_
          refine lv_topi (fun x_46 ex_46 => ?_)
          have tx_46 : x_46.toInt = hv.toInt + (1) := addI (A := hv.toInt) (B := 1) ex_46 rfl rfl (by omega) (by omega)
          refine b_av (wr := []) (b_runV (q0 := 0) (ci := 2) (As := [.int a, .int b, .int x_10, .int hg, .int x_46]) (ih H.size mk tr tm wh wD_ wL wQ wE ct aPlaces aHomes aManners aFree vw vN vM vF a b x_10 hg x_46 tt ft2_32 fx2_33 wt2_34 tl2_35 bd2_36 st2_37 du2_38 lf2_39 qu2_40 qd2_41 cw ch cp aCells aPrices aGone aPaid aBlinks fl fh fm ff vS vn vm vf (by first | assumption | omega | decide | (rw [show Int32.toInt 0 = 0 from rfl]; omega)) (by first | assumption | omega | decide | (rw [show Int32.toInt 0 = 0 from rfl]; omega)) (by first | assumption | omega | decide | (rw [show Int32.toInt 0 = 0 from rfl]; omega)) (by first | assumption | omega | decide | (rw [show Int32.toInt 0 = 0 from rfl]; omega)) (by first | assumption | omega | decide | (rw [show Int32.toInt 0 = 0 from rfl]; omega)) (by first | assumption | omega | decide | (rw [show Int32.toInt 0 = 0 from rfl]; omega)) (by first | assumption | omega | decide | (rw [show Int32.toInt 0 = 0 from rfl]; omega)) (by first | assumption | omega | decide | (rw [show Int32.toInt 0 = 0 from rfl]; omega)) (by first | assumption | omega | decide | (rw [show Int32.toInt 0 = 0 from rfl]; omega)) (by first | assumption | omega | decide | (rw [show Int32.toInt 0 = 0 from rfl]; omega)) (by first | assumption | omega | decide | (rw [show Int32.toInt 0 = 0 from rfl]; omega)) (by first | assumption | omega | decide | (rw [show Int32.toInt 0 = 0 from rfl]; omega)) (by first | assumption | omega | decide | (rw [show Int32.toInt 0 = 0 from rfl]; omega)) (by first | assumption | omega | decide | (rw [show Int32.toInt 0 = 0 from rfl]; omega))) S gX2_fillBetween_X2_fillBetween rfl hdV_X2_fillBetween ⟨by dsimp only [rmW]; omega, by dsimp only [rmW]; omega⟩ ⟨Nat.le_of_ble_eq_true rfl, Nat.le_of_ble_eq_true rfl⟩ hK hT hS hA hP hD rfl rfl [0, 1, 2, 3, 4, 5, 6, 7, 8, 9, 10, 11, 12, 13, 14, 15, 16] rfl (by decide) rfl hl.1 rfl (Nat.le_of_ble_eq_true rfl) dX2_fillBetween_120) hP hD hS hA [0, 1, 2, 3, 4, 5, 6, 7, 8, 9, 10, 11, 12, 13, 14, 15, 16] [] rfl rfl (by decide) (by decide) (fun w_48 H locs hw_49 hP hD hS => ?_)
          obtain ⟨ft2_50, fx2_51, wt2_52, tl2_53, bd2_54, st2_55, du2_56, lf2_57, qu2_58, qd2_59, hf_60, hf_61, hf_62, hf_63, rfl⟩ := hw_49
          have hP : va_P D vwCl [(mk, .inr (2, [.ref ct, .ref wh, .ref tr, .ref tm, .ref tt])), (tr, .inl (cI, 6, .inl ft2_50)), (tm, .inl (cI, 21, .inl fx2_51)), (wh, .inr (7, [.ref ct, .ref vw, .ref tr, .ref wD_, .ref wL, .ref wQ, .ref wE, .int wt2_52, .int tl2_53, .int bd2_54, .int st2_55])), (wD_, .inl (cI, 7, .inl du2_56)), (wL, .inl (cI, 480, .inl lf2_57)), (wQ, .inl (cI, 480, .inl qu2_58)), (wE, .inl (cI, 480, .inl qd2_59)), (ct, .inr (1, [.int cw, .int ch, .int cp, .ref aCells, .ref aPrices, .ref aFree, .ref aPlaces, .ref aHomes, .ref aManners, .ref aGone, .ref aPaid, .ref aBlinks])), (aPlaces, .inl (cI, 6, .inl fl)), (aHomes, .inl (cI, 6, .inl fh)), (aManners, .inl (cI, 6, .inl fm)), (aFree, .inl (cI, 6, .inl ff)), (vw, .inr (6, [.ref vN, .ref vS, .ref vM, .ref vF])), (vN, .inl (cI, 640, .inl vn)), (vM, .inl (cI, 640, .inl vm)), (vF, .inl (cI, 640, .inl vf))] H := hP
          have hD : va_D A [(mk, .inr (2, [.ref ct, .ref wh, .ref tr, .ref tm, .ref tt])), (tr, .inl (cI, 6, .inl ft2_50)), (tm, .inl (cI, 21, .inl fx2_51)), (wh, .inr (7, [.ref ct, .ref vw, .ref tr, .ref wD_, .ref wL, .ref wQ, .ref wE, .int wt2_52, .int tl2_53, .int bd2_54, .int st2_55])), (wD_, .inl (cI, 7, .inl du2_56)), (wL, .inl (cI, 480, .inl lf2_57)), (wQ, .inl (cI, 480, .inl qu2_58)), (wE, .inl (cI, 480, .inl qd2_59)), (ct, .inr (1, [.int cw, .int ch, .int cp, .ref aCells, .ref aPrices, .ref aFree, .ref aPlaces, .ref aHomes, .ref aManners, .ref aGone, .ref aPaid, .ref aBlinks])), (aPlaces, .inl (cI, 6, .inl fl)), (aHomes, .inl (cI, 6, .inl fh)), (aManners, .inl (cI, 6, .inl fm)), (aFree, .inl (cI, 6, .inl ff)), (vw, .inr (6, [.ref vN, .ref vS, .ref vM, .ref vF])), (vN, .inl (cI, 640, .inl vn)), (vM, .inl (cI, 640, .inl vm)), (vF, .inl (cI, 640, .inl vf))] := hD
          exact b_vret S.1 S.2.1 X.2.1 X.2.2.1 hP hD hS ⟨ft2_50, fx2_51, wt2_52, tl2_53, bd2_54, st2_55, du2_56, lf2_57, qu2_58, qd2_59, (by first | assumption | omega | decide | (rw [show Int32.toInt 0 = 0 from rfl]; omega)), (by first | assumption | omega | decide | (rw [show Int32.toInt 0 = 0 from rfl]; omega)), (by first | assumption | omega | decide | (rw [show Int32.toInt 0 = 0 from rfl]; omega)), (by first | assumption | omega | decide | (rw [show Int32.toInt 0 = 0 from rfl]; omega)), rfl⟩ dX2_fillBetween_123
        · rw [eq2 (a := x_5) (b := x_7) (A := x_5.toInt) (B := x_7.toInt) rfl rfl] at c_8
          refine lv_iload_n S.1 S.2.1 dX2_fillBetween_32 rfl (lv_at hl 3 rfl) ?_
          refine lv_iconst (v := (1)) S.1 S.2.1 dX2_fillBetween_33 (by decide) ?_
          refine lv_iadd S.1 S.2.1 dX2_fillBetween_34 ?_
          refine lv_topi (fun x_64 ex_64 => ?_)
          have tx_64 : x_64.toInt = lw.toInt + (1) := addI (A := lw.toInt) (B := 1) ex_64 rfl rfl (by omega) (by omega)
          refine lv_istore (lv' := [(6, .int x_64), (0, .ref mk), (1, .int a), (2, .int b), (3, .int lw), (4, .int hg), (5, .int hv)]) S.1 S.2.1 dX2_fillBetween_35 hl (by decide) rfl (fun ls hl => ?_)
          refine lp_fillB l D cI cZ cC cS sq (fu + 1) mk tr tm wh wD_ wL wQ wE ct aPlaces aHomes aManners aFree vw vN vM vF a b lw hg hv tt ft fx wt tl bd st du lf qu qd cw ch cp aCells aPrices aGone aPaid aBlinks fl fh fm ff vS vn vm vf hrg_qu hrg_fl hrg_fh hrg_vn hrg_vm hrg_vf ha hb ht hs hbd hlo hhi hfu X hK hT hA (fun i_65 fx_66 hi_67 hi_68 hi_69 hi_70 hi_71 hi_72 hi_73 H locs ls hP hD hS hl => ?_) _ x_64 fx (by first | assumption | omega | decide | (rw [show Int32.toInt 0 = 0 from rfl]; omega)) (by first | assumption | omega | decide | (rw [show Int32.toInt 0 = 0 from rfl]; omega)) (by first | assumption | omega | decide | (rw [show Int32.toInt 0 = 0 from rfl]; omega)) (by first | assumption | omega | decide | (rw [show Int32.toInt 0 = 0 from rfl]; omega)) (by first | assumption | omega | decide | (rw [show Int32.toInt 0 = 0 from rfl]; omega)) (by first | assumption | omega | decide | (rw [show Int32.toInt 0 = 0 from rfl]; omega)) (by first | assumption | omega | decide | (rw [show Int32.toInt 0 = 0 from rfl]; omega)) (Nat.lt_succ_self _) H _ ls hP hD hS (lv_sub hl [0, 1, 2, 3, 4, 5, 6] rfl)
          exact b_vret S.1 S.2.1 X.2.1 X.2.2.1 hP hD hS ⟨ft, fx_66, wt, tl, bd, st, du, lf, qu, qd, (by first | assumption | omega | decide | (rw [show Int32.toInt 0 = 0 from rfl]; omega)), (by first | assumption | omega | decide | (rw [show Int32.toInt 0 = 0 from rfl]; omega)), (by first | assumption | omega | decide | (rw [show Int32.toInt 0 = 0 from rfl]; omega)), (by first | assumption | omega | decide | (rw [show Int32.toInt 0 = 0 from rfl]; omega)), rfl⟩ dX2_fillBetween_63
      · rw [le2 (a := hv) (b := 6) (A := hv.toInt) (B := 6) rfl rfl] at c_3
        exact b_vret S.1 S.2.1 X.2.1 X.2.2.1 hP hD hS ⟨ft, fx, wt, tl, bd, st, du, lf, qu, qd, (by first | assumption | omega | decide | (rw [show Int32.toInt 0 = 0 from rfl]; omega)), (by first | assumption | omega | decide | (rw [show Int32.toInt 0 = 0 from rfl]; omega)), (by first | assumption | omega | decide | (rw [show Int32.toInt 0 = 0 from rfl]; omega)), (by first | assumption | omega | decide | (rw [show Int32.toInt 0 = 0 from rfl]; omega)), rfl⟩ dX2_fillBetween_15
