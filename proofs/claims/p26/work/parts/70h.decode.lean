set_option maxRecDepth 20000 in
theorem gdL_law_0 : decode cL_law 0 = .ok (.new 7, 3) ∧ decode cL_law 3 = .ok (.dup, 1) ∧ decode cL_law 4 = .ok (.invokespecial 9, 3) ∧ decode cL_law 7 = .ok (.astore_n 1, 1) ∧ decode cL_law 8 = .ok (.new 10, 3) ∧ decode cL_law 11 = .ok (.dup, 1) ∧ decode cL_law 12 = .ok (.invokespecial 12, 3) ∧ decode cL_law 15 = .ok (.astore_n 2, 1) := by decide +kernel
theorem dL_law_0 : decode cL_law 0 = .ok (.new 7, 3) := gdL_law_0.1
theorem dL_law_3 : decode cL_law 3 = .ok (.dup, 1) := gdL_law_0.2.1
theorem dL_law_4 : decode cL_law 4 = .ok (.invokespecial 9, 3) := gdL_law_0.2.2.1
theorem dL_law_7 : decode cL_law 7 = .ok (.astore_n 1, 1) := gdL_law_0.2.2.2.1
theorem dL_law_8 : decode cL_law 8 = .ok (.new 10, 3) := gdL_law_0.2.2.2.2.1
theorem dL_law_11 : decode cL_law 11 = .ok (.dup, 1) := gdL_law_0.2.2.2.2.2.1
theorem dL_law_12 : decode cL_law 12 = .ok (.invokespecial 12, 3) := gdL_law_0.2.2.2.2.2.2.1
theorem dL_law_15 : decode cL_law 15 = .ok (.astore_n 2, 1) := gdL_law_0.2.2.2.2.2.2.2
set_option maxRecDepth 20000 in
theorem gdL_law_16 : decode cL_law 16 = .ok (.iconst 0, 1) ∧ decode cL_law 17 = .ok (.istore_n 3, 1) ∧ decode cL_law 18 = .ok (.iload_n 3, 1) ∧ decode cL_law 19 = .ok (.aload_n 0, 1) ∧ decode cL_law 20 = .ok (.arraylength, 1) ∧ decode cL_law 21 = .ok (.bipush 6, 2) ∧ decode cL_law 23 = .ok (.isub, 1) ∧ decode cL_law 24 = .ok (.if_icmp .gt 1016, 3) := by decide +kernel
theorem dL_law_16 : decode cL_law 16 = .ok (.iconst 0, 1) := gdL_law_16.1
theorem dL_law_17 : decode cL_law 17 = .ok (.istore_n 3, 1) := gdL_law_16.2.1
theorem dL_law_18 : decode cL_law 18 = .ok (.iload_n 3, 1) := gdL_law_16.2.2.1
theorem dL_law_19 : decode cL_law 19 = .ok (.aload_n 0, 1) := gdL_law_16.2.2.2.1
theorem dL_law_20 : decode cL_law 20 = .ok (.arraylength, 1) := gdL_law_16.2.2.2.2.1
theorem dL_law_21 : decode cL_law 21 = .ok (.bipush 6, 2) := gdL_law_16.2.2.2.2.2.1
theorem dL_law_23 : decode cL_law 23 = .ok (.isub, 1) := gdL_law_16.2.2.2.2.2.2.1
theorem dL_law_24 : decode cL_law 24 = .ok (.if_icmp .gt 1016, 3) := gdL_law_16.2.2.2.2.2.2.2
set_option maxRecDepth 20000 in
theorem gdL_law_27 : decode cL_law 27 = .ok (.aload_n 0, 1) ∧ decode cL_law 28 = .ok (.iload_n 3, 1) ∧ decode cL_law 29 = .ok (.iaload, 1) ∧ decode cL_law 30 = .ok (.bipush 31, 2) ∧ decode cL_law 32 = .ok (.iand, 1) ∧ decode cL_law 33 = .ok (.tableswitch 1001 0 27 #[127, 170, 213, 276, 299, 362, 375, 388, 431, 464, 497, 550, 583, 606, 629, 672, 695, 718, 751, 774, 807, 830, 853, 876, 909, 942, 965, 988], 127) ∧ decode cL_law 160 = .ok (.aload_n 1, 1) ∧ decode cL_law 161 = .ok (.aload_n 0, 1) := by decide +kernel
theorem dL_law_27 : decode cL_law 27 = .ok (.aload_n 0, 1) := gdL_law_27.1
theorem dL_law_28 : decode cL_law 28 = .ok (.iload_n 3, 1) := gdL_law_27.2.1
theorem dL_law_29 : decode cL_law 29 = .ok (.iaload, 1) := gdL_law_27.2.2.1
theorem dL_law_30 : decode cL_law 30 = .ok (.bipush 31, 2) := gdL_law_27.2.2.2.1
theorem dL_law_32 : decode cL_law 32 = .ok (.iand, 1) := gdL_law_27.2.2.2.2.1
theorem dL_law_33 : decode cL_law 33 = .ok (.tableswitch 1001 0 27 #[127, 170, 213, 276, 299, 362, 375, 388, 431, 464, 497, 550, 583, 606, 629, 672, 695, 718, 751, 774, 807, 830, 853, 876, 909, 942, 965, 988], 127) := gdL_law_27.2.2.2.2.2.1
theorem dL_law_160 : decode cL_law 160 = .ok (.aload_n 1, 1) := gdL_law_27.2.2.2.2.2.2.1
theorem dL_law_161 : decode cL_law 161 = .ok (.aload_n 0, 1) := gdL_law_27.2.2.2.2.2.2.2
set_option maxRecDepth 20000 in
theorem gdL_law_162 : decode cL_law 162 = .ok (.iload_n 3, 1) ∧ decode cL_law 163 = .ok (.iconst 1, 1) ∧ decode cL_law 164 = .ok (.iadd, 1) ∧ decode cL_law 165 = .ok (.iaload, 1) ∧ decode cL_law 166 = .ok (.aload_n 0, 1) ∧ decode cL_law 167 = .ok (.iload_n 3, 1) ∧ decode cL_law 168 = .ok (.iconst 2, 1) ∧ decode cL_law 169 = .ok (.iadd, 1) := by decide +kernel
theorem dL_law_162 : decode cL_law 162 = .ok (.iload_n 3, 1) := gdL_law_162.1
theorem dL_law_163 : decode cL_law 163 = .ok (.iconst 1, 1) := gdL_law_162.2.1
theorem dL_law_164 : decode cL_law 164 = .ok (.iadd, 1) := gdL_law_162.2.2.1
theorem dL_law_165 : decode cL_law 165 = .ok (.iaload, 1) := gdL_law_162.2.2.2.1
theorem dL_law_166 : decode cL_law 166 = .ok (.aload_n 0, 1) := gdL_law_162.2.2.2.2.1
theorem dL_law_167 : decode cL_law 167 = .ok (.iload_n 3, 1) := gdL_law_162.2.2.2.2.2.1
theorem dL_law_168 : decode cL_law 168 = .ok (.iconst 2, 1) := gdL_law_162.2.2.2.2.2.2.1
theorem dL_law_169 : decode cL_law 169 = .ok (.iadd, 1) := gdL_law_162.2.2.2.2.2.2.2
set_option maxRecDepth 20000 in
theorem gdL_law_170 : decode cL_law 170 = .ok (.iaload, 1) ∧ decode cL_law 171 = .ok (.aload_n 0, 1) ∧ decode cL_law 172 = .ok (.iload_n 3, 1) ∧ decode cL_law 173 = .ok (.iconst 3, 1) ∧ decode cL_law 174 = .ok (.iadd, 1) ∧ decode cL_law 175 = .ok (.iaload, 1) ∧ decode cL_law 176 = .ok (.invokevirtual 13, 3) ∧ decode cL_law 179 = .ok (.pop, 1) := by decide +kernel
theorem dL_law_170 : decode cL_law 170 = .ok (.iaload, 1) := gdL_law_170.1
theorem dL_law_171 : decode cL_law 171 = .ok (.aload_n 0, 1) := gdL_law_170.2.1
theorem dL_law_172 : decode cL_law 172 = .ok (.iload_n 3, 1) := gdL_law_170.2.2.1
theorem dL_law_173 : decode cL_law 173 = .ok (.iconst 3, 1) := gdL_law_170.2.2.2.1
theorem dL_law_174 : decode cL_law 174 = .ok (.iadd, 1) := gdL_law_170.2.2.2.2.1
theorem dL_law_175 : decode cL_law 175 = .ok (.iaload, 1) := gdL_law_170.2.2.2.2.2.1
theorem dL_law_176 : decode cL_law 176 = .ok (.invokevirtual 13, 3) := gdL_law_170.2.2.2.2.2.2.1
theorem dL_law_179 : decode cL_law 179 = .ok (.pop, 1) := gdL_law_170.2.2.2.2.2.2.2
set_option maxRecDepth 20000 in
theorem gdL_law_180 : decode cL_law 180 = .ok (.aload_n 2, 1) ∧ decode cL_law 181 = .ok (.aload_n 0, 1) ∧ decode cL_law 182 = .ok (.iload_n 3, 1) ∧ decode cL_law 183 = .ok (.iconst 1, 1) ∧ decode cL_law 184 = .ok (.iadd, 1) ∧ decode cL_law 185 = .ok (.iaload, 1) ∧ decode cL_law 186 = .ok (.aload_n 0, 1) ∧ decode cL_law 187 = .ok (.iload_n 3, 1) := by decide +kernel
theorem dL_law_180 : decode cL_law 180 = .ok (.aload_n 2, 1) := gdL_law_180.1
theorem dL_law_181 : decode cL_law 181 = .ok (.aload_n 0, 1) := gdL_law_180.2.1
theorem dL_law_182 : decode cL_law 182 = .ok (.iload_n 3, 1) := gdL_law_180.2.2.1
theorem dL_law_183 : decode cL_law 183 = .ok (.iconst 1, 1) := gdL_law_180.2.2.2.1
theorem dL_law_184 : decode cL_law 184 = .ok (.iadd, 1) := gdL_law_180.2.2.2.2.1
theorem dL_law_185 : decode cL_law 185 = .ok (.iaload, 1) := gdL_law_180.2.2.2.2.2.1
theorem dL_law_186 : decode cL_law 186 = .ok (.aload_n 0, 1) := gdL_law_180.2.2.2.2.2.2.1
theorem dL_law_187 : decode cL_law 187 = .ok (.iload_n 3, 1) := gdL_law_180.2.2.2.2.2.2.2
set_option maxRecDepth 20000 in
theorem gdL_law_188 : decode cL_law 188 = .ok (.iconst 2, 1) ∧ decode cL_law 189 = .ok (.iadd, 1) ∧ decode cL_law 190 = .ok (.iaload, 1) ∧ decode cL_law 191 = .ok (.aload_n 0, 1) ∧ decode cL_law 192 = .ok (.iload_n 3, 1) ∧ decode cL_law 193 = .ok (.iconst 3, 1) ∧ decode cL_law 194 = .ok (.iadd, 1) ∧ decode cL_law 195 = .ok (.iaload, 1) := by decide +kernel
theorem dL_law_188 : decode cL_law 188 = .ok (.iconst 2, 1) := gdL_law_188.1
theorem dL_law_189 : decode cL_law 189 = .ok (.iadd, 1) := gdL_law_188.2.1
theorem dL_law_190 : decode cL_law 190 = .ok (.iaload, 1) := gdL_law_188.2.2.1
theorem dL_law_191 : decode cL_law 191 = .ok (.aload_n 0, 1) := gdL_law_188.2.2.2.1
theorem dL_law_192 : decode cL_law 192 = .ok (.iload_n 3, 1) := gdL_law_188.2.2.2.2.1
theorem dL_law_193 : decode cL_law 193 = .ok (.iconst 3, 1) := gdL_law_188.2.2.2.2.2.1
theorem dL_law_194 : decode cL_law 194 = .ok (.iadd, 1) := gdL_law_188.2.2.2.2.2.2.1
theorem dL_law_195 : decode cL_law 195 = .ok (.iaload, 1) := gdL_law_188.2.2.2.2.2.2.2
set_option maxRecDepth 20000 in
theorem gdL_law_196 : decode cL_law 196 = .ok (.invokevirtual 17, 3) ∧ decode cL_law 199 = .ok (.pop, 1) ∧ decode cL_law 200 = .ok (.goto 834, 3) ∧ decode cL_law 203 = .ok (.aload_n 1, 1) ∧ decode cL_law 204 = .ok (.aload_n 0, 1) ∧ decode cL_law 205 = .ok (.iload_n 3, 1) ∧ decode cL_law 206 = .ok (.iconst 1, 1) ∧ decode cL_law 207 = .ok (.iadd, 1) := by decide +kernel
theorem dL_law_196 : decode cL_law 196 = .ok (.invokevirtual 17, 3) := gdL_law_196.1
theorem dL_law_199 : decode cL_law 199 = .ok (.pop, 1) := gdL_law_196.2.1
theorem dL_law_200 : decode cL_law 200 = .ok (.goto 834, 3) := gdL_law_196.2.2.1
theorem dL_law_203 : decode cL_law 203 = .ok (.aload_n 1, 1) := gdL_law_196.2.2.2.1
theorem dL_law_204 : decode cL_law 204 = .ok (.aload_n 0, 1) := gdL_law_196.2.2.2.2.1
theorem dL_law_205 : decode cL_law 205 = .ok (.iload_n 3, 1) := gdL_law_196.2.2.2.2.2.1
theorem dL_law_206 : decode cL_law 206 = .ok (.iconst 1, 1) := gdL_law_196.2.2.2.2.2.2.1
theorem dL_law_207 : decode cL_law 207 = .ok (.iadd, 1) := gdL_law_196.2.2.2.2.2.2.2
set_option maxRecDepth 20000 in
theorem gdL_law_208 : decode cL_law 208 = .ok (.iaload, 1) ∧ decode cL_law 209 = .ok (.aload_n 0, 1) ∧ decode cL_law 210 = .ok (.iload_n 3, 1) ∧ decode cL_law 211 = .ok (.iconst 2, 1) ∧ decode cL_law 212 = .ok (.iadd, 1) ∧ decode cL_law 213 = .ok (.iaload, 1) ∧ decode cL_law 214 = .ok (.aload_n 0, 1) ∧ decode cL_law 215 = .ok (.iload_n 3, 1) := by decide +kernel
theorem dL_law_208 : decode cL_law 208 = .ok (.iaload, 1) := gdL_law_208.1
theorem dL_law_209 : decode cL_law 209 = .ok (.aload_n 0, 1) := gdL_law_208.2.1
theorem dL_law_210 : decode cL_law 210 = .ok (.iload_n 3, 1) := gdL_law_208.2.2.1
theorem dL_law_211 : decode cL_law 211 = .ok (.iconst 2, 1) := gdL_law_208.2.2.2.1
theorem dL_law_212 : decode cL_law 212 = .ok (.iadd, 1) := gdL_law_208.2.2.2.2.1
theorem dL_law_213 : decode cL_law 213 = .ok (.iaload, 1) := gdL_law_208.2.2.2.2.2.1
theorem dL_law_214 : decode cL_law 214 = .ok (.aload_n 0, 1) := gdL_law_208.2.2.2.2.2.2.1
theorem dL_law_215 : decode cL_law 215 = .ok (.iload_n 3, 1) := gdL_law_208.2.2.2.2.2.2.2
set_option maxRecDepth 20000 in
theorem gdL_law_216 : decode cL_law 216 = .ok (.iconst 3, 1) ∧ decode cL_law 217 = .ok (.iadd, 1) ∧ decode cL_law 218 = .ok (.iaload, 1) ∧ decode cL_law 219 = .ok (.invokevirtual 18, 3) ∧ decode cL_law 222 = .ok (.pop, 1) ∧ decode cL_law 223 = .ok (.aload_n 2, 1) ∧ decode cL_law 224 = .ok (.aload_n 0, 1) ∧ decode cL_law 225 = .ok (.iload_n 3, 1) := by decide +kernel
theorem dL_law_216 : decode cL_law 216 = .ok (.iconst 3, 1) := gdL_law_216.1
theorem dL_law_217 : decode cL_law 217 = .ok (.iadd, 1) := gdL_law_216.2.1
theorem dL_law_218 : decode cL_law 218 = .ok (.iaload, 1) := gdL_law_216.2.2.1
theorem dL_law_219 : decode cL_law 219 = .ok (.invokevirtual 18, 3) := gdL_law_216.2.2.2.1
theorem dL_law_222 : decode cL_law 222 = .ok (.pop, 1) := gdL_law_216.2.2.2.2.1
theorem dL_law_223 : decode cL_law 223 = .ok (.aload_n 2, 1) := gdL_law_216.2.2.2.2.2.1
theorem dL_law_224 : decode cL_law 224 = .ok (.aload_n 0, 1) := gdL_law_216.2.2.2.2.2.2.1
theorem dL_law_225 : decode cL_law 225 = .ok (.iload_n 3, 1) := gdL_law_216.2.2.2.2.2.2.2
set_option maxRecDepth 20000 in
theorem gdL_law_226 : decode cL_law 226 = .ok (.iconst 1, 1) ∧ decode cL_law 227 = .ok (.iadd, 1) ∧ decode cL_law 228 = .ok (.iaload, 1) ∧ decode cL_law 229 = .ok (.aload_n 0, 1) ∧ decode cL_law 230 = .ok (.iload_n 3, 1) ∧ decode cL_law 231 = .ok (.iconst 2, 1) ∧ decode cL_law 232 = .ok (.iadd, 1) ∧ decode cL_law 233 = .ok (.iaload, 1) := by decide +kernel
theorem dL_law_226 : decode cL_law 226 = .ok (.iconst 1, 1) := gdL_law_226.1
theorem dL_law_227 : decode cL_law 227 = .ok (.iadd, 1) := gdL_law_226.2.1
theorem dL_law_228 : decode cL_law 228 = .ok (.iaload, 1) := gdL_law_226.2.2.1
theorem dL_law_229 : decode cL_law 229 = .ok (.aload_n 0, 1) := gdL_law_226.2.2.2.1
theorem dL_law_230 : decode cL_law 230 = .ok (.iload_n 3, 1) := gdL_law_226.2.2.2.2.1
theorem dL_law_231 : decode cL_law 231 = .ok (.iconst 2, 1) := gdL_law_226.2.2.2.2.2.1
theorem dL_law_232 : decode cL_law 232 = .ok (.iadd, 1) := gdL_law_226.2.2.2.2.2.2.1
theorem dL_law_233 : decode cL_law 233 = .ok (.iaload, 1) := gdL_law_226.2.2.2.2.2.2.2
set_option maxRecDepth 20000 in
theorem gdL_law_234 : decode cL_law 234 = .ok (.aload_n 0, 1) ∧ decode cL_law 235 = .ok (.iload_n 3, 1) ∧ decode cL_law 236 = .ok (.iconst 3, 1) ∧ decode cL_law 237 = .ok (.iadd, 1) ∧ decode cL_law 238 = .ok (.iaload, 1) ∧ decode cL_law 239 = .ok (.invokevirtual 21, 3) ∧ decode cL_law 242 = .ok (.pop, 1) ∧ decode cL_law 243 = .ok (.goto 791, 3) := by decide +kernel
theorem dL_law_234 : decode cL_law 234 = .ok (.aload_n 0, 1) := gdL_law_234.1
theorem dL_law_235 : decode cL_law 235 = .ok (.iload_n 3, 1) := gdL_law_234.2.1
theorem dL_law_236 : decode cL_law 236 = .ok (.iconst 3, 1) := gdL_law_234.2.2.1
theorem dL_law_237 : decode cL_law 237 = .ok (.iadd, 1) := gdL_law_234.2.2.2.1
theorem dL_law_238 : decode cL_law 238 = .ok (.iaload, 1) := gdL_law_234.2.2.2.2.1
theorem dL_law_239 : decode cL_law 239 = .ok (.invokevirtual 21, 3) := gdL_law_234.2.2.2.2.2.1
theorem dL_law_242 : decode cL_law 242 = .ok (.pop, 1) := gdL_law_234.2.2.2.2.2.2.1
theorem dL_law_243 : decode cL_law 243 = .ok (.goto 791, 3) := gdL_law_234.2.2.2.2.2.2.2
set_option maxRecDepth 20000 in
theorem gdL_law_246 : decode cL_law 246 = .ok (.aload_n 1, 1) ∧ decode cL_law 247 = .ok (.aload_n 0, 1) ∧ decode cL_law 248 = .ok (.iload_n 3, 1) ∧ decode cL_law 249 = .ok (.iconst 1, 1) ∧ decode cL_law 250 = .ok (.iadd, 1) ∧ decode cL_law 251 = .ok (.iaload, 1) ∧ decode cL_law 252 = .ok (.aload_n 0, 1) ∧ decode cL_law 253 = .ok (.iload_n 3, 1) := by decide +kernel
theorem dL_law_246 : decode cL_law 246 = .ok (.aload_n 1, 1) := gdL_law_246.1
theorem dL_law_247 : decode cL_law 247 = .ok (.aload_n 0, 1) := gdL_law_246.2.1
theorem dL_law_248 : decode cL_law 248 = .ok (.iload_n 3, 1) := gdL_law_246.2.2.1
theorem dL_law_249 : decode cL_law 249 = .ok (.iconst 1, 1) := gdL_law_246.2.2.2.1
theorem dL_law_250 : decode cL_law 250 = .ok (.iadd, 1) := gdL_law_246.2.2.2.2.1
theorem dL_law_251 : decode cL_law 251 = .ok (.iaload, 1) := gdL_law_246.2.2.2.2.2.1
theorem dL_law_252 : decode cL_law 252 = .ok (.aload_n 0, 1) := gdL_law_246.2.2.2.2.2.2.1
theorem dL_law_253 : decode cL_law 253 = .ok (.iload_n 3, 1) := gdL_law_246.2.2.2.2.2.2.2
set_option maxRecDepth 20000 in
theorem gdL_law_254 : decode cL_law 254 = .ok (.iconst 2, 1) ∧ decode cL_law 255 = .ok (.iadd, 1) ∧ decode cL_law 256 = .ok (.iaload, 1) ∧ decode cL_law 257 = .ok (.aload_n 0, 1) ∧ decode cL_law 258 = .ok (.iload_n 3, 1) ∧ decode cL_law 259 = .ok (.iconst 3, 1) ∧ decode cL_law 260 = .ok (.iadd, 1) ∧ decode cL_law 261 = .ok (.iaload, 1) := by decide +kernel
theorem dL_law_254 : decode cL_law 254 = .ok (.iconst 2, 1) := gdL_law_254.1
theorem dL_law_255 : decode cL_law 255 = .ok (.iadd, 1) := gdL_law_254.2.1
theorem dL_law_256 : decode cL_law 256 = .ok (.iaload, 1) := gdL_law_254.2.2.1
theorem dL_law_257 : decode cL_law 257 = .ok (.aload_n 0, 1) := gdL_law_254.2.2.2.1
theorem dL_law_258 : decode cL_law 258 = .ok (.iload_n 3, 1) := gdL_law_254.2.2.2.2.1
theorem dL_law_259 : decode cL_law 259 = .ok (.iconst 3, 1) := gdL_law_254.2.2.2.2.2.1
theorem dL_law_260 : decode cL_law 260 = .ok (.iadd, 1) := gdL_law_254.2.2.2.2.2.2.1
theorem dL_law_261 : decode cL_law 261 = .ok (.iaload, 1) := gdL_law_254.2.2.2.2.2.2.2
set_option maxRecDepth 20000 in
theorem gdL_law_262 : decode cL_law 262 = .ok (.aload_n 0, 1) ∧ decode cL_law 263 = .ok (.iload_n 3, 1) ∧ decode cL_law 264 = .ok (.iconst 4, 1) ∧ decode cL_law 265 = .ok (.iadd, 1) ∧ decode cL_law 266 = .ok (.iaload, 1) ∧ decode cL_law 267 = .ok (.aload_n 0, 1) ∧ decode cL_law 268 = .ok (.iload_n 3, 1) ∧ decode cL_law 269 = .ok (.iconst 5, 1) := by decide +kernel
theorem dL_law_262 : decode cL_law 262 = .ok (.aload_n 0, 1) := gdL_law_262.1
theorem dL_law_263 : decode cL_law 263 = .ok (.iload_n 3, 1) := gdL_law_262.2.1
theorem dL_law_264 : decode cL_law 264 = .ok (.iconst 4, 1) := gdL_law_262.2.2.1
theorem dL_law_265 : decode cL_law 265 = .ok (.iadd, 1) := gdL_law_262.2.2.2.1
theorem dL_law_266 : decode cL_law 266 = .ok (.iaload, 1) := gdL_law_262.2.2.2.2.1
theorem dL_law_267 : decode cL_law 267 = .ok (.aload_n 0, 1) := gdL_law_262.2.2.2.2.2.1
theorem dL_law_268 : decode cL_law 268 = .ok (.iload_n 3, 1) := gdL_law_262.2.2.2.2.2.2.1
theorem dL_law_269 : decode cL_law 269 = .ok (.iconst 5, 1) := gdL_law_262.2.2.2.2.2.2.2
set_option maxRecDepth 20000 in
theorem gdL_law_270 : decode cL_law 270 = .ok (.iadd, 1) ∧ decode cL_law 271 = .ok (.iaload, 1) ∧ decode cL_law 272 = .ok (.invokevirtual 22, 3) ∧ decode cL_law 275 = .ok (.pop, 1) ∧ decode cL_law 276 = .ok (.aload_n 2, 1) ∧ decode cL_law 277 = .ok (.aload_n 0, 1) ∧ decode cL_law 278 = .ok (.iload_n 3, 1) ∧ decode cL_law 279 = .ok (.iconst 1, 1) := by decide +kernel
theorem dL_law_270 : decode cL_law 270 = .ok (.iadd, 1) := gdL_law_270.1
theorem dL_law_271 : decode cL_law 271 = .ok (.iaload, 1) := gdL_law_270.2.1
theorem dL_law_272 : decode cL_law 272 = .ok (.invokevirtual 22, 3) := gdL_law_270.2.2.1
theorem dL_law_275 : decode cL_law 275 = .ok (.pop, 1) := gdL_law_270.2.2.2.1
theorem dL_law_276 : decode cL_law 276 = .ok (.aload_n 2, 1) := gdL_law_270.2.2.2.2.1
theorem dL_law_277 : decode cL_law 277 = .ok (.aload_n 0, 1) := gdL_law_270.2.2.2.2.2.1
theorem dL_law_278 : decode cL_law 278 = .ok (.iload_n 3, 1) := gdL_law_270.2.2.2.2.2.2.1
theorem dL_law_279 : decode cL_law 279 = .ok (.iconst 1, 1) := gdL_law_270.2.2.2.2.2.2.2
set_option maxRecDepth 20000 in
theorem gdL_law_280 : decode cL_law 280 = .ok (.iadd, 1) ∧ decode cL_law 281 = .ok (.iaload, 1) ∧ decode cL_law 282 = .ok (.aload_n 0, 1) ∧ decode cL_law 283 = .ok (.iload_n 3, 1) ∧ decode cL_law 284 = .ok (.iconst 2, 1) ∧ decode cL_law 285 = .ok (.iadd, 1) ∧ decode cL_law 286 = .ok (.iaload, 1) ∧ decode cL_law 287 = .ok (.aload_n 0, 1) := by decide +kernel
theorem dL_law_280 : decode cL_law 280 = .ok (.iadd, 1) := gdL_law_280.1
theorem dL_law_281 : decode cL_law 281 = .ok (.iaload, 1) := gdL_law_280.2.1
theorem dL_law_282 : decode cL_law 282 = .ok (.aload_n 0, 1) := gdL_law_280.2.2.1
theorem dL_law_283 : decode cL_law 283 = .ok (.iload_n 3, 1) := gdL_law_280.2.2.2.1
theorem dL_law_284 : decode cL_law 284 = .ok (.iconst 2, 1) := gdL_law_280.2.2.2.2.1
theorem dL_law_285 : decode cL_law 285 = .ok (.iadd, 1) := gdL_law_280.2.2.2.2.2.1
theorem dL_law_286 : decode cL_law 286 = .ok (.iaload, 1) := gdL_law_280.2.2.2.2.2.2.1
theorem dL_law_287 : decode cL_law 287 = .ok (.aload_n 0, 1) := gdL_law_280.2.2.2.2.2.2.2
set_option maxRecDepth 20000 in
theorem gdL_law_288 : decode cL_law 288 = .ok (.iload_n 3, 1) ∧ decode cL_law 289 = .ok (.iconst 3, 1) ∧ decode cL_law 290 = .ok (.iadd, 1) ∧ decode cL_law 291 = .ok (.iaload, 1) ∧ decode cL_law 292 = .ok (.aload_n 0, 1) ∧ decode cL_law 293 = .ok (.iload_n 3, 1) ∧ decode cL_law 294 = .ok (.iconst 4, 1) ∧ decode cL_law 295 = .ok (.iadd, 1) := by decide +kernel
theorem dL_law_288 : decode cL_law 288 = .ok (.iload_n 3, 1) := gdL_law_288.1
theorem dL_law_289 : decode cL_law 289 = .ok (.iconst 3, 1) := gdL_law_288.2.1
theorem dL_law_290 : decode cL_law 290 = .ok (.iadd, 1) := gdL_law_288.2.2.1
theorem dL_law_291 : decode cL_law 291 = .ok (.iaload, 1) := gdL_law_288.2.2.2.1
theorem dL_law_292 : decode cL_law 292 = .ok (.aload_n 0, 1) := gdL_law_288.2.2.2.2.1
theorem dL_law_293 : decode cL_law 293 = .ok (.iload_n 3, 1) := gdL_law_288.2.2.2.2.2.1
theorem dL_law_294 : decode cL_law 294 = .ok (.iconst 4, 1) := gdL_law_288.2.2.2.2.2.2.1
theorem dL_law_295 : decode cL_law 295 = .ok (.iadd, 1) := gdL_law_288.2.2.2.2.2.2.2
set_option maxRecDepth 20000 in
theorem gdL_law_296 : decode cL_law 296 = .ok (.iaload, 1) ∧ decode cL_law 297 = .ok (.aload_n 0, 1) ∧ decode cL_law 298 = .ok (.iload_n 3, 1) ∧ decode cL_law 299 = .ok (.iconst 5, 1) ∧ decode cL_law 300 = .ok (.iadd, 1) ∧ decode cL_law 301 = .ok (.iaload, 1) ∧ decode cL_law 302 = .ok (.invokevirtual 26, 3) ∧ decode cL_law 305 = .ok (.pop, 1) := by decide +kernel
theorem dL_law_296 : decode cL_law 296 = .ok (.iaload, 1) := gdL_law_296.1
theorem dL_law_297 : decode cL_law 297 = .ok (.aload_n 0, 1) := gdL_law_296.2.1
theorem dL_law_298 : decode cL_law 298 = .ok (.iload_n 3, 1) := gdL_law_296.2.2.1
theorem dL_law_299 : decode cL_law 299 = .ok (.iconst 5, 1) := gdL_law_296.2.2.2.1
theorem dL_law_300 : decode cL_law 300 = .ok (.iadd, 1) := gdL_law_296.2.2.2.2.1
theorem dL_law_301 : decode cL_law 301 = .ok (.iaload, 1) := gdL_law_296.2.2.2.2.2.1
theorem dL_law_302 : decode cL_law 302 = .ok (.invokevirtual 26, 3) := gdL_law_296.2.2.2.2.2.2.1
theorem dL_law_305 : decode cL_law 305 = .ok (.pop, 1) := gdL_law_296.2.2.2.2.2.2.2
set_option maxRecDepth 20000 in
theorem gdL_law_306 : decode cL_law 306 = .ok (.goto 728, 3) ∧ decode cL_law 309 = .ok (.aload_n 1, 1) ∧ decode cL_law 310 = .ok (.aload_n 0, 1) ∧ decode cL_law 311 = .ok (.iload_n 3, 1) ∧ decode cL_law 312 = .ok (.iconst 1, 1) ∧ decode cL_law 313 = .ok (.iadd, 1) ∧ decode cL_law 314 = .ok (.iaload, 1) ∧ decode cL_law 315 = .ok (.invokevirtual 27, 3) := by decide +kernel
theorem dL_law_306 : decode cL_law 306 = .ok (.goto 728, 3) := gdL_law_306.1
theorem dL_law_309 : decode cL_law 309 = .ok (.aload_n 1, 1) := gdL_law_306.2.1
theorem dL_law_310 : decode cL_law 310 = .ok (.aload_n 0, 1) := gdL_law_306.2.2.1
theorem dL_law_311 : decode cL_law 311 = .ok (.iload_n 3, 1) := gdL_law_306.2.2.2.1
theorem dL_law_312 : decode cL_law 312 = .ok (.iconst 1, 1) := gdL_law_306.2.2.2.2.1
theorem dL_law_313 : decode cL_law 313 = .ok (.iadd, 1) := gdL_law_306.2.2.2.2.2.1
theorem dL_law_314 : decode cL_law 314 = .ok (.iaload, 1) := gdL_law_306.2.2.2.2.2.2.1
theorem dL_law_315 : decode cL_law 315 = .ok (.invokevirtual 27, 3) := gdL_law_306.2.2.2.2.2.2.2
set_option maxRecDepth 20000 in
theorem gdL_law_318 : decode cL_law 318 = .ok (.pop, 1) ∧ decode cL_law 319 = .ok (.aload_n 2, 1) ∧ decode cL_law 320 = .ok (.aload_n 0, 1) ∧ decode cL_law 321 = .ok (.iload_n 3, 1) ∧ decode cL_law 322 = .ok (.iconst 1, 1) ∧ decode cL_law 323 = .ok (.iadd, 1) ∧ decode cL_law 324 = .ok (.iaload, 1) ∧ decode cL_law 325 = .ok (.invokevirtual 31, 3) := by decide +kernel
theorem dL_law_318 : decode cL_law 318 = .ok (.pop, 1) := gdL_law_318.1
theorem dL_law_319 : decode cL_law 319 = .ok (.aload_n 2, 1) := gdL_law_318.2.1
theorem dL_law_320 : decode cL_law 320 = .ok (.aload_n 0, 1) := gdL_law_318.2.2.1
theorem dL_law_321 : decode cL_law 321 = .ok (.iload_n 3, 1) := gdL_law_318.2.2.2.1
theorem dL_law_322 : decode cL_law 322 = .ok (.iconst 1, 1) := gdL_law_318.2.2.2.2.1
theorem dL_law_323 : decode cL_law 323 = .ok (.iadd, 1) := gdL_law_318.2.2.2.2.2.1
theorem dL_law_324 : decode cL_law 324 = .ok (.iaload, 1) := gdL_law_318.2.2.2.2.2.2.1
theorem dL_law_325 : decode cL_law 325 = .ok (.invokevirtual 31, 3) := gdL_law_318.2.2.2.2.2.2.2
set_option maxRecDepth 20000 in
theorem gdL_law_328 : decode cL_law 328 = .ok (.pop, 1) ∧ decode cL_law 329 = .ok (.goto 705, 3) ∧ decode cL_law 332 = .ok (.aload_n 1, 1) ∧ decode cL_law 333 = .ok (.aload_n 0, 1) ∧ decode cL_law 334 = .ok (.iload_n 3, 1) ∧ decode cL_law 335 = .ok (.iconst 1, 1) ∧ decode cL_law 336 = .ok (.iadd, 1) ∧ decode cL_law 337 = .ok (.iaload, 1) := by decide +kernel
theorem dL_law_328 : decode cL_law 328 = .ok (.pop, 1) := gdL_law_328.1
theorem dL_law_329 : decode cL_law 329 = .ok (.goto 705, 3) := gdL_law_328.2.1
theorem dL_law_332 : decode cL_law 332 = .ok (.aload_n 1, 1) := gdL_law_328.2.2.1
theorem dL_law_333 : decode cL_law 333 = .ok (.aload_n 0, 1) := gdL_law_328.2.2.2.1
theorem dL_law_334 : decode cL_law 334 = .ok (.iload_n 3, 1) := gdL_law_328.2.2.2.2.1
theorem dL_law_335 : decode cL_law 335 = .ok (.iconst 1, 1) := gdL_law_328.2.2.2.2.2.1
theorem dL_law_336 : decode cL_law 336 = .ok (.iadd, 1) := gdL_law_328.2.2.2.2.2.2.1
theorem dL_law_337 : decode cL_law 337 = .ok (.iaload, 1) := gdL_law_328.2.2.2.2.2.2.2
set_option maxRecDepth 20000 in
theorem gdL_law_338 : decode cL_law 338 = .ok (.i2l, 1) ∧ decode cL_law 339 = .ok (.bipush 32, 2) ∧ decode cL_law 341 = .ok (.lshl, 1) ∧ decode cL_law 342 = .ok (.aload_n 0, 1) ∧ decode cL_law 343 = .ok (.iload_n 3, 1) ∧ decode cL_law 344 = .ok (.iconst 2, 1) ∧ decode cL_law 345 = .ok (.iadd, 1) ∧ decode cL_law 346 = .ok (.iaload, 1) := by decide +kernel
theorem dL_law_338 : decode cL_law 338 = .ok (.i2l, 1) := gdL_law_338.1
theorem dL_law_339 : decode cL_law 339 = .ok (.bipush 32, 2) := gdL_law_338.2.1
theorem dL_law_341 : decode cL_law 341 = .ok (.lshl, 1) := gdL_law_338.2.2.1
theorem dL_law_342 : decode cL_law 342 = .ok (.aload_n 0, 1) := gdL_law_338.2.2.2.1
theorem dL_law_343 : decode cL_law 343 = .ok (.iload_n 3, 1) := gdL_law_338.2.2.2.2.1
theorem dL_law_344 : decode cL_law 344 = .ok (.iconst 2, 1) := gdL_law_338.2.2.2.2.2.1
theorem dL_law_345 : decode cL_law 345 = .ok (.iadd, 1) := gdL_law_338.2.2.2.2.2.2.1
theorem dL_law_346 : decode cL_law 346 = .ok (.iaload, 1) := gdL_law_338.2.2.2.2.2.2.2
set_option maxRecDepth 20000 in
theorem gdL_law_347 : decode cL_law 347 = .ok (.i2l, 1) ∧ decode cL_law 348 = .ok (.ldc2_w 32, 3) ∧ decode cL_law 351 = .ok (.land, 1) ∧ decode cL_law 352 = .ok (.lor, 1) ∧ decode cL_law 353 = .ok (.aload_n 0, 1) ∧ decode cL_law 354 = .ok (.iload_n 3, 1) ∧ decode cL_law 355 = .ok (.iconst 3, 1) ∧ decode cL_law 356 = .ok (.iadd, 1) := by decide +kernel
theorem dL_law_347 : decode cL_law 347 = .ok (.i2l, 1) := gdL_law_347.1
theorem dL_law_348 : decode cL_law 348 = .ok (.ldc2_w 32, 3) := gdL_law_347.2.1
theorem dL_law_351 : decode cL_law 351 = .ok (.land, 1) := gdL_law_347.2.2.1
theorem dL_law_352 : decode cL_law 352 = .ok (.lor, 1) := gdL_law_347.2.2.2.1
theorem dL_law_353 : decode cL_law 353 = .ok (.aload_n 0, 1) := gdL_law_347.2.2.2.2.1
theorem dL_law_354 : decode cL_law 354 = .ok (.iload_n 3, 1) := gdL_law_347.2.2.2.2.2.1
theorem dL_law_355 : decode cL_law 355 = .ok (.iconst 3, 1) := gdL_law_347.2.2.2.2.2.2.1
theorem dL_law_356 : decode cL_law 356 = .ok (.iadd, 1) := gdL_law_347.2.2.2.2.2.2.2
set_option maxRecDepth 20000 in
theorem gdL_law_357 : decode cL_law 357 = .ok (.iaload, 1) ∧ decode cL_law 358 = .ok (.invokevirtual 34, 3) ∧ decode cL_law 361 = .ok (.pop, 1) ∧ decode cL_law 362 = .ok (.aload_n 2, 1) ∧ decode cL_law 363 = .ok (.aload_n 0, 1) ∧ decode cL_law 364 = .ok (.iload_n 3, 1) ∧ decode cL_law 365 = .ok (.iconst 1, 1) ∧ decode cL_law 366 = .ok (.iadd, 1) := by decide +kernel
theorem dL_law_357 : decode cL_law 357 = .ok (.iaload, 1) := gdL_law_357.1
theorem dL_law_358 : decode cL_law 358 = .ok (.invokevirtual 34, 3) := gdL_law_357.2.1
theorem dL_law_361 : decode cL_law 361 = .ok (.pop, 1) := gdL_law_357.2.2.1
theorem dL_law_362 : decode cL_law 362 = .ok (.aload_n 2, 1) := gdL_law_357.2.2.2.1
theorem dL_law_363 : decode cL_law 363 = .ok (.aload_n 0, 1) := gdL_law_357.2.2.2.2.1
theorem dL_law_364 : decode cL_law 364 = .ok (.iload_n 3, 1) := gdL_law_357.2.2.2.2.2.1
theorem dL_law_365 : decode cL_law 365 = .ok (.iconst 1, 1) := gdL_law_357.2.2.2.2.2.2.1
theorem dL_law_366 : decode cL_law 366 = .ok (.iadd, 1) := gdL_law_357.2.2.2.2.2.2.2
set_option maxRecDepth 20000 in
theorem gdL_law_367 : decode cL_law 367 = .ok (.iaload, 1) ∧ decode cL_law 368 = .ok (.i2l, 1) ∧ decode cL_law 369 = .ok (.bipush 32, 2) ∧ decode cL_law 371 = .ok (.lshl, 1) ∧ decode cL_law 372 = .ok (.aload_n 0, 1) ∧ decode cL_law 373 = .ok (.iload_n 3, 1) ∧ decode cL_law 374 = .ok (.iconst 2, 1) ∧ decode cL_law 375 = .ok (.iadd, 1) := by decide +kernel
theorem dL_law_367 : decode cL_law 367 = .ok (.iaload, 1) := gdL_law_367.1
theorem dL_law_368 : decode cL_law 368 = .ok (.i2l, 1) := gdL_law_367.2.1
theorem dL_law_369 : decode cL_law 369 = .ok (.bipush 32, 2) := gdL_law_367.2.2.1
theorem dL_law_371 : decode cL_law 371 = .ok (.lshl, 1) := gdL_law_367.2.2.2.1
theorem dL_law_372 : decode cL_law 372 = .ok (.aload_n 0, 1) := gdL_law_367.2.2.2.2.1
theorem dL_law_373 : decode cL_law 373 = .ok (.iload_n 3, 1) := gdL_law_367.2.2.2.2.2.1
theorem dL_law_374 : decode cL_law 374 = .ok (.iconst 2, 1) := gdL_law_367.2.2.2.2.2.2.1
theorem dL_law_375 : decode cL_law 375 = .ok (.iadd, 1) := gdL_law_367.2.2.2.2.2.2.2
set_option maxRecDepth 20000 in
theorem gdL_law_376 : decode cL_law 376 = .ok (.iaload, 1) ∧ decode cL_law 377 = .ok (.i2l, 1) ∧ decode cL_law 378 = .ok (.ldc2_w 32, 3) ∧ decode cL_law 381 = .ok (.land, 1) ∧ decode cL_law 382 = .ok (.lor, 1) ∧ decode cL_law 383 = .ok (.aload_n 0, 1) ∧ decode cL_law 384 = .ok (.iload_n 3, 1) ∧ decode cL_law 385 = .ok (.iconst 3, 1) := by decide +kernel
theorem dL_law_376 : decode cL_law 376 = .ok (.iaload, 1) := gdL_law_376.1
theorem dL_law_377 : decode cL_law 377 = .ok (.i2l, 1) := gdL_law_376.2.1
theorem dL_law_378 : decode cL_law 378 = .ok (.ldc2_w 32, 3) := gdL_law_376.2.2.1
theorem dL_law_381 : decode cL_law 381 = .ok (.land, 1) := gdL_law_376.2.2.2.1
theorem dL_law_382 : decode cL_law 382 = .ok (.lor, 1) := gdL_law_376.2.2.2.2.1
theorem dL_law_383 : decode cL_law 383 = .ok (.aload_n 0, 1) := gdL_law_376.2.2.2.2.2.1
theorem dL_law_384 : decode cL_law 384 = .ok (.iload_n 3, 1) := gdL_law_376.2.2.2.2.2.2.1
theorem dL_law_385 : decode cL_law 385 = .ok (.iconst 3, 1) := gdL_law_376.2.2.2.2.2.2.2
set_option maxRecDepth 20000 in
theorem gdL_law_386 : decode cL_law 386 = .ok (.iadd, 1) ∧ decode cL_law 387 = .ok (.iaload, 1) ∧ decode cL_law 388 = .ok (.invokevirtual 38, 3) ∧ decode cL_law 391 = .ok (.pop, 1) ∧ decode cL_law 392 = .ok (.goto 642, 3) ∧ decode cL_law 395 = .ok (.aload_n 1, 1) ∧ decode cL_law 396 = .ok (.invokevirtual 39, 3) ∧ decode cL_law 399 = .ok (.pop, 1) := by decide +kernel
theorem dL_law_386 : decode cL_law 386 = .ok (.iadd, 1) := gdL_law_386.1
theorem dL_law_387 : decode cL_law 387 = .ok (.iaload, 1) := gdL_law_386.2.1
theorem dL_law_388 : decode cL_law 388 = .ok (.invokevirtual 38, 3) := gdL_law_386.2.2.1
theorem dL_law_391 : decode cL_law 391 = .ok (.pop, 1) := gdL_law_386.2.2.2.1
theorem dL_law_392 : decode cL_law 392 = .ok (.goto 642, 3) := gdL_law_386.2.2.2.2.1
theorem dL_law_395 : decode cL_law 395 = .ok (.aload_n 1, 1) := gdL_law_386.2.2.2.2.2.1
theorem dL_law_396 : decode cL_law 396 = .ok (.invokevirtual 39, 3) := gdL_law_386.2.2.2.2.2.2.1
theorem dL_law_399 : decode cL_law 399 = .ok (.pop, 1) := gdL_law_386.2.2.2.2.2.2.2
set_option maxRecDepth 20000 in
theorem gdL_law_400 : decode cL_law 400 = .ok (.aload_n 2, 1) ∧ decode cL_law 401 = .ok (.invokevirtual 43, 3) ∧ decode cL_law 404 = .ok (.pop, 1) ∧ decode cL_law 405 = .ok (.goto 629, 3) ∧ decode cL_law 408 = .ok (.aload_n 1, 1) ∧ decode cL_law 409 = .ok (.invokevirtual 44, 3) ∧ decode cL_law 412 = .ok (.pop, 1) ∧ decode cL_law 413 = .ok (.aload_n 2, 1) := by decide +kernel
theorem dL_law_400 : decode cL_law 400 = .ok (.aload_n 2, 1) := gdL_law_400.1
theorem dL_law_401 : decode cL_law 401 = .ok (.invokevirtual 43, 3) := gdL_law_400.2.1
theorem dL_law_404 : decode cL_law 404 = .ok (.pop, 1) := gdL_law_400.2.2.1
theorem dL_law_405 : decode cL_law 405 = .ok (.goto 629, 3) := gdL_law_400.2.2.2.1
theorem dL_law_408 : decode cL_law 408 = .ok (.aload_n 1, 1) := gdL_law_400.2.2.2.2.1
theorem dL_law_409 : decode cL_law 409 = .ok (.invokevirtual 44, 3) := gdL_law_400.2.2.2.2.2.1
theorem dL_law_412 : decode cL_law 412 = .ok (.pop, 1) := gdL_law_400.2.2.2.2.2.2.1
theorem dL_law_413 : decode cL_law 413 = .ok (.aload_n 2, 1) := gdL_law_400.2.2.2.2.2.2.2
set_option maxRecDepth 20000 in
theorem gdL_law_414 : decode cL_law 414 = .ok (.invokevirtual 47, 3) ∧ decode cL_law 417 = .ok (.pop, 1) ∧ decode cL_law 418 = .ok (.goto 616, 3) ∧ decode cL_law 421 = .ok (.aload_n 1, 1) ∧ decode cL_law 422 = .ok (.aload_n 0, 1) ∧ decode cL_law 423 = .ok (.iload_n 3, 1) ∧ decode cL_law 424 = .ok (.iconst 1, 1) ∧ decode cL_law 425 = .ok (.iadd, 1) := by decide +kernel
theorem dL_law_414 : decode cL_law 414 = .ok (.invokevirtual 47, 3) := gdL_law_414.1
theorem dL_law_417 : decode cL_law 417 = .ok (.pop, 1) := gdL_law_414.2.1
theorem dL_law_418 : decode cL_law 418 = .ok (.goto 616, 3) := gdL_law_414.2.2.1
theorem dL_law_421 : decode cL_law 421 = .ok (.aload_n 1, 1) := gdL_law_414.2.2.2.1
theorem dL_law_422 : decode cL_law 422 = .ok (.aload_n 0, 1) := gdL_law_414.2.2.2.2.1
theorem dL_law_423 : decode cL_law 423 = .ok (.iload_n 3, 1) := gdL_law_414.2.2.2.2.2.1
theorem dL_law_424 : decode cL_law 424 = .ok (.iconst 1, 1) := gdL_law_414.2.2.2.2.2.2.1
theorem dL_law_425 : decode cL_law 425 = .ok (.iadd, 1) := gdL_law_414.2.2.2.2.2.2.2
set_option maxRecDepth 20000 in
theorem gdL_law_426 : decode cL_law 426 = .ok (.iaload, 1) ∧ decode cL_law 427 = .ok (.aload_n 0, 1) ∧ decode cL_law 428 = .ok (.iload_n 3, 1) ∧ decode cL_law 429 = .ok (.iconst 2, 1) ∧ decode cL_law 430 = .ok (.iadd, 1) ∧ decode cL_law 431 = .ok (.iaload, 1) ∧ decode cL_law 432 = .ok (.aload_n 0, 1) ∧ decode cL_law 433 = .ok (.iload_n 3, 1) := by decide +kernel
theorem dL_law_426 : decode cL_law 426 = .ok (.iaload, 1) := gdL_law_426.1
theorem dL_law_427 : decode cL_law 427 = .ok (.aload_n 0, 1) := gdL_law_426.2.1
theorem dL_law_428 : decode cL_law 428 = .ok (.iload_n 3, 1) := gdL_law_426.2.2.1
theorem dL_law_429 : decode cL_law 429 = .ok (.iconst 2, 1) := gdL_law_426.2.2.2.1
theorem dL_law_430 : decode cL_law 430 = .ok (.iadd, 1) := gdL_law_426.2.2.2.2.1
theorem dL_law_431 : decode cL_law 431 = .ok (.iaload, 1) := gdL_law_426.2.2.2.2.2.1
theorem dL_law_432 : decode cL_law 432 = .ok (.aload_n 0, 1) := gdL_law_426.2.2.2.2.2.2.1
theorem dL_law_433 : decode cL_law 433 = .ok (.iload_n 3, 1) := gdL_law_426.2.2.2.2.2.2.2
set_option maxRecDepth 20000 in
theorem gdL_law_434 : decode cL_law 434 = .ok (.iconst 3, 1) ∧ decode cL_law 435 = .ok (.iadd, 1) ∧ decode cL_law 436 = .ok (.iaload, 1) ∧ decode cL_law 437 = .ok (.invokevirtual 48, 3) ∧ decode cL_law 440 = .ok (.pop, 1) ∧ decode cL_law 441 = .ok (.aload_n 2, 1) ∧ decode cL_law 442 = .ok (.aload_n 0, 1) ∧ decode cL_law 443 = .ok (.iload_n 3, 1) := by decide +kernel
theorem dL_law_434 : decode cL_law 434 = .ok (.iconst 3, 1) := gdL_law_434.1
theorem dL_law_435 : decode cL_law 435 = .ok (.iadd, 1) := gdL_law_434.2.1
theorem dL_law_436 : decode cL_law 436 = .ok (.iaload, 1) := gdL_law_434.2.2.1
theorem dL_law_437 : decode cL_law 437 = .ok (.invokevirtual 48, 3) := gdL_law_434.2.2.2.1
theorem dL_law_440 : decode cL_law 440 = .ok (.pop, 1) := gdL_law_434.2.2.2.2.1
theorem dL_law_441 : decode cL_law 441 = .ok (.aload_n 2, 1) := gdL_law_434.2.2.2.2.2.1
theorem dL_law_442 : decode cL_law 442 = .ok (.aload_n 0, 1) := gdL_law_434.2.2.2.2.2.2.1
theorem dL_law_443 : decode cL_law 443 = .ok (.iload_n 3, 1) := gdL_law_434.2.2.2.2.2.2.2
set_option maxRecDepth 20000 in
theorem gdL_law_444 : decode cL_law 444 = .ok (.iconst 1, 1) ∧ decode cL_law 445 = .ok (.iadd, 1) ∧ decode cL_law 446 = .ok (.iaload, 1) ∧ decode cL_law 447 = .ok (.aload_n 0, 1) ∧ decode cL_law 448 = .ok (.iload_n 3, 1) ∧ decode cL_law 449 = .ok (.iconst 2, 1) ∧ decode cL_law 450 = .ok (.iadd, 1) ∧ decode cL_law 451 = .ok (.iaload, 1) := by decide +kernel
theorem dL_law_444 : decode cL_law 444 = .ok (.iconst 1, 1) := gdL_law_444.1
theorem dL_law_445 : decode cL_law 445 = .ok (.iadd, 1) := gdL_law_444.2.1
theorem dL_law_446 : decode cL_law 446 = .ok (.iaload, 1) := gdL_law_444.2.2.1
theorem dL_law_447 : decode cL_law 447 = .ok (.aload_n 0, 1) := gdL_law_444.2.2.2.1
theorem dL_law_448 : decode cL_law 448 = .ok (.iload_n 3, 1) := gdL_law_444.2.2.2.2.1
theorem dL_law_449 : decode cL_law 449 = .ok (.iconst 2, 1) := gdL_law_444.2.2.2.2.2.1
theorem dL_law_450 : decode cL_law 450 = .ok (.iadd, 1) := gdL_law_444.2.2.2.2.2.2.1
theorem dL_law_451 : decode cL_law 451 = .ok (.iaload, 1) := gdL_law_444.2.2.2.2.2.2.2
set_option maxRecDepth 20000 in
theorem gdL_law_452 : decode cL_law 452 = .ok (.aload_n 0, 1) ∧ decode cL_law 453 = .ok (.iload_n 3, 1) ∧ decode cL_law 454 = .ok (.iconst 3, 1) ∧ decode cL_law 455 = .ok (.iadd, 1) ∧ decode cL_law 456 = .ok (.iaload, 1) ∧ decode cL_law 457 = .ok (.invokevirtual 51, 3) ∧ decode cL_law 460 = .ok (.pop, 1) ∧ decode cL_law 461 = .ok (.goto 573, 3) := by decide +kernel
theorem dL_law_452 : decode cL_law 452 = .ok (.aload_n 0, 1) := gdL_law_452.1
theorem dL_law_453 : decode cL_law 453 = .ok (.iload_n 3, 1) := gdL_law_452.2.1
theorem dL_law_454 : decode cL_law 454 = .ok (.iconst 3, 1) := gdL_law_452.2.2.1
theorem dL_law_455 : decode cL_law 455 = .ok (.iadd, 1) := gdL_law_452.2.2.2.1
theorem dL_law_456 : decode cL_law 456 = .ok (.iaload, 1) := gdL_law_452.2.2.2.2.1
theorem dL_law_457 : decode cL_law 457 = .ok (.invokevirtual 51, 3) := gdL_law_452.2.2.2.2.2.1
theorem dL_law_460 : decode cL_law 460 = .ok (.pop, 1) := gdL_law_452.2.2.2.2.2.2.1
theorem dL_law_461 : decode cL_law 461 = .ok (.goto 573, 3) := gdL_law_452.2.2.2.2.2.2.2
set_option maxRecDepth 20000 in
theorem gdL_law_464 : decode cL_law 464 = .ok (.aload_n 1, 1) ∧ decode cL_law 465 = .ok (.aload_n 0, 1) ∧ decode cL_law 466 = .ok (.iload_n 3, 1) ∧ decode cL_law 467 = .ok (.iconst 1, 1) ∧ decode cL_law 468 = .ok (.iadd, 1) ∧ decode cL_law 469 = .ok (.iaload, 1) ∧ decode cL_law 470 = .ok (.aload_n 0, 1) ∧ decode cL_law 471 = .ok (.iload_n 3, 1) := by decide +kernel
theorem dL_law_464 : decode cL_law 464 = .ok (.aload_n 1, 1) := gdL_law_464.1
theorem dL_law_465 : decode cL_law 465 = .ok (.aload_n 0, 1) := gdL_law_464.2.1
theorem dL_law_466 : decode cL_law 466 = .ok (.iload_n 3, 1) := gdL_law_464.2.2.1
theorem dL_law_467 : decode cL_law 467 = .ok (.iconst 1, 1) := gdL_law_464.2.2.2.1
theorem dL_law_468 : decode cL_law 468 = .ok (.iadd, 1) := gdL_law_464.2.2.2.2.1
theorem dL_law_469 : decode cL_law 469 = .ok (.iaload, 1) := gdL_law_464.2.2.2.2.2.1
theorem dL_law_470 : decode cL_law 470 = .ok (.aload_n 0, 1) := gdL_law_464.2.2.2.2.2.2.1
theorem dL_law_471 : decode cL_law 471 = .ok (.iload_n 3, 1) := gdL_law_464.2.2.2.2.2.2.2
set_option maxRecDepth 20000 in
theorem gdL_law_472 : decode cL_law 472 = .ok (.iconst 2, 1) ∧ decode cL_law 473 = .ok (.iadd, 1) ∧ decode cL_law 474 = .ok (.iaload, 1) ∧ decode cL_law 475 = .ok (.invokevirtual 52, 3) ∧ decode cL_law 478 = .ok (.pop, 1) ∧ decode cL_law 479 = .ok (.aload_n 2, 1) ∧ decode cL_law 480 = .ok (.aload_n 0, 1) ∧ decode cL_law 481 = .ok (.iload_n 3, 1) := by decide +kernel
theorem dL_law_472 : decode cL_law 472 = .ok (.iconst 2, 1) := gdL_law_472.1
theorem dL_law_473 : decode cL_law 473 = .ok (.iadd, 1) := gdL_law_472.2.1
theorem dL_law_474 : decode cL_law 474 = .ok (.iaload, 1) := gdL_law_472.2.2.1
theorem dL_law_475 : decode cL_law 475 = .ok (.invokevirtual 52, 3) := gdL_law_472.2.2.2.1
theorem dL_law_478 : decode cL_law 478 = .ok (.pop, 1) := gdL_law_472.2.2.2.2.1
theorem dL_law_479 : decode cL_law 479 = .ok (.aload_n 2, 1) := gdL_law_472.2.2.2.2.2.1
theorem dL_law_480 : decode cL_law 480 = .ok (.aload_n 0, 1) := gdL_law_472.2.2.2.2.2.2.1
theorem dL_law_481 : decode cL_law 481 = .ok (.iload_n 3, 1) := gdL_law_472.2.2.2.2.2.2.2
set_option maxRecDepth 20000 in
theorem gdL_law_482 : decode cL_law 482 = .ok (.iconst 1, 1) ∧ decode cL_law 483 = .ok (.iadd, 1) ∧ decode cL_law 484 = .ok (.iaload, 1) ∧ decode cL_law 485 = .ok (.aload_n 0, 1) ∧ decode cL_law 486 = .ok (.iload_n 3, 1) ∧ decode cL_law 487 = .ok (.iconst 2, 1) ∧ decode cL_law 488 = .ok (.iadd, 1) ∧ decode cL_law 489 = .ok (.iaload, 1) := by decide +kernel
theorem dL_law_482 : decode cL_law 482 = .ok (.iconst 1, 1) := gdL_law_482.1
theorem dL_law_483 : decode cL_law 483 = .ok (.iadd, 1) := gdL_law_482.2.1
theorem dL_law_484 : decode cL_law 484 = .ok (.iaload, 1) := gdL_law_482.2.2.1
theorem dL_law_485 : decode cL_law 485 = .ok (.aload_n 0, 1) := gdL_law_482.2.2.2.1
theorem dL_law_486 : decode cL_law 486 = .ok (.iload_n 3, 1) := gdL_law_482.2.2.2.2.1
theorem dL_law_487 : decode cL_law 487 = .ok (.iconst 2, 1) := gdL_law_482.2.2.2.2.2.1
theorem dL_law_488 : decode cL_law 488 = .ok (.iadd, 1) := gdL_law_482.2.2.2.2.2.2.1
theorem dL_law_489 : decode cL_law 489 = .ok (.iaload, 1) := gdL_law_482.2.2.2.2.2.2.2
set_option maxRecDepth 20000 in
theorem gdL_law_490 : decode cL_law 490 = .ok (.invokevirtual 56, 3) ∧ decode cL_law 493 = .ok (.pop, 1) ∧ decode cL_law 494 = .ok (.goto 540, 3) ∧ decode cL_law 497 = .ok (.aload_n 1, 1) ∧ decode cL_law 498 = .ok (.aload_n 0, 1) ∧ decode cL_law 499 = .ok (.iload_n 3, 1) ∧ decode cL_law 500 = .ok (.iconst 1, 1) ∧ decode cL_law 501 = .ok (.iadd, 1) := by decide +kernel
theorem dL_law_490 : decode cL_law 490 = .ok (.invokevirtual 56, 3) := gdL_law_490.1
theorem dL_law_493 : decode cL_law 493 = .ok (.pop, 1) := gdL_law_490.2.1
theorem dL_law_494 : decode cL_law 494 = .ok (.goto 540, 3) := gdL_law_490.2.2.1
theorem dL_law_497 : decode cL_law 497 = .ok (.aload_n 1, 1) := gdL_law_490.2.2.2.1
theorem dL_law_498 : decode cL_law 498 = .ok (.aload_n 0, 1) := gdL_law_490.2.2.2.2.1
theorem dL_law_499 : decode cL_law 499 = .ok (.iload_n 3, 1) := gdL_law_490.2.2.2.2.2.1
theorem dL_law_500 : decode cL_law 500 = .ok (.iconst 1, 1) := gdL_law_490.2.2.2.2.2.2.1
theorem dL_law_501 : decode cL_law 501 = .ok (.iadd, 1) := gdL_law_490.2.2.2.2.2.2.2
set_option maxRecDepth 20000 in
theorem gdL_law_502 : decode cL_law 502 = .ok (.iaload, 1) ∧ decode cL_law 503 = .ok (.aload_n 0, 1) ∧ decode cL_law 504 = .ok (.iload_n 3, 1) ∧ decode cL_law 505 = .ok (.iconst 2, 1) ∧ decode cL_law 506 = .ok (.iadd, 1) ∧ decode cL_law 507 = .ok (.iaload, 1) ∧ decode cL_law 508 = .ok (.invokevirtual 57, 3) ∧ decode cL_law 511 = .ok (.pop, 1) := by decide +kernel
theorem dL_law_502 : decode cL_law 502 = .ok (.iaload, 1) := gdL_law_502.1
theorem dL_law_503 : decode cL_law 503 = .ok (.aload_n 0, 1) := gdL_law_502.2.1
theorem dL_law_504 : decode cL_law 504 = .ok (.iload_n 3, 1) := gdL_law_502.2.2.1
theorem dL_law_505 : decode cL_law 505 = .ok (.iconst 2, 1) := gdL_law_502.2.2.2.1
theorem dL_law_506 : decode cL_law 506 = .ok (.iadd, 1) := gdL_law_502.2.2.2.2.1
theorem dL_law_507 : decode cL_law 507 = .ok (.iaload, 1) := gdL_law_502.2.2.2.2.2.1
theorem dL_law_508 : decode cL_law 508 = .ok (.invokevirtual 57, 3) := gdL_law_502.2.2.2.2.2.2.1
theorem dL_law_511 : decode cL_law 511 = .ok (.pop, 1) := gdL_law_502.2.2.2.2.2.2.2
set_option maxRecDepth 20000 in
theorem gdL_law_512 : decode cL_law 512 = .ok (.aload_n 2, 1) ∧ decode cL_law 513 = .ok (.aload_n 0, 1) ∧ decode cL_law 514 = .ok (.iload_n 3, 1) ∧ decode cL_law 515 = .ok (.iconst 1, 1) ∧ decode cL_law 516 = .ok (.iadd, 1) ∧ decode cL_law 517 = .ok (.iaload, 1) ∧ decode cL_law 518 = .ok (.aload_n 0, 1) ∧ decode cL_law 519 = .ok (.iload_n 3, 1) := by decide +kernel
theorem dL_law_512 : decode cL_law 512 = .ok (.aload_n 2, 1) := gdL_law_512.1
theorem dL_law_513 : decode cL_law 513 = .ok (.aload_n 0, 1) := gdL_law_512.2.1
theorem dL_law_514 : decode cL_law 514 = .ok (.iload_n 3, 1) := gdL_law_512.2.2.1
theorem dL_law_515 : decode cL_law 515 = .ok (.iconst 1, 1) := gdL_law_512.2.2.2.1
theorem dL_law_516 : decode cL_law 516 = .ok (.iadd, 1) := gdL_law_512.2.2.2.2.1
theorem dL_law_517 : decode cL_law 517 = .ok (.iaload, 1) := gdL_law_512.2.2.2.2.2.1
theorem dL_law_518 : decode cL_law 518 = .ok (.aload_n 0, 1) := gdL_law_512.2.2.2.2.2.2.1
theorem dL_law_519 : decode cL_law 519 = .ok (.iload_n 3, 1) := gdL_law_512.2.2.2.2.2.2.2
set_option maxRecDepth 20000 in
theorem gdL_law_520 : decode cL_law 520 = .ok (.iconst 2, 1) ∧ decode cL_law 521 = .ok (.iadd, 1) ∧ decode cL_law 522 = .ok (.iaload, 1) ∧ decode cL_law 523 = .ok (.invokevirtual 60, 3) ∧ decode cL_law 526 = .ok (.pop, 1) ∧ decode cL_law 527 = .ok (.goto 507, 3) ∧ decode cL_law 530 = .ok (.aload_n 1, 1) ∧ decode cL_law 531 = .ok (.aload_n 0, 1) := by decide +kernel
theorem dL_law_520 : decode cL_law 520 = .ok (.iconst 2, 1) := gdL_law_520.1
theorem dL_law_521 : decode cL_law 521 = .ok (.iadd, 1) := gdL_law_520.2.1
theorem dL_law_522 : decode cL_law 522 = .ok (.iaload, 1) := gdL_law_520.2.2.1
theorem dL_law_523 : decode cL_law 523 = .ok (.invokevirtual 60, 3) := gdL_law_520.2.2.2.1
theorem dL_law_526 : decode cL_law 526 = .ok (.pop, 1) := gdL_law_520.2.2.2.2.1
theorem dL_law_527 : decode cL_law 527 = .ok (.goto 507, 3) := gdL_law_520.2.2.2.2.2.1
theorem dL_law_530 : decode cL_law 530 = .ok (.aload_n 1, 1) := gdL_law_520.2.2.2.2.2.2.1
theorem dL_law_531 : decode cL_law 531 = .ok (.aload_n 0, 1) := gdL_law_520.2.2.2.2.2.2.2
set_option maxRecDepth 20000 in
theorem gdL_law_532 : decode cL_law 532 = .ok (.iload_n 3, 1) ∧ decode cL_law 533 = .ok (.iconst 1, 1) ∧ decode cL_law 534 = .ok (.iadd, 1) ∧ decode cL_law 535 = .ok (.iaload, 1) ∧ decode cL_law 536 = .ok (.aload_n 0, 1) ∧ decode cL_law 537 = .ok (.iload_n 3, 1) ∧ decode cL_law 538 = .ok (.iconst 2, 1) ∧ decode cL_law 539 = .ok (.iadd, 1) := by decide +kernel
theorem dL_law_532 : decode cL_law 532 = .ok (.iload_n 3, 1) := gdL_law_532.1
theorem dL_law_533 : decode cL_law 533 = .ok (.iconst 1, 1) := gdL_law_532.2.1
theorem dL_law_534 : decode cL_law 534 = .ok (.iadd, 1) := gdL_law_532.2.2.1
theorem dL_law_535 : decode cL_law 535 = .ok (.iaload, 1) := gdL_law_532.2.2.2.1
theorem dL_law_536 : decode cL_law 536 = .ok (.aload_n 0, 1) := gdL_law_532.2.2.2.2.1
theorem dL_law_537 : decode cL_law 537 = .ok (.iload_n 3, 1) := gdL_law_532.2.2.2.2.2.1
theorem dL_law_538 : decode cL_law 538 = .ok (.iconst 2, 1) := gdL_law_532.2.2.2.2.2.2.1
theorem dL_law_539 : decode cL_law 539 = .ok (.iadd, 1) := gdL_law_532.2.2.2.2.2.2.2
set_option maxRecDepth 20000 in
theorem gdL_law_540 : decode cL_law 540 = .ok (.iaload, 1) ∧ decode cL_law 541 = .ok (.aload_n 0, 1) ∧ decode cL_law 542 = .ok (.iload_n 3, 1) ∧ decode cL_law 543 = .ok (.iconst 3, 1) ∧ decode cL_law 544 = .ok (.iadd, 1) ∧ decode cL_law 545 = .ok (.iaload, 1) ∧ decode cL_law 546 = .ok (.aload_n 0, 1) ∧ decode cL_law 547 = .ok (.iload_n 3, 1) := by decide +kernel
theorem dL_law_540 : decode cL_law 540 = .ok (.iaload, 1) := gdL_law_540.1
theorem dL_law_541 : decode cL_law 541 = .ok (.aload_n 0, 1) := gdL_law_540.2.1
theorem dL_law_542 : decode cL_law 542 = .ok (.iload_n 3, 1) := gdL_law_540.2.2.1
theorem dL_law_543 : decode cL_law 543 = .ok (.iconst 3, 1) := gdL_law_540.2.2.2.1
theorem dL_law_544 : decode cL_law 544 = .ok (.iadd, 1) := gdL_law_540.2.2.2.2.1
theorem dL_law_545 : decode cL_law 545 = .ok (.iaload, 1) := gdL_law_540.2.2.2.2.2.1
theorem dL_law_546 : decode cL_law 546 = .ok (.aload_n 0, 1) := gdL_law_540.2.2.2.2.2.2.1
theorem dL_law_547 : decode cL_law 547 = .ok (.iload_n 3, 1) := gdL_law_540.2.2.2.2.2.2.2
set_option maxRecDepth 20000 in
theorem gdL_law_548 : decode cL_law 548 = .ok (.iconst 4, 1) ∧ decode cL_law 549 = .ok (.iadd, 1) ∧ decode cL_law 550 = .ok (.iaload, 1) ∧ decode cL_law 551 = .ok (.invokevirtual 61, 3) ∧ decode cL_law 554 = .ok (.pop, 1) ∧ decode cL_law 555 = .ok (.aload_n 2, 1) ∧ decode cL_law 556 = .ok (.aload_n 0, 1) ∧ decode cL_law 557 = .ok (.iload_n 3, 1) := by decide +kernel
theorem dL_law_548 : decode cL_law 548 = .ok (.iconst 4, 1) := gdL_law_548.1
theorem dL_law_549 : decode cL_law 549 = .ok (.iadd, 1) := gdL_law_548.2.1
theorem dL_law_550 : decode cL_law 550 = .ok (.iaload, 1) := gdL_law_548.2.2.1
theorem dL_law_551 : decode cL_law 551 = .ok (.invokevirtual 61, 3) := gdL_law_548.2.2.2.1
theorem dL_law_554 : decode cL_law 554 = .ok (.pop, 1) := gdL_law_548.2.2.2.2.1
theorem dL_law_555 : decode cL_law 555 = .ok (.aload_n 2, 1) := gdL_law_548.2.2.2.2.2.1
theorem dL_law_556 : decode cL_law 556 = .ok (.aload_n 0, 1) := gdL_law_548.2.2.2.2.2.2.1
theorem dL_law_557 : decode cL_law 557 = .ok (.iload_n 3, 1) := gdL_law_548.2.2.2.2.2.2.2
set_option maxRecDepth 20000 in
theorem gdL_law_558 : decode cL_law 558 = .ok (.iconst 1, 1) ∧ decode cL_law 559 = .ok (.iadd, 1) ∧ decode cL_law 560 = .ok (.iaload, 1) ∧ decode cL_law 561 = .ok (.aload_n 0, 1) ∧ decode cL_law 562 = .ok (.iload_n 3, 1) ∧ decode cL_law 563 = .ok (.iconst 2, 1) ∧ decode cL_law 564 = .ok (.iadd, 1) ∧ decode cL_law 565 = .ok (.iaload, 1) := by decide +kernel
theorem dL_law_558 : decode cL_law 558 = .ok (.iconst 1, 1) := gdL_law_558.1
theorem dL_law_559 : decode cL_law 559 = .ok (.iadd, 1) := gdL_law_558.2.1
theorem dL_law_560 : decode cL_law 560 = .ok (.iaload, 1) := gdL_law_558.2.2.1
theorem dL_law_561 : decode cL_law 561 = .ok (.aload_n 0, 1) := gdL_law_558.2.2.2.1
theorem dL_law_562 : decode cL_law 562 = .ok (.iload_n 3, 1) := gdL_law_558.2.2.2.2.1
theorem dL_law_563 : decode cL_law 563 = .ok (.iconst 2, 1) := gdL_law_558.2.2.2.2.2.1
theorem dL_law_564 : decode cL_law 564 = .ok (.iadd, 1) := gdL_law_558.2.2.2.2.2.2.1
theorem dL_law_565 : decode cL_law 565 = .ok (.iaload, 1) := gdL_law_558.2.2.2.2.2.2.2
set_option maxRecDepth 20000 in
theorem gdL_law_566 : decode cL_law 566 = .ok (.aload_n 0, 1) ∧ decode cL_law 567 = .ok (.iload_n 3, 1) ∧ decode cL_law 568 = .ok (.iconst 3, 1) ∧ decode cL_law 569 = .ok (.iadd, 1) ∧ decode cL_law 570 = .ok (.iaload, 1) ∧ decode cL_law 571 = .ok (.aload_n 0, 1) ∧ decode cL_law 572 = .ok (.iload_n 3, 1) ∧ decode cL_law 573 = .ok (.iconst 4, 1) := by decide +kernel
theorem dL_law_566 : decode cL_law 566 = .ok (.aload_n 0, 1) := gdL_law_566.1
theorem dL_law_567 : decode cL_law 567 = .ok (.iload_n 3, 1) := gdL_law_566.2.1
theorem dL_law_568 : decode cL_law 568 = .ok (.iconst 3, 1) := gdL_law_566.2.2.1
theorem dL_law_569 : decode cL_law 569 = .ok (.iadd, 1) := gdL_law_566.2.2.2.1
theorem dL_law_570 : decode cL_law 570 = .ok (.iaload, 1) := gdL_law_566.2.2.2.2.1
theorem dL_law_571 : decode cL_law 571 = .ok (.aload_n 0, 1) := gdL_law_566.2.2.2.2.2.1
theorem dL_law_572 : decode cL_law 572 = .ok (.iload_n 3, 1) := gdL_law_566.2.2.2.2.2.2.1
theorem dL_law_573 : decode cL_law 573 = .ok (.iconst 4, 1) := gdL_law_566.2.2.2.2.2.2.2
set_option maxRecDepth 20000 in
theorem gdL_law_574 : decode cL_law 574 = .ok (.iadd, 1) ∧ decode cL_law 575 = .ok (.iaload, 1) ∧ decode cL_law 576 = .ok (.invokevirtual 65, 3) ∧ decode cL_law 579 = .ok (.pop, 1) ∧ decode cL_law 580 = .ok (.goto 454, 3) ∧ decode cL_law 583 = .ok (.aload_n 1, 1) ∧ decode cL_law 584 = .ok (.aload_n 0, 1) ∧ decode cL_law 585 = .ok (.iload_n 3, 1) := by decide +kernel
theorem dL_law_574 : decode cL_law 574 = .ok (.iadd, 1) := gdL_law_574.1
theorem dL_law_575 : decode cL_law 575 = .ok (.iaload, 1) := gdL_law_574.2.1
theorem dL_law_576 : decode cL_law 576 = .ok (.invokevirtual 65, 3) := gdL_law_574.2.2.1
theorem dL_law_579 : decode cL_law 579 = .ok (.pop, 1) := gdL_law_574.2.2.2.1
theorem dL_law_580 : decode cL_law 580 = .ok (.goto 454, 3) := gdL_law_574.2.2.2.2.1
theorem dL_law_583 : decode cL_law 583 = .ok (.aload_n 1, 1) := gdL_law_574.2.2.2.2.2.1
theorem dL_law_584 : decode cL_law 584 = .ok (.aload_n 0, 1) := gdL_law_574.2.2.2.2.2.2.1
theorem dL_law_585 : decode cL_law 585 = .ok (.iload_n 3, 1) := gdL_law_574.2.2.2.2.2.2.2
set_option maxRecDepth 20000 in
theorem gdL_law_586 : decode cL_law 586 = .ok (.iconst 1, 1) ∧ decode cL_law 587 = .ok (.iadd, 1) ∧ decode cL_law 588 = .ok (.iaload, 1) ∧ decode cL_law 589 = .ok (.aload_n 0, 1) ∧ decode cL_law 590 = .ok (.iload_n 3, 1) ∧ decode cL_law 591 = .ok (.iconst 2, 1) ∧ decode cL_law 592 = .ok (.iadd, 1) ∧ decode cL_law 593 = .ok (.iaload, 1) := by decide +kernel
theorem dL_law_586 : decode cL_law 586 = .ok (.iconst 1, 1) := gdL_law_586.1
theorem dL_law_587 : decode cL_law 587 = .ok (.iadd, 1) := gdL_law_586.2.1
theorem dL_law_588 : decode cL_law 588 = .ok (.iaload, 1) := gdL_law_586.2.2.1
theorem dL_law_589 : decode cL_law 589 = .ok (.aload_n 0, 1) := gdL_law_586.2.2.2.1
theorem dL_law_590 : decode cL_law 590 = .ok (.iload_n 3, 1) := gdL_law_586.2.2.2.2.1
theorem dL_law_591 : decode cL_law 591 = .ok (.iconst 2, 1) := gdL_law_586.2.2.2.2.2.1
theorem dL_law_592 : decode cL_law 592 = .ok (.iadd, 1) := gdL_law_586.2.2.2.2.2.2.1
theorem dL_law_593 : decode cL_law 593 = .ok (.iaload, 1) := gdL_law_586.2.2.2.2.2.2.2
set_option maxRecDepth 20000 in
theorem gdL_law_594 : decode cL_law 594 = .ok (.invokevirtual 66, 3) ∧ decode cL_law 597 = .ok (.pop, 1) ∧ decode cL_law 598 = .ok (.aload_n 2, 1) ∧ decode cL_law 599 = .ok (.aload_n 0, 1) ∧ decode cL_law 600 = .ok (.iload_n 3, 1) ∧ decode cL_law 601 = .ok (.iconst 1, 1) ∧ decode cL_law 602 = .ok (.iadd, 1) ∧ decode cL_law 603 = .ok (.iaload, 1) := by decide +kernel
theorem dL_law_594 : decode cL_law 594 = .ok (.invokevirtual 66, 3) := gdL_law_594.1
theorem dL_law_597 : decode cL_law 597 = .ok (.pop, 1) := gdL_law_594.2.1
theorem dL_law_598 : decode cL_law 598 = .ok (.aload_n 2, 1) := gdL_law_594.2.2.1
theorem dL_law_599 : decode cL_law 599 = .ok (.aload_n 0, 1) := gdL_law_594.2.2.2.1
theorem dL_law_600 : decode cL_law 600 = .ok (.iload_n 3, 1) := gdL_law_594.2.2.2.2.1
theorem dL_law_601 : decode cL_law 601 = .ok (.iconst 1, 1) := gdL_law_594.2.2.2.2.2.1
theorem dL_law_602 : decode cL_law 602 = .ok (.iadd, 1) := gdL_law_594.2.2.2.2.2.2.1
theorem dL_law_603 : decode cL_law 603 = .ok (.iaload, 1) := gdL_law_594.2.2.2.2.2.2.2
set_option maxRecDepth 20000 in
theorem gdL_law_604 : decode cL_law 604 = .ok (.aload_n 0, 1) ∧ decode cL_law 605 = .ok (.iload_n 3, 1) ∧ decode cL_law 606 = .ok (.iconst 2, 1) ∧ decode cL_law 607 = .ok (.iadd, 1) ∧ decode cL_law 608 = .ok (.iaload, 1) ∧ decode cL_law 609 = .ok (.invokevirtual 69, 3) ∧ decode cL_law 612 = .ok (.pop, 1) ∧ decode cL_law 613 = .ok (.goto 421, 3) := by decide +kernel
theorem dL_law_604 : decode cL_law 604 = .ok (.aload_n 0, 1) := gdL_law_604.1
theorem dL_law_605 : decode cL_law 605 = .ok (.iload_n 3, 1) := gdL_law_604.2.1
theorem dL_law_606 : decode cL_law 606 = .ok (.iconst 2, 1) := gdL_law_604.2.2.1
theorem dL_law_607 : decode cL_law 607 = .ok (.iadd, 1) := gdL_law_604.2.2.2.1
theorem dL_law_608 : decode cL_law 608 = .ok (.iaload, 1) := gdL_law_604.2.2.2.2.1
theorem dL_law_609 : decode cL_law 609 = .ok (.invokevirtual 69, 3) := gdL_law_604.2.2.2.2.2.1
theorem dL_law_612 : decode cL_law 612 = .ok (.pop, 1) := gdL_law_604.2.2.2.2.2.2.1
theorem dL_law_613 : decode cL_law 613 = .ok (.goto 421, 3) := gdL_law_604.2.2.2.2.2.2.2
set_option maxRecDepth 20000 in
theorem gdL_law_616 : decode cL_law 616 = .ok (.aload_n 1, 1) ∧ decode cL_law 617 = .ok (.aload_n 0, 1) ∧ decode cL_law 618 = .ok (.iload_n 3, 1) ∧ decode cL_law 619 = .ok (.iconst 1, 1) ∧ decode cL_law 620 = .ok (.iadd, 1) ∧ decode cL_law 621 = .ok (.iaload, 1) ∧ decode cL_law 622 = .ok (.invokevirtual 70, 3) ∧ decode cL_law 625 = .ok (.pop, 1) := by decide +kernel
theorem dL_law_616 : decode cL_law 616 = .ok (.aload_n 1, 1) := gdL_law_616.1
theorem dL_law_617 : decode cL_law 617 = .ok (.aload_n 0, 1) := gdL_law_616.2.1
theorem dL_law_618 : decode cL_law 618 = .ok (.iload_n 3, 1) := gdL_law_616.2.2.1
theorem dL_law_619 : decode cL_law 619 = .ok (.iconst 1, 1) := gdL_law_616.2.2.2.1
theorem dL_law_620 : decode cL_law 620 = .ok (.iadd, 1) := gdL_law_616.2.2.2.2.1
theorem dL_law_621 : decode cL_law 621 = .ok (.iaload, 1) := gdL_law_616.2.2.2.2.2.1
theorem dL_law_622 : decode cL_law 622 = .ok (.invokevirtual 70, 3) := gdL_law_616.2.2.2.2.2.2.1
theorem dL_law_625 : decode cL_law 625 = .ok (.pop, 1) := gdL_law_616.2.2.2.2.2.2.2
set_option maxRecDepth 20000 in
theorem gdL_law_626 : decode cL_law 626 = .ok (.aload_n 2, 1) ∧ decode cL_law 627 = .ok (.aload_n 0, 1) ∧ decode cL_law 628 = .ok (.iload_n 3, 1) ∧ decode cL_law 629 = .ok (.iconst 1, 1) ∧ decode cL_law 630 = .ok (.iadd, 1) ∧ decode cL_law 631 = .ok (.iaload, 1) ∧ decode cL_law 632 = .ok (.invokevirtual 73, 3) ∧ decode cL_law 635 = .ok (.pop, 1) := by decide +kernel
theorem dL_law_626 : decode cL_law 626 = .ok (.aload_n 2, 1) := gdL_law_626.1
theorem dL_law_627 : decode cL_law 627 = .ok (.aload_n 0, 1) := gdL_law_626.2.1
theorem dL_law_628 : decode cL_law 628 = .ok (.iload_n 3, 1) := gdL_law_626.2.2.1
theorem dL_law_629 : decode cL_law 629 = .ok (.iconst 1, 1) := gdL_law_626.2.2.2.1
theorem dL_law_630 : decode cL_law 630 = .ok (.iadd, 1) := gdL_law_626.2.2.2.2.1
theorem dL_law_631 : decode cL_law 631 = .ok (.iaload, 1) := gdL_law_626.2.2.2.2.2.1
theorem dL_law_632 : decode cL_law 632 = .ok (.invokevirtual 73, 3) := gdL_law_626.2.2.2.2.2.2.1
theorem dL_law_635 : decode cL_law 635 = .ok (.pop, 1) := gdL_law_626.2.2.2.2.2.2.2
set_option maxRecDepth 20000 in
theorem gdL_law_636 : decode cL_law 636 = .ok (.goto 398, 3) ∧ decode cL_law 639 = .ok (.aload_n 1, 1) ∧ decode cL_law 640 = .ok (.aload_n 0, 1) ∧ decode cL_law 641 = .ok (.iload_n 3, 1) ∧ decode cL_law 642 = .ok (.iconst 1, 1) ∧ decode cL_law 643 = .ok (.iadd, 1) ∧ decode cL_law 644 = .ok (.iaload, 1) ∧ decode cL_law 645 = .ok (.invokevirtual 74, 3) := by decide +kernel
theorem dL_law_636 : decode cL_law 636 = .ok (.goto 398, 3) := gdL_law_636.1
theorem dL_law_639 : decode cL_law 639 = .ok (.aload_n 1, 1) := gdL_law_636.2.1
theorem dL_law_640 : decode cL_law 640 = .ok (.aload_n 0, 1) := gdL_law_636.2.2.1
theorem dL_law_641 : decode cL_law 641 = .ok (.iload_n 3, 1) := gdL_law_636.2.2.2.1
theorem dL_law_642 : decode cL_law 642 = .ok (.iconst 1, 1) := gdL_law_636.2.2.2.2.1
theorem dL_law_643 : decode cL_law 643 = .ok (.iadd, 1) := gdL_law_636.2.2.2.2.2.1
theorem dL_law_644 : decode cL_law 644 = .ok (.iaload, 1) := gdL_law_636.2.2.2.2.2.2.1
theorem dL_law_645 : decode cL_law 645 = .ok (.invokevirtual 74, 3) := gdL_law_636.2.2.2.2.2.2.2
set_option maxRecDepth 20000 in
theorem gdL_law_648 : decode cL_law 648 = .ok (.pop, 1) ∧ decode cL_law 649 = .ok (.aload_n 2, 1) ∧ decode cL_law 650 = .ok (.aload_n 0, 1) ∧ decode cL_law 651 = .ok (.iload_n 3, 1) ∧ decode cL_law 652 = .ok (.iconst 1, 1) ∧ decode cL_law 653 = .ok (.iadd, 1) ∧ decode cL_law 654 = .ok (.iaload, 1) ∧ decode cL_law 655 = .ok (.invokevirtual 77, 3) := by decide +kernel
theorem dL_law_648 : decode cL_law 648 = .ok (.pop, 1) := gdL_law_648.1
theorem dL_law_649 : decode cL_law 649 = .ok (.aload_n 2, 1) := gdL_law_648.2.1
theorem dL_law_650 : decode cL_law 650 = .ok (.aload_n 0, 1) := gdL_law_648.2.2.1
theorem dL_law_651 : decode cL_law 651 = .ok (.iload_n 3, 1) := gdL_law_648.2.2.2.1
theorem dL_law_652 : decode cL_law 652 = .ok (.iconst 1, 1) := gdL_law_648.2.2.2.2.1
theorem dL_law_653 : decode cL_law 653 = .ok (.iadd, 1) := gdL_law_648.2.2.2.2.2.1
theorem dL_law_654 : decode cL_law 654 = .ok (.iaload, 1) := gdL_law_648.2.2.2.2.2.2.1
theorem dL_law_655 : decode cL_law 655 = .ok (.invokevirtual 77, 3) := gdL_law_648.2.2.2.2.2.2.2
set_option maxRecDepth 20000 in
theorem gdL_law_658 : decode cL_law 658 = .ok (.pop, 1) ∧ decode cL_law 659 = .ok (.goto 375, 3) ∧ decode cL_law 662 = .ok (.aload_n 1, 1) ∧ decode cL_law 663 = .ok (.aload_n 0, 1) ∧ decode cL_law 664 = .ok (.iload_n 3, 1) ∧ decode cL_law 665 = .ok (.iconst 1, 1) ∧ decode cL_law 666 = .ok (.iadd, 1) ∧ decode cL_law 667 = .ok (.iaload, 1) := by decide +kernel
theorem dL_law_658 : decode cL_law 658 = .ok (.pop, 1) := gdL_law_658.1
theorem dL_law_659 : decode cL_law 659 = .ok (.goto 375, 3) := gdL_law_658.2.1
theorem dL_law_662 : decode cL_law 662 = .ok (.aload_n 1, 1) := gdL_law_658.2.2.1
theorem dL_law_663 : decode cL_law 663 = .ok (.aload_n 0, 1) := gdL_law_658.2.2.2.1
theorem dL_law_664 : decode cL_law 664 = .ok (.iload_n 3, 1) := gdL_law_658.2.2.2.2.1
theorem dL_law_665 : decode cL_law 665 = .ok (.iconst 1, 1) := gdL_law_658.2.2.2.2.2.1
theorem dL_law_666 : decode cL_law 666 = .ok (.iadd, 1) := gdL_law_658.2.2.2.2.2.2.1
theorem dL_law_667 : decode cL_law 667 = .ok (.iaload, 1) := gdL_law_658.2.2.2.2.2.2.2
set_option maxRecDepth 20000 in
theorem gdL_law_668 : decode cL_law 668 = .ok (.aload_n 0, 1) ∧ decode cL_law 669 = .ok (.iload_n 3, 1) ∧ decode cL_law 670 = .ok (.iconst 2, 1) ∧ decode cL_law 671 = .ok (.iadd, 1) ∧ decode cL_law 672 = .ok (.iaload, 1) ∧ decode cL_law 673 = .ok (.aload_n 0, 1) ∧ decode cL_law 674 = .ok (.iload_n 3, 1) ∧ decode cL_law 675 = .ok (.iconst 3, 1) := by decide +kernel
theorem dL_law_668 : decode cL_law 668 = .ok (.aload_n 0, 1) := gdL_law_668.1
theorem dL_law_669 : decode cL_law 669 = .ok (.iload_n 3, 1) := gdL_law_668.2.1
theorem dL_law_670 : decode cL_law 670 = .ok (.iconst 2, 1) := gdL_law_668.2.2.1
theorem dL_law_671 : decode cL_law 671 = .ok (.iadd, 1) := gdL_law_668.2.2.2.1
theorem dL_law_672 : decode cL_law 672 = .ok (.iaload, 1) := gdL_law_668.2.2.2.2.1
theorem dL_law_673 : decode cL_law 673 = .ok (.aload_n 0, 1) := gdL_law_668.2.2.2.2.2.1
theorem dL_law_674 : decode cL_law 674 = .ok (.iload_n 3, 1) := gdL_law_668.2.2.2.2.2.2.1
theorem dL_law_675 : decode cL_law 675 = .ok (.iconst 3, 1) := gdL_law_668.2.2.2.2.2.2.2
set_option maxRecDepth 20000 in
theorem gdL_law_676 : decode cL_law 676 = .ok (.iadd, 1) ∧ decode cL_law 677 = .ok (.iaload, 1) ∧ decode cL_law 678 = .ok (.invokevirtual 78, 3) ∧ decode cL_law 681 = .ok (.pop, 1) ∧ decode cL_law 682 = .ok (.aload_n 2, 1) ∧ decode cL_law 683 = .ok (.aload_n 0, 1) ∧ decode cL_law 684 = .ok (.iload_n 3, 1) ∧ decode cL_law 685 = .ok (.iconst 1, 1) := by decide +kernel
theorem dL_law_676 : decode cL_law 676 = .ok (.iadd, 1) := gdL_law_676.1
theorem dL_law_677 : decode cL_law 677 = .ok (.iaload, 1) := gdL_law_676.2.1
theorem dL_law_678 : decode cL_law 678 = .ok (.invokevirtual 78, 3) := gdL_law_676.2.2.1
theorem dL_law_681 : decode cL_law 681 = .ok (.pop, 1) := gdL_law_676.2.2.2.1
theorem dL_law_682 : decode cL_law 682 = .ok (.aload_n 2, 1) := gdL_law_676.2.2.2.2.1
theorem dL_law_683 : decode cL_law 683 = .ok (.aload_n 0, 1) := gdL_law_676.2.2.2.2.2.1
theorem dL_law_684 : decode cL_law 684 = .ok (.iload_n 3, 1) := gdL_law_676.2.2.2.2.2.2.1
theorem dL_law_685 : decode cL_law 685 = .ok (.iconst 1, 1) := gdL_law_676.2.2.2.2.2.2.2
set_option maxRecDepth 20000 in
theorem gdL_law_686 : decode cL_law 686 = .ok (.iadd, 1) ∧ decode cL_law 687 = .ok (.iaload, 1) ∧ decode cL_law 688 = .ok (.aload_n 0, 1) ∧ decode cL_law 689 = .ok (.iload_n 3, 1) ∧ decode cL_law 690 = .ok (.iconst 2, 1) ∧ decode cL_law 691 = .ok (.iadd, 1) ∧ decode cL_law 692 = .ok (.iaload, 1) ∧ decode cL_law 693 = .ok (.aload_n 0, 1) := by decide +kernel
theorem dL_law_686 : decode cL_law 686 = .ok (.iadd, 1) := gdL_law_686.1
theorem dL_law_687 : decode cL_law 687 = .ok (.iaload, 1) := gdL_law_686.2.1
theorem dL_law_688 : decode cL_law 688 = .ok (.aload_n 0, 1) := gdL_law_686.2.2.1
theorem dL_law_689 : decode cL_law 689 = .ok (.iload_n 3, 1) := gdL_law_686.2.2.2.1
theorem dL_law_690 : decode cL_law 690 = .ok (.iconst 2, 1) := gdL_law_686.2.2.2.2.1
theorem dL_law_691 : decode cL_law 691 = .ok (.iadd, 1) := gdL_law_686.2.2.2.2.2.1
theorem dL_law_692 : decode cL_law 692 = .ok (.iaload, 1) := gdL_law_686.2.2.2.2.2.2.1
theorem dL_law_693 : decode cL_law 693 = .ok (.aload_n 0, 1) := gdL_law_686.2.2.2.2.2.2.2
set_option maxRecDepth 20000 in
theorem gdL_law_694 : decode cL_law 694 = .ok (.iload_n 3, 1) ∧ decode cL_law 695 = .ok (.iconst 3, 1) ∧ decode cL_law 696 = .ok (.iadd, 1) ∧ decode cL_law 697 = .ok (.iaload, 1) ∧ decode cL_law 698 = .ok (.invokevirtual 81, 3) ∧ decode cL_law 701 = .ok (.pop, 1) ∧ decode cL_law 702 = .ok (.goto 332, 3) ∧ decode cL_law 705 = .ok (.aload_n 1, 1) := by decide +kernel
theorem dL_law_694 : decode cL_law 694 = .ok (.iload_n 3, 1) := gdL_law_694.1
theorem dL_law_695 : decode cL_law 695 = .ok (.iconst 3, 1) := gdL_law_694.2.1
theorem dL_law_696 : decode cL_law 696 = .ok (.iadd, 1) := gdL_law_694.2.2.1
theorem dL_law_697 : decode cL_law 697 = .ok (.iaload, 1) := gdL_law_694.2.2.2.1
theorem dL_law_698 : decode cL_law 698 = .ok (.invokevirtual 81, 3) := gdL_law_694.2.2.2.2.1
theorem dL_law_701 : decode cL_law 701 = .ok (.pop, 1) := gdL_law_694.2.2.2.2.2.1
theorem dL_law_702 : decode cL_law 702 = .ok (.goto 332, 3) := gdL_law_694.2.2.2.2.2.2.1
theorem dL_law_705 : decode cL_law 705 = .ok (.aload_n 1, 1) := gdL_law_694.2.2.2.2.2.2.2
set_option maxRecDepth 20000 in
theorem gdL_law_706 : decode cL_law 706 = .ok (.aload_n 0, 1) ∧ decode cL_law 707 = .ok (.iload_n 3, 1) ∧ decode cL_law 708 = .ok (.iconst 1, 1) ∧ decode cL_law 709 = .ok (.iadd, 1) ∧ decode cL_law 710 = .ok (.iaload, 1) ∧ decode cL_law 711 = .ok (.invokevirtual 82, 3) ∧ decode cL_law 714 = .ok (.pop, 1) ∧ decode cL_law 715 = .ok (.aload_n 2, 1) := by decide +kernel
theorem dL_law_706 : decode cL_law 706 = .ok (.aload_n 0, 1) := gdL_law_706.1
theorem dL_law_707 : decode cL_law 707 = .ok (.iload_n 3, 1) := gdL_law_706.2.1
theorem dL_law_708 : decode cL_law 708 = .ok (.iconst 1, 1) := gdL_law_706.2.2.1
theorem dL_law_709 : decode cL_law 709 = .ok (.iadd, 1) := gdL_law_706.2.2.2.1
theorem dL_law_710 : decode cL_law 710 = .ok (.iaload, 1) := gdL_law_706.2.2.2.2.1
theorem dL_law_711 : decode cL_law 711 = .ok (.invokevirtual 82, 3) := gdL_law_706.2.2.2.2.2.1
theorem dL_law_714 : decode cL_law 714 = .ok (.pop, 1) := gdL_law_706.2.2.2.2.2.2.1
theorem dL_law_715 : decode cL_law 715 = .ok (.aload_n 2, 1) := gdL_law_706.2.2.2.2.2.2.2
set_option maxRecDepth 20000 in
theorem gdL_law_716 : decode cL_law 716 = .ok (.aload_n 0, 1) ∧ decode cL_law 717 = .ok (.iload_n 3, 1) ∧ decode cL_law 718 = .ok (.iconst 1, 1) ∧ decode cL_law 719 = .ok (.iadd, 1) ∧ decode cL_law 720 = .ok (.iaload, 1) ∧ decode cL_law 721 = .ok (.invokevirtual 85, 3) ∧ decode cL_law 724 = .ok (.pop, 1) ∧ decode cL_law 725 = .ok (.goto 309, 3) := by decide +kernel
theorem dL_law_716 : decode cL_law 716 = .ok (.aload_n 0, 1) := gdL_law_716.1
theorem dL_law_717 : decode cL_law 717 = .ok (.iload_n 3, 1) := gdL_law_716.2.1
theorem dL_law_718 : decode cL_law 718 = .ok (.iconst 1, 1) := gdL_law_716.2.2.1
theorem dL_law_719 : decode cL_law 719 = .ok (.iadd, 1) := gdL_law_716.2.2.2.1
theorem dL_law_720 : decode cL_law 720 = .ok (.iaload, 1) := gdL_law_716.2.2.2.2.1
theorem dL_law_721 : decode cL_law 721 = .ok (.invokevirtual 85, 3) := gdL_law_716.2.2.2.2.2.1
theorem dL_law_724 : decode cL_law 724 = .ok (.pop, 1) := gdL_law_716.2.2.2.2.2.2.1
theorem dL_law_725 : decode cL_law 725 = .ok (.goto 309, 3) := gdL_law_716.2.2.2.2.2.2.2
set_option maxRecDepth 20000 in
theorem gdL_law_728 : decode cL_law 728 = .ok (.aload_n 1, 1) ∧ decode cL_law 729 = .ok (.aload_n 0, 1) ∧ decode cL_law 730 = .ok (.iload_n 3, 1) ∧ decode cL_law 731 = .ok (.iconst 1, 1) ∧ decode cL_law 732 = .ok (.iadd, 1) ∧ decode cL_law 733 = .ok (.iaload, 1) ∧ decode cL_law 734 = .ok (.invokevirtual 86, 3) ∧ decode cL_law 737 = .ok (.pop, 1) := by decide +kernel
theorem dL_law_728 : decode cL_law 728 = .ok (.aload_n 1, 1) := gdL_law_728.1
theorem dL_law_729 : decode cL_law 729 = .ok (.aload_n 0, 1) := gdL_law_728.2.1
theorem dL_law_730 : decode cL_law 730 = .ok (.iload_n 3, 1) := gdL_law_728.2.2.1
theorem dL_law_731 : decode cL_law 731 = .ok (.iconst 1, 1) := gdL_law_728.2.2.2.1
theorem dL_law_732 : decode cL_law 732 = .ok (.iadd, 1) := gdL_law_728.2.2.2.2.1
theorem dL_law_733 : decode cL_law 733 = .ok (.iaload, 1) := gdL_law_728.2.2.2.2.2.1
theorem dL_law_734 : decode cL_law 734 = .ok (.invokevirtual 86, 3) := gdL_law_728.2.2.2.2.2.2.1
theorem dL_law_737 : decode cL_law 737 = .ok (.pop, 1) := gdL_law_728.2.2.2.2.2.2.2
set_option maxRecDepth 20000 in
theorem gdL_law_738 : decode cL_law 738 = .ok (.aload_n 2, 1) ∧ decode cL_law 739 = .ok (.aload_n 0, 1) ∧ decode cL_law 740 = .ok (.iload_n 3, 1) ∧ decode cL_law 741 = .ok (.iconst 1, 1) ∧ decode cL_law 742 = .ok (.iadd, 1) ∧ decode cL_law 743 = .ok (.iaload, 1) ∧ decode cL_law 744 = .ok (.invokevirtual 89, 3) ∧ decode cL_law 747 = .ok (.pop, 1) := by decide +kernel
theorem dL_law_738 : decode cL_law 738 = .ok (.aload_n 2, 1) := gdL_law_738.1
theorem dL_law_739 : decode cL_law 739 = .ok (.aload_n 0, 1) := gdL_law_738.2.1
theorem dL_law_740 : decode cL_law 740 = .ok (.iload_n 3, 1) := gdL_law_738.2.2.1
theorem dL_law_741 : decode cL_law 741 = .ok (.iconst 1, 1) := gdL_law_738.2.2.2.1
theorem dL_law_742 : decode cL_law 742 = .ok (.iadd, 1) := gdL_law_738.2.2.2.2.1
theorem dL_law_743 : decode cL_law 743 = .ok (.iaload, 1) := gdL_law_738.2.2.2.2.2.1
theorem dL_law_744 : decode cL_law 744 = .ok (.invokevirtual 89, 3) := gdL_law_738.2.2.2.2.2.2.1
theorem dL_law_747 : decode cL_law 747 = .ok (.pop, 1) := gdL_law_738.2.2.2.2.2.2.2
set_option maxRecDepth 20000 in
theorem gdL_law_748 : decode cL_law 748 = .ok (.goto 286, 3) ∧ decode cL_law 751 = .ok (.aload_n 1, 1) ∧ decode cL_law 752 = .ok (.aload_n 0, 1) ∧ decode cL_law 753 = .ok (.iload_n 3, 1) ∧ decode cL_law 754 = .ok (.iconst 1, 1) ∧ decode cL_law 755 = .ok (.iadd, 1) ∧ decode cL_law 756 = .ok (.iaload, 1) ∧ decode cL_law 757 = .ok (.aload_n 0, 1) := by decide +kernel
theorem dL_law_748 : decode cL_law 748 = .ok (.goto 286, 3) := gdL_law_748.1
theorem dL_law_751 : decode cL_law 751 = .ok (.aload_n 1, 1) := gdL_law_748.2.1
theorem dL_law_752 : decode cL_law 752 = .ok (.aload_n 0, 1) := gdL_law_748.2.2.1
theorem dL_law_753 : decode cL_law 753 = .ok (.iload_n 3, 1) := gdL_law_748.2.2.2.1
theorem dL_law_754 : decode cL_law 754 = .ok (.iconst 1, 1) := gdL_law_748.2.2.2.2.1
theorem dL_law_755 : decode cL_law 755 = .ok (.iadd, 1) := gdL_law_748.2.2.2.2.2.1
theorem dL_law_756 : decode cL_law 756 = .ok (.iaload, 1) := gdL_law_748.2.2.2.2.2.2.1
theorem dL_law_757 : decode cL_law 757 = .ok (.aload_n 0, 1) := gdL_law_748.2.2.2.2.2.2.2
set_option maxRecDepth 20000 in
theorem gdL_law_758 : decode cL_law 758 = .ok (.iload_n 3, 1) ∧ decode cL_law 759 = .ok (.iconst 2, 1) ∧ decode cL_law 760 = .ok (.iadd, 1) ∧ decode cL_law 761 = .ok (.iaload, 1) ∧ decode cL_law 762 = .ok (.invokevirtual 90, 3) ∧ decode cL_law 765 = .ok (.pop, 1) ∧ decode cL_law 766 = .ok (.aload_n 2, 1) ∧ decode cL_law 767 = .ok (.aload_n 0, 1) := by decide +kernel
theorem dL_law_758 : decode cL_law 758 = .ok (.iload_n 3, 1) := gdL_law_758.1
theorem dL_law_759 : decode cL_law 759 = .ok (.iconst 2, 1) := gdL_law_758.2.1
theorem dL_law_760 : decode cL_law 760 = .ok (.iadd, 1) := gdL_law_758.2.2.1
theorem dL_law_761 : decode cL_law 761 = .ok (.iaload, 1) := gdL_law_758.2.2.2.1
theorem dL_law_762 : decode cL_law 762 = .ok (.invokevirtual 90, 3) := gdL_law_758.2.2.2.2.1
theorem dL_law_765 : decode cL_law 765 = .ok (.pop, 1) := gdL_law_758.2.2.2.2.2.1
theorem dL_law_766 : decode cL_law 766 = .ok (.aload_n 2, 1) := gdL_law_758.2.2.2.2.2.2.1
theorem dL_law_767 : decode cL_law 767 = .ok (.aload_n 0, 1) := gdL_law_758.2.2.2.2.2.2.2
set_option maxRecDepth 20000 in
theorem gdL_law_768 : decode cL_law 768 = .ok (.iload_n 3, 1) ∧ decode cL_law 769 = .ok (.iconst 1, 1) ∧ decode cL_law 770 = .ok (.iadd, 1) ∧ decode cL_law 771 = .ok (.iaload, 1) ∧ decode cL_law 772 = .ok (.aload_n 0, 1) ∧ decode cL_law 773 = .ok (.iload_n 3, 1) ∧ decode cL_law 774 = .ok (.iconst 2, 1) ∧ decode cL_law 775 = .ok (.iadd, 1) := by decide +kernel
theorem dL_law_768 : decode cL_law 768 = .ok (.iload_n 3, 1) := gdL_law_768.1
theorem dL_law_769 : decode cL_law 769 = .ok (.iconst 1, 1) := gdL_law_768.2.1
theorem dL_law_770 : decode cL_law 770 = .ok (.iadd, 1) := gdL_law_768.2.2.1
theorem dL_law_771 : decode cL_law 771 = .ok (.iaload, 1) := gdL_law_768.2.2.2.1
theorem dL_law_772 : decode cL_law 772 = .ok (.aload_n 0, 1) := gdL_law_768.2.2.2.2.1
theorem dL_law_773 : decode cL_law 773 = .ok (.iload_n 3, 1) := gdL_law_768.2.2.2.2.2.1
theorem dL_law_774 : decode cL_law 774 = .ok (.iconst 2, 1) := gdL_law_768.2.2.2.2.2.2.1
theorem dL_law_775 : decode cL_law 775 = .ok (.iadd, 1) := gdL_law_768.2.2.2.2.2.2.2
set_option maxRecDepth 20000 in
theorem gdL_law_776 : decode cL_law 776 = .ok (.iaload, 1) ∧ decode cL_law 777 = .ok (.invokevirtual 93, 3) ∧ decode cL_law 780 = .ok (.pop, 1) ∧ decode cL_law 781 = .ok (.goto 253, 3) ∧ decode cL_law 784 = .ok (.aload_n 1, 1) ∧ decode cL_law 785 = .ok (.aload_n 0, 1) ∧ decode cL_law 786 = .ok (.iload_n 3, 1) ∧ decode cL_law 787 = .ok (.iconst 1, 1) := by decide +kernel
theorem dL_law_776 : decode cL_law 776 = .ok (.iaload, 1) := gdL_law_776.1
theorem dL_law_777 : decode cL_law 777 = .ok (.invokevirtual 93, 3) := gdL_law_776.2.1
theorem dL_law_780 : decode cL_law 780 = .ok (.pop, 1) := gdL_law_776.2.2.1
theorem dL_law_781 : decode cL_law 781 = .ok (.goto 253, 3) := gdL_law_776.2.2.2.1
theorem dL_law_784 : decode cL_law 784 = .ok (.aload_n 1, 1) := gdL_law_776.2.2.2.2.1
theorem dL_law_785 : decode cL_law 785 = .ok (.aload_n 0, 1) := gdL_law_776.2.2.2.2.2.1
theorem dL_law_786 : decode cL_law 786 = .ok (.iload_n 3, 1) := gdL_law_776.2.2.2.2.2.2.1
theorem dL_law_787 : decode cL_law 787 = .ok (.iconst 1, 1) := gdL_law_776.2.2.2.2.2.2.2
set_option maxRecDepth 20000 in
theorem gdL_law_788 : decode cL_law 788 = .ok (.iadd, 1) ∧ decode cL_law 789 = .ok (.iaload, 1) ∧ decode cL_law 790 = .ok (.invokevirtual 94, 3) ∧ decode cL_law 793 = .ok (.pop, 1) ∧ decode cL_law 794 = .ok (.aload_n 2, 1) ∧ decode cL_law 795 = .ok (.aload_n 0, 1) ∧ decode cL_law 796 = .ok (.iload_n 3, 1) ∧ decode cL_law 797 = .ok (.iconst 1, 1) := by decide +kernel
theorem dL_law_788 : decode cL_law 788 = .ok (.iadd, 1) := gdL_law_788.1
theorem dL_law_789 : decode cL_law 789 = .ok (.iaload, 1) := gdL_law_788.2.1
theorem dL_law_790 : decode cL_law 790 = .ok (.invokevirtual 94, 3) := gdL_law_788.2.2.1
theorem dL_law_793 : decode cL_law 793 = .ok (.pop, 1) := gdL_law_788.2.2.2.1
theorem dL_law_794 : decode cL_law 794 = .ok (.aload_n 2, 1) := gdL_law_788.2.2.2.2.1
theorem dL_law_795 : decode cL_law 795 = .ok (.aload_n 0, 1) := gdL_law_788.2.2.2.2.2.1
theorem dL_law_796 : decode cL_law 796 = .ok (.iload_n 3, 1) := gdL_law_788.2.2.2.2.2.2.1
theorem dL_law_797 : decode cL_law 797 = .ok (.iconst 1, 1) := gdL_law_788.2.2.2.2.2.2.2
set_option maxRecDepth 20000 in
theorem gdL_law_798 : decode cL_law 798 = .ok (.iadd, 1) ∧ decode cL_law 799 = .ok (.iaload, 1) ∧ decode cL_law 800 = .ok (.invokevirtual 97, 3) ∧ decode cL_law 803 = .ok (.pop, 1) ∧ decode cL_law 804 = .ok (.goto 230, 3) ∧ decode cL_law 807 = .ok (.aload_n 1, 1) ∧ decode cL_law 808 = .ok (.aload_n 0, 1) ∧ decode cL_law 809 = .ok (.iload_n 3, 1) := by decide +kernel
theorem dL_law_798 : decode cL_law 798 = .ok (.iadd, 1) := gdL_law_798.1
theorem dL_law_799 : decode cL_law 799 = .ok (.iaload, 1) := gdL_law_798.2.1
theorem dL_law_800 : decode cL_law 800 = .ok (.invokevirtual 97, 3) := gdL_law_798.2.2.1
theorem dL_law_803 : decode cL_law 803 = .ok (.pop, 1) := gdL_law_798.2.2.2.1
theorem dL_law_804 : decode cL_law 804 = .ok (.goto 230, 3) := gdL_law_798.2.2.2.2.1
theorem dL_law_807 : decode cL_law 807 = .ok (.aload_n 1, 1) := gdL_law_798.2.2.2.2.2.1
theorem dL_law_808 : decode cL_law 808 = .ok (.aload_n 0, 1) := gdL_law_798.2.2.2.2.2.2.1
theorem dL_law_809 : decode cL_law 809 = .ok (.iload_n 3, 1) := gdL_law_798.2.2.2.2.2.2.2
set_option maxRecDepth 20000 in
theorem gdL_law_810 : decode cL_law 810 = .ok (.iconst 1, 1) ∧ decode cL_law 811 = .ok (.iadd, 1) ∧ decode cL_law 812 = .ok (.iaload, 1) ∧ decode cL_law 813 = .ok (.aload_n 0, 1) ∧ decode cL_law 814 = .ok (.iload_n 3, 1) ∧ decode cL_law 815 = .ok (.iconst 2, 1) ∧ decode cL_law 816 = .ok (.iadd, 1) ∧ decode cL_law 817 = .ok (.iaload, 1) := by decide +kernel
theorem dL_law_810 : decode cL_law 810 = .ok (.iconst 1, 1) := gdL_law_810.1
theorem dL_law_811 : decode cL_law 811 = .ok (.iadd, 1) := gdL_law_810.2.1
theorem dL_law_812 : decode cL_law 812 = .ok (.iaload, 1) := gdL_law_810.2.2.1
theorem dL_law_813 : decode cL_law 813 = .ok (.aload_n 0, 1) := gdL_law_810.2.2.2.1
theorem dL_law_814 : decode cL_law 814 = .ok (.iload_n 3, 1) := gdL_law_810.2.2.2.2.1
theorem dL_law_815 : decode cL_law 815 = .ok (.iconst 2, 1) := gdL_law_810.2.2.2.2.2.1
theorem dL_law_816 : decode cL_law 816 = .ok (.iadd, 1) := gdL_law_810.2.2.2.2.2.2.1
theorem dL_law_817 : decode cL_law 817 = .ok (.iaload, 1) := gdL_law_810.2.2.2.2.2.2.2
set_option maxRecDepth 20000 in
theorem gdL_law_818 : decode cL_law 818 = .ok (.invokevirtual 98, 3) ∧ decode cL_law 821 = .ok (.pop, 1) ∧ decode cL_law 822 = .ok (.aload_n 2, 1) ∧ decode cL_law 823 = .ok (.aload_n 0, 1) ∧ decode cL_law 824 = .ok (.iload_n 3, 1) ∧ decode cL_law 825 = .ok (.iconst 1, 1) ∧ decode cL_law 826 = .ok (.iadd, 1) ∧ decode cL_law 827 = .ok (.iaload, 1) := by decide +kernel
theorem dL_law_818 : decode cL_law 818 = .ok (.invokevirtual 98, 3) := gdL_law_818.1
theorem dL_law_821 : decode cL_law 821 = .ok (.pop, 1) := gdL_law_818.2.1
theorem dL_law_822 : decode cL_law 822 = .ok (.aload_n 2, 1) := gdL_law_818.2.2.1
theorem dL_law_823 : decode cL_law 823 = .ok (.aload_n 0, 1) := gdL_law_818.2.2.2.1
theorem dL_law_824 : decode cL_law 824 = .ok (.iload_n 3, 1) := gdL_law_818.2.2.2.2.1
theorem dL_law_825 : decode cL_law 825 = .ok (.iconst 1, 1) := gdL_law_818.2.2.2.2.2.1
theorem dL_law_826 : decode cL_law 826 = .ok (.iadd, 1) := gdL_law_818.2.2.2.2.2.2.1
theorem dL_law_827 : decode cL_law 827 = .ok (.iaload, 1) := gdL_law_818.2.2.2.2.2.2.2
set_option maxRecDepth 20000 in
theorem gdL_law_828 : decode cL_law 828 = .ok (.aload_n 0, 1) ∧ decode cL_law 829 = .ok (.iload_n 3, 1) ∧ decode cL_law 830 = .ok (.iconst 2, 1) ∧ decode cL_law 831 = .ok (.iadd, 1) ∧ decode cL_law 832 = .ok (.iaload, 1) ∧ decode cL_law 833 = .ok (.invokevirtual 101, 3) ∧ decode cL_law 836 = .ok (.pop, 1) ∧ decode cL_law 837 = .ok (.goto 197, 3) := by decide +kernel
theorem dL_law_828 : decode cL_law 828 = .ok (.aload_n 0, 1) := gdL_law_828.1
theorem dL_law_829 : decode cL_law 829 = .ok (.iload_n 3, 1) := gdL_law_828.2.1
theorem dL_law_830 : decode cL_law 830 = .ok (.iconst 2, 1) := gdL_law_828.2.2.1
theorem dL_law_831 : decode cL_law 831 = .ok (.iadd, 1) := gdL_law_828.2.2.2.1
theorem dL_law_832 : decode cL_law 832 = .ok (.iaload, 1) := gdL_law_828.2.2.2.2.1
theorem dL_law_833 : decode cL_law 833 = .ok (.invokevirtual 101, 3) := gdL_law_828.2.2.2.2.2.1
theorem dL_law_836 : decode cL_law 836 = .ok (.pop, 1) := gdL_law_828.2.2.2.2.2.2.1
theorem dL_law_837 : decode cL_law 837 = .ok (.goto 197, 3) := gdL_law_828.2.2.2.2.2.2.2
set_option maxRecDepth 20000 in
theorem gdL_law_840 : decode cL_law 840 = .ok (.aload_n 1, 1) ∧ decode cL_law 841 = .ok (.aload_n 0, 1) ∧ decode cL_law 842 = .ok (.iload_n 3, 1) ∧ decode cL_law 843 = .ok (.iconst 1, 1) ∧ decode cL_law 844 = .ok (.iadd, 1) ∧ decode cL_law 845 = .ok (.iaload, 1) ∧ decode cL_law 846 = .ok (.invokevirtual 102, 3) ∧ decode cL_law 849 = .ok (.pop, 1) := by decide +kernel
theorem dL_law_840 : decode cL_law 840 = .ok (.aload_n 1, 1) := gdL_law_840.1
theorem dL_law_841 : decode cL_law 841 = .ok (.aload_n 0, 1) := gdL_law_840.2.1
theorem dL_law_842 : decode cL_law 842 = .ok (.iload_n 3, 1) := gdL_law_840.2.2.1
theorem dL_law_843 : decode cL_law 843 = .ok (.iconst 1, 1) := gdL_law_840.2.2.2.1
theorem dL_law_844 : decode cL_law 844 = .ok (.iadd, 1) := gdL_law_840.2.2.2.2.1
theorem dL_law_845 : decode cL_law 845 = .ok (.iaload, 1) := gdL_law_840.2.2.2.2.2.1
theorem dL_law_846 : decode cL_law 846 = .ok (.invokevirtual 102, 3) := gdL_law_840.2.2.2.2.2.2.1
theorem dL_law_849 : decode cL_law 849 = .ok (.pop, 1) := gdL_law_840.2.2.2.2.2.2.2
set_option maxRecDepth 20000 in
theorem gdL_law_850 : decode cL_law 850 = .ok (.aload_n 2, 1) ∧ decode cL_law 851 = .ok (.aload_n 0, 1) ∧ decode cL_law 852 = .ok (.iload_n 3, 1) ∧ decode cL_law 853 = .ok (.iconst 1, 1) ∧ decode cL_law 854 = .ok (.iadd, 1) ∧ decode cL_law 855 = .ok (.iaload, 1) ∧ decode cL_law 856 = .ok (.invokevirtual 105, 3) ∧ decode cL_law 859 = .ok (.pop, 1) := by decide +kernel
theorem dL_law_850 : decode cL_law 850 = .ok (.aload_n 2, 1) := gdL_law_850.1
theorem dL_law_851 : decode cL_law 851 = .ok (.aload_n 0, 1) := gdL_law_850.2.1
theorem dL_law_852 : decode cL_law 852 = .ok (.iload_n 3, 1) := gdL_law_850.2.2.1
theorem dL_law_853 : decode cL_law 853 = .ok (.iconst 1, 1) := gdL_law_850.2.2.2.1
theorem dL_law_854 : decode cL_law 854 = .ok (.iadd, 1) := gdL_law_850.2.2.2.2.1
theorem dL_law_855 : decode cL_law 855 = .ok (.iaload, 1) := gdL_law_850.2.2.2.2.2.1
theorem dL_law_856 : decode cL_law 856 = .ok (.invokevirtual 105, 3) := gdL_law_850.2.2.2.2.2.2.1
theorem dL_law_859 : decode cL_law 859 = .ok (.pop, 1) := gdL_law_850.2.2.2.2.2.2.2
set_option maxRecDepth 20000 in
theorem gdL_law_860 : decode cL_law 860 = .ok (.goto 174, 3) ∧ decode cL_law 863 = .ok (.aload_n 1, 1) ∧ decode cL_law 864 = .ok (.aload_n 0, 1) ∧ decode cL_law 865 = .ok (.iload_n 3, 1) ∧ decode cL_law 866 = .ok (.iconst 1, 1) ∧ decode cL_law 867 = .ok (.iadd, 1) ∧ decode cL_law 868 = .ok (.iaload, 1) ∧ decode cL_law 869 = .ok (.invokevirtual 106, 3) := by decide +kernel
theorem dL_law_860 : decode cL_law 860 = .ok (.goto 174, 3) := gdL_law_860.1
theorem dL_law_863 : decode cL_law 863 = .ok (.aload_n 1, 1) := gdL_law_860.2.1
theorem dL_law_864 : decode cL_law 864 = .ok (.aload_n 0, 1) := gdL_law_860.2.2.1
theorem dL_law_865 : decode cL_law 865 = .ok (.iload_n 3, 1) := gdL_law_860.2.2.2.1
theorem dL_law_866 : decode cL_law 866 = .ok (.iconst 1, 1) := gdL_law_860.2.2.2.2.1
theorem dL_law_867 : decode cL_law 867 = .ok (.iadd, 1) := gdL_law_860.2.2.2.2.2.1
theorem dL_law_868 : decode cL_law 868 = .ok (.iaload, 1) := gdL_law_860.2.2.2.2.2.2.1
theorem dL_law_869 : decode cL_law 869 = .ok (.invokevirtual 106, 3) := gdL_law_860.2.2.2.2.2.2.2
set_option maxRecDepth 20000 in
theorem gdL_law_872 : decode cL_law 872 = .ok (.pop, 1) ∧ decode cL_law 873 = .ok (.aload_n 2, 1) ∧ decode cL_law 874 = .ok (.aload_n 0, 1) ∧ decode cL_law 875 = .ok (.iload_n 3, 1) ∧ decode cL_law 876 = .ok (.iconst 1, 1) ∧ decode cL_law 877 = .ok (.iadd, 1) ∧ decode cL_law 878 = .ok (.iaload, 1) ∧ decode cL_law 879 = .ok (.invokevirtual 109, 3) := by decide +kernel
theorem dL_law_872 : decode cL_law 872 = .ok (.pop, 1) := gdL_law_872.1
theorem dL_law_873 : decode cL_law 873 = .ok (.aload_n 2, 1) := gdL_law_872.2.1
theorem dL_law_874 : decode cL_law 874 = .ok (.aload_n 0, 1) := gdL_law_872.2.2.1
theorem dL_law_875 : decode cL_law 875 = .ok (.iload_n 3, 1) := gdL_law_872.2.2.2.1
theorem dL_law_876 : decode cL_law 876 = .ok (.iconst 1, 1) := gdL_law_872.2.2.2.2.1
theorem dL_law_877 : decode cL_law 877 = .ok (.iadd, 1) := gdL_law_872.2.2.2.2.2.1
theorem dL_law_878 : decode cL_law 878 = .ok (.iaload, 1) := gdL_law_872.2.2.2.2.2.2.1
theorem dL_law_879 : decode cL_law 879 = .ok (.invokevirtual 109, 3) := gdL_law_872.2.2.2.2.2.2.2
set_option maxRecDepth 20000 in
theorem gdL_law_882 : decode cL_law 882 = .ok (.pop, 1) ∧ decode cL_law 883 = .ok (.goto 151, 3) ∧ decode cL_law 886 = .ok (.aload_n 1, 1) ∧ decode cL_law 887 = .ok (.aload_n 0, 1) ∧ decode cL_law 888 = .ok (.iload_n 3, 1) ∧ decode cL_law 889 = .ok (.iconst 1, 1) ∧ decode cL_law 890 = .ok (.iadd, 1) ∧ decode cL_law 891 = .ok (.iaload, 1) := by decide +kernel
theorem dL_law_882 : decode cL_law 882 = .ok (.pop, 1) := gdL_law_882.1
theorem dL_law_883 : decode cL_law 883 = .ok (.goto 151, 3) := gdL_law_882.2.1
theorem dL_law_886 : decode cL_law 886 = .ok (.aload_n 1, 1) := gdL_law_882.2.2.1
theorem dL_law_887 : decode cL_law 887 = .ok (.aload_n 0, 1) := gdL_law_882.2.2.2.1
theorem dL_law_888 : decode cL_law 888 = .ok (.iload_n 3, 1) := gdL_law_882.2.2.2.2.1
theorem dL_law_889 : decode cL_law 889 = .ok (.iconst 1, 1) := gdL_law_882.2.2.2.2.2.1
theorem dL_law_890 : decode cL_law 890 = .ok (.iadd, 1) := gdL_law_882.2.2.2.2.2.2.1
theorem dL_law_891 : decode cL_law 891 = .ok (.iaload, 1) := gdL_law_882.2.2.2.2.2.2.2
set_option maxRecDepth 20000 in
theorem gdL_law_892 : decode cL_law 892 = .ok (.invokevirtual 110, 3) ∧ decode cL_law 895 = .ok (.pop, 1) ∧ decode cL_law 896 = .ok (.aload_n 2, 1) ∧ decode cL_law 897 = .ok (.aload_n 0, 1) ∧ decode cL_law 898 = .ok (.iload_n 3, 1) ∧ decode cL_law 899 = .ok (.iconst 1, 1) ∧ decode cL_law 900 = .ok (.iadd, 1) ∧ decode cL_law 901 = .ok (.iaload, 1) := by decide +kernel
theorem dL_law_892 : decode cL_law 892 = .ok (.invokevirtual 110, 3) := gdL_law_892.1
theorem dL_law_895 : decode cL_law 895 = .ok (.pop, 1) := gdL_law_892.2.1
theorem dL_law_896 : decode cL_law 896 = .ok (.aload_n 2, 1) := gdL_law_892.2.2.1
theorem dL_law_897 : decode cL_law 897 = .ok (.aload_n 0, 1) := gdL_law_892.2.2.2.1
theorem dL_law_898 : decode cL_law 898 = .ok (.iload_n 3, 1) := gdL_law_892.2.2.2.2.1
theorem dL_law_899 : decode cL_law 899 = .ok (.iconst 1, 1) := gdL_law_892.2.2.2.2.2.1
theorem dL_law_900 : decode cL_law 900 = .ok (.iadd, 1) := gdL_law_892.2.2.2.2.2.2.1
theorem dL_law_901 : decode cL_law 901 = .ok (.iaload, 1) := gdL_law_892.2.2.2.2.2.2.2
set_option maxRecDepth 20000 in
theorem gdL_law_902 : decode cL_law 902 = .ok (.invokevirtual 113, 3) ∧ decode cL_law 905 = .ok (.pop, 1) ∧ decode cL_law 906 = .ok (.goto 128, 3) ∧ decode cL_law 909 = .ok (.aload_n 1, 1) ∧ decode cL_law 910 = .ok (.aload_n 0, 1) ∧ decode cL_law 911 = .ok (.iload_n 3, 1) ∧ decode cL_law 912 = .ok (.iconst 1, 1) ∧ decode cL_law 913 = .ok (.iadd, 1) := by decide +kernel
theorem dL_law_902 : decode cL_law 902 = .ok (.invokevirtual 113, 3) := gdL_law_902.1
theorem dL_law_905 : decode cL_law 905 = .ok (.pop, 1) := gdL_law_902.2.1
theorem dL_law_906 : decode cL_law 906 = .ok (.goto 128, 3) := gdL_law_902.2.2.1
theorem dL_law_909 : decode cL_law 909 = .ok (.aload_n 1, 1) := gdL_law_902.2.2.2.1
theorem dL_law_910 : decode cL_law 910 = .ok (.aload_n 0, 1) := gdL_law_902.2.2.2.2.1
theorem dL_law_911 : decode cL_law 911 = .ok (.iload_n 3, 1) := gdL_law_902.2.2.2.2.2.1
theorem dL_law_912 : decode cL_law 912 = .ok (.iconst 1, 1) := gdL_law_902.2.2.2.2.2.2.1
theorem dL_law_913 : decode cL_law 913 = .ok (.iadd, 1) := gdL_law_902.2.2.2.2.2.2.2
set_option maxRecDepth 20000 in
theorem gdL_law_914 : decode cL_law 914 = .ok (.iaload, 1) ∧ decode cL_law 915 = .ok (.aload_n 0, 1) ∧ decode cL_law 916 = .ok (.iload_n 3, 1) ∧ decode cL_law 917 = .ok (.iconst 2, 1) ∧ decode cL_law 918 = .ok (.iadd, 1) ∧ decode cL_law 919 = .ok (.iaload, 1) ∧ decode cL_law 920 = .ok (.invokevirtual 114, 3) ∧ decode cL_law 923 = .ok (.pop, 1) := by decide +kernel
theorem dL_law_914 : decode cL_law 914 = .ok (.iaload, 1) := gdL_law_914.1
theorem dL_law_915 : decode cL_law 915 = .ok (.aload_n 0, 1) := gdL_law_914.2.1
theorem dL_law_916 : decode cL_law 916 = .ok (.iload_n 3, 1) := gdL_law_914.2.2.1
theorem dL_law_917 : decode cL_law 917 = .ok (.iconst 2, 1) := gdL_law_914.2.2.2.1
theorem dL_law_918 : decode cL_law 918 = .ok (.iadd, 1) := gdL_law_914.2.2.2.2.1
theorem dL_law_919 : decode cL_law 919 = .ok (.iaload, 1) := gdL_law_914.2.2.2.2.2.1
theorem dL_law_920 : decode cL_law 920 = .ok (.invokevirtual 114, 3) := gdL_law_914.2.2.2.2.2.2.1
theorem dL_law_923 : decode cL_law 923 = .ok (.pop, 1) := gdL_law_914.2.2.2.2.2.2.2
set_option maxRecDepth 20000 in
theorem gdL_law_924 : decode cL_law 924 = .ok (.aload_n 2, 1) ∧ decode cL_law 925 = .ok (.aload_n 0, 1) ∧ decode cL_law 926 = .ok (.iload_n 3, 1) ∧ decode cL_law 927 = .ok (.iconst 1, 1) ∧ decode cL_law 928 = .ok (.iadd, 1) ∧ decode cL_law 929 = .ok (.iaload, 1) ∧ decode cL_law 930 = .ok (.aload_n 0, 1) ∧ decode cL_law 931 = .ok (.iload_n 3, 1) := by decide +kernel
theorem dL_law_924 : decode cL_law 924 = .ok (.aload_n 2, 1) := gdL_law_924.1
theorem dL_law_925 : decode cL_law 925 = .ok (.aload_n 0, 1) := gdL_law_924.2.1
theorem dL_law_926 : decode cL_law 926 = .ok (.iload_n 3, 1) := gdL_law_924.2.2.1
theorem dL_law_927 : decode cL_law 927 = .ok (.iconst 1, 1) := gdL_law_924.2.2.2.1
theorem dL_law_928 : decode cL_law 928 = .ok (.iadd, 1) := gdL_law_924.2.2.2.2.1
theorem dL_law_929 : decode cL_law 929 = .ok (.iaload, 1) := gdL_law_924.2.2.2.2.2.1
theorem dL_law_930 : decode cL_law 930 = .ok (.aload_n 0, 1) := gdL_law_924.2.2.2.2.2.2.1
theorem dL_law_931 : decode cL_law 931 = .ok (.iload_n 3, 1) := gdL_law_924.2.2.2.2.2.2.2
set_option maxRecDepth 20000 in
theorem gdL_law_932 : decode cL_law 932 = .ok (.iconst 2, 1) ∧ decode cL_law 933 = .ok (.iadd, 1) ∧ decode cL_law 934 = .ok (.iaload, 1) ∧ decode cL_law 935 = .ok (.invokevirtual 117, 3) ∧ decode cL_law 938 = .ok (.pop, 1) ∧ decode cL_law 939 = .ok (.goto 95, 3) ∧ decode cL_law 942 = .ok (.aload_n 1, 1) ∧ decode cL_law 943 = .ok (.aload_n 0, 1) := by decide +kernel
theorem dL_law_932 : decode cL_law 932 = .ok (.iconst 2, 1) := gdL_law_932.1
theorem dL_law_933 : decode cL_law 933 = .ok (.iadd, 1) := gdL_law_932.2.1
theorem dL_law_934 : decode cL_law 934 = .ok (.iaload, 1) := gdL_law_932.2.2.1
theorem dL_law_935 : decode cL_law 935 = .ok (.invokevirtual 117, 3) := gdL_law_932.2.2.2.1
theorem dL_law_938 : decode cL_law 938 = .ok (.pop, 1) := gdL_law_932.2.2.2.2.1
theorem dL_law_939 : decode cL_law 939 = .ok (.goto 95, 3) := gdL_law_932.2.2.2.2.2.1
theorem dL_law_942 : decode cL_law 942 = .ok (.aload_n 1, 1) := gdL_law_932.2.2.2.2.2.2.1
theorem dL_law_943 : decode cL_law 943 = .ok (.aload_n 0, 1) := gdL_law_932.2.2.2.2.2.2.2
set_option maxRecDepth 20000 in
theorem gdL_law_944 : decode cL_law 944 = .ok (.iload_n 3, 1) ∧ decode cL_law 945 = .ok (.iconst 1, 1) ∧ decode cL_law 946 = .ok (.iadd, 1) ∧ decode cL_law 947 = .ok (.iaload, 1) ∧ decode cL_law 948 = .ok (.aload_n 0, 1) ∧ decode cL_law 949 = .ok (.iload_n 3, 1) ∧ decode cL_law 950 = .ok (.iconst 2, 1) ∧ decode cL_law 951 = .ok (.iadd, 1) := by decide +kernel
theorem dL_law_944 : decode cL_law 944 = .ok (.iload_n 3, 1) := gdL_law_944.1
theorem dL_law_945 : decode cL_law 945 = .ok (.iconst 1, 1) := gdL_law_944.2.1
theorem dL_law_946 : decode cL_law 946 = .ok (.iadd, 1) := gdL_law_944.2.2.1
theorem dL_law_947 : decode cL_law 947 = .ok (.iaload, 1) := gdL_law_944.2.2.2.1
theorem dL_law_948 : decode cL_law 948 = .ok (.aload_n 0, 1) := gdL_law_944.2.2.2.2.1
theorem dL_law_949 : decode cL_law 949 = .ok (.iload_n 3, 1) := gdL_law_944.2.2.2.2.2.1
theorem dL_law_950 : decode cL_law 950 = .ok (.iconst 2, 1) := gdL_law_944.2.2.2.2.2.2.1
theorem dL_law_951 : decode cL_law 951 = .ok (.iadd, 1) := gdL_law_944.2.2.2.2.2.2.2
set_option maxRecDepth 20000 in
theorem gdL_law_952 : decode cL_law 952 = .ok (.iaload, 1) ∧ decode cL_law 953 = .ok (.invokevirtual 118, 3) ∧ decode cL_law 956 = .ok (.aload_n 2, 1) ∧ decode cL_law 957 = .ok (.aload_n 0, 1) ∧ decode cL_law 958 = .ok (.iload_n 3, 1) ∧ decode cL_law 959 = .ok (.iconst 1, 1) ∧ decode cL_law 960 = .ok (.iadd, 1) ∧ decode cL_law 961 = .ok (.iaload, 1) := by decide +kernel
theorem dL_law_952 : decode cL_law 952 = .ok (.iaload, 1) := gdL_law_952.1
theorem dL_law_953 : decode cL_law 953 = .ok (.invokevirtual 118, 3) := gdL_law_952.2.1
theorem dL_law_956 : decode cL_law 956 = .ok (.aload_n 2, 1) := gdL_law_952.2.2.1
theorem dL_law_957 : decode cL_law 957 = .ok (.aload_n 0, 1) := gdL_law_952.2.2.2.1
theorem dL_law_958 : decode cL_law 958 = .ok (.iload_n 3, 1) := gdL_law_952.2.2.2.2.1
theorem dL_law_959 : decode cL_law 959 = .ok (.iconst 1, 1) := gdL_law_952.2.2.2.2.2.1
theorem dL_law_960 : decode cL_law 960 = .ok (.iadd, 1) := gdL_law_952.2.2.2.2.2.2.1
theorem dL_law_961 : decode cL_law 961 = .ok (.iaload, 1) := gdL_law_952.2.2.2.2.2.2.2
set_option maxRecDepth 20000 in
theorem gdL_law_962 : decode cL_law 962 = .ok (.aload_n 0, 1) ∧ decode cL_law 963 = .ok (.iload_n 3, 1) ∧ decode cL_law 964 = .ok (.iconst 2, 1) ∧ decode cL_law 965 = .ok (.iadd, 1) ∧ decode cL_law 966 = .ok (.iaload, 1) ∧ decode cL_law 967 = .ok (.invokevirtual 121, 3) ∧ decode cL_law 970 = .ok (.if_icmp .eq 64, 3) ∧ decode cL_law 975 = .ok (.aload_n 1, 1) := by decide +kernel
theorem dL_law_962 : decode cL_law 962 = .ok (.aload_n 0, 1) := gdL_law_962.1
theorem dL_law_963 : decode cL_law 963 = .ok (.iload_n 3, 1) := gdL_law_962.2.1
theorem dL_law_964 : decode cL_law 964 = .ok (.iconst 2, 1) := gdL_law_962.2.2.1
theorem dL_law_965 : decode cL_law 965 = .ok (.iadd, 1) := gdL_law_962.2.2.2.1
theorem dL_law_966 : decode cL_law 966 = .ok (.iaload, 1) := gdL_law_962.2.2.2.2.1
theorem dL_law_967 : decode cL_law 967 = .ok (.invokevirtual 121, 3) := gdL_law_962.2.2.2.2.2.1
theorem dL_law_970 : decode cL_law 970 = .ok (.if_icmp .eq 64, 3) := gdL_law_962.2.2.2.2.2.2.1
theorem dL_law_975 : decode cL_law 975 = .ok (.aload_n 1, 1) := gdL_law_962.2.2.2.2.2.2.2
set_option maxRecDepth 20000 in
theorem gdL_law_976 : decode cL_law 976 = .ok (.aload_n 0, 1) ∧ decode cL_law 977 = .ok (.iload_n 3, 1) ∧ decode cL_law 978 = .ok (.iconst 1, 1) ∧ decode cL_law 979 = .ok (.iadd, 1) ∧ decode cL_law 980 = .ok (.iaload, 1) ∧ decode cL_law 981 = .ok (.invokevirtual 122, 3) ∧ decode cL_law 984 = .ok (.pop, 1) ∧ decode cL_law 985 = .ok (.aload_n 2, 1) := by decide +kernel
theorem dL_law_976 : decode cL_law 976 = .ok (.aload_n 0, 1) := gdL_law_976.1
theorem dL_law_977 : decode cL_law 977 = .ok (.iload_n 3, 1) := gdL_law_976.2.1
theorem dL_law_978 : decode cL_law 978 = .ok (.iconst 1, 1) := gdL_law_976.2.2.1
theorem dL_law_979 : decode cL_law 979 = .ok (.iadd, 1) := gdL_law_976.2.2.2.1
theorem dL_law_980 : decode cL_law 980 = .ok (.iaload, 1) := gdL_law_976.2.2.2.2.1
theorem dL_law_981 : decode cL_law 981 = .ok (.invokevirtual 122, 3) := gdL_law_976.2.2.2.2.2.1
theorem dL_law_984 : decode cL_law 984 = .ok (.pop, 1) := gdL_law_976.2.2.2.2.2.2.1
theorem dL_law_985 : decode cL_law 985 = .ok (.aload_n 2, 1) := gdL_law_976.2.2.2.2.2.2.2
set_option maxRecDepth 20000 in
theorem gdL_law_986 : decode cL_law 986 = .ok (.aload_n 0, 1) ∧ decode cL_law 987 = .ok (.iload_n 3, 1) ∧ decode cL_law 988 = .ok (.iconst 1, 1) ∧ decode cL_law 989 = .ok (.iadd, 1) ∧ decode cL_law 990 = .ok (.iaload, 1) ∧ decode cL_law 991 = .ok (.invokevirtual 125, 3) ∧ decode cL_law 994 = .ok (.pop, 1) ∧ decode cL_law 995 = .ok (.goto 39, 3) := by decide +kernel
theorem dL_law_986 : decode cL_law 986 = .ok (.aload_n 0, 1) := gdL_law_986.1
theorem dL_law_987 : decode cL_law 987 = .ok (.iload_n 3, 1) := gdL_law_986.2.1
theorem dL_law_988 : decode cL_law 988 = .ok (.iconst 1, 1) := gdL_law_986.2.2.1
theorem dL_law_989 : decode cL_law 989 = .ok (.iadd, 1) := gdL_law_986.2.2.2.1
theorem dL_law_990 : decode cL_law 990 = .ok (.iaload, 1) := gdL_law_986.2.2.2.2.1
theorem dL_law_991 : decode cL_law 991 = .ok (.invokevirtual 125, 3) := gdL_law_986.2.2.2.2.2.1
theorem dL_law_994 : decode cL_law 994 = .ok (.pop, 1) := gdL_law_986.2.2.2.2.2.2.1
theorem dL_law_995 : decode cL_law 995 = .ok (.goto 39, 3) := gdL_law_986.2.2.2.2.2.2.2
set_option maxRecDepth 20000 in
theorem gdL_law_998 : decode cL_law 998 = .ok (.aload_n 1, 1) ∧ decode cL_law 999 = .ok (.aload_n 0, 1) ∧ decode cL_law 1000 = .ok (.iload_n 3, 1) ∧ decode cL_law 1001 = .ok (.iconst 1, 1) ∧ decode cL_law 1002 = .ok (.iadd, 1) ∧ decode cL_law 1003 = .ok (.iaload, 1) ∧ decode cL_law 1004 = .ok (.invokevirtual 126, 3) ∧ decode cL_law 1007 = .ok (.pop, 1) := by decide +kernel
theorem dL_law_998 : decode cL_law 998 = .ok (.aload_n 1, 1) := gdL_law_998.1
theorem dL_law_999 : decode cL_law 999 = .ok (.aload_n 0, 1) := gdL_law_998.2.1
theorem dL_law_1000 : decode cL_law 1000 = .ok (.iload_n 3, 1) := gdL_law_998.2.2.1
theorem dL_law_1001 : decode cL_law 1001 = .ok (.iconst 1, 1) := gdL_law_998.2.2.2.1
theorem dL_law_1002 : decode cL_law 1002 = .ok (.iadd, 1) := gdL_law_998.2.2.2.2.1
theorem dL_law_1003 : decode cL_law 1003 = .ok (.iaload, 1) := gdL_law_998.2.2.2.2.2.1
theorem dL_law_1004 : decode cL_law 1004 = .ok (.invokevirtual 126, 3) := gdL_law_998.2.2.2.2.2.2.1
theorem dL_law_1007 : decode cL_law 1007 = .ok (.pop, 1) := gdL_law_998.2.2.2.2.2.2.2
set_option maxRecDepth 20000 in
theorem gdL_law_1008 : decode cL_law 1008 = .ok (.aload_n 2, 1) ∧ decode cL_law 1009 = .ok (.aload_n 0, 1) ∧ decode cL_law 1010 = .ok (.iload_n 3, 1) ∧ decode cL_law 1011 = .ok (.iconst 1, 1) ∧ decode cL_law 1012 = .ok (.iadd, 1) ∧ decode cL_law 1013 = .ok (.iaload, 1) ∧ decode cL_law 1014 = .ok (.invokevirtual 129, 3) ∧ decode cL_law 1017 = .ok (.pop, 1) := by decide +kernel
theorem dL_law_1008 : decode cL_law 1008 = .ok (.aload_n 2, 1) := gdL_law_1008.1
theorem dL_law_1009 : decode cL_law 1009 = .ok (.aload_n 0, 1) := gdL_law_1008.2.1
theorem dL_law_1010 : decode cL_law 1010 = .ok (.iload_n 3, 1) := gdL_law_1008.2.2.1
theorem dL_law_1011 : decode cL_law 1011 = .ok (.iconst 1, 1) := gdL_law_1008.2.2.2.1
theorem dL_law_1012 : decode cL_law 1012 = .ok (.iadd, 1) := gdL_law_1008.2.2.2.2.1
theorem dL_law_1013 : decode cL_law 1013 = .ok (.iaload, 1) := gdL_law_1008.2.2.2.2.2.1
theorem dL_law_1014 : decode cL_law 1014 = .ok (.invokevirtual 129, 3) := gdL_law_1008.2.2.2.2.2.2.1
theorem dL_law_1017 : decode cL_law 1017 = .ok (.pop, 1) := gdL_law_1008.2.2.2.2.2.2.2
set_option maxRecDepth 20000 in
theorem gdL_law_1018 : decode cL_law 1018 = .ok (.goto 16, 3) ∧ decode cL_law 1021 = .ok (.aload_n 1, 1) ∧ decode cL_law 1022 = .ok (.invokevirtual 130, 3) ∧ decode cL_law 1025 = .ok (.pop, 1) ∧ decode cL_law 1026 = .ok (.aload_n 2, 1) ∧ decode cL_law 1027 = .ok (.invokevirtual 133, 3) ∧ decode cL_law 1030 = .ok (.pop, 1) ∧ decode cL_law 1031 = .ok (.goto 3, 3) := by decide +kernel
theorem dL_law_1018 : decode cL_law 1018 = .ok (.goto 16, 3) := gdL_law_1018.1
theorem dL_law_1021 : decode cL_law 1021 = .ok (.aload_n 1, 1) := gdL_law_1018.2.1
theorem dL_law_1022 : decode cL_law 1022 = .ok (.invokevirtual 130, 3) := gdL_law_1018.2.2.1
theorem dL_law_1025 : decode cL_law 1025 = .ok (.pop, 1) := gdL_law_1018.2.2.2.1
theorem dL_law_1026 : decode cL_law 1026 = .ok (.aload_n 2, 1) := gdL_law_1018.2.2.2.2.1
theorem dL_law_1027 : decode cL_law 1027 = .ok (.invokevirtual 133, 3) := gdL_law_1018.2.2.2.2.2.1
theorem dL_law_1030 : decode cL_law 1030 = .ok (.pop, 1) := gdL_law_1018.2.2.2.2.2.2.1
theorem dL_law_1031 : decode cL_law 1031 = .ok (.goto 3, 3) := gdL_law_1018.2.2.2.2.2.2.2
theorem dL_law_1034 : decode cL_law 1034 = .ok (.iinc 3 6, 3) := by decide +kernel
theorem dL_law_1037 : decode cL_law 1037 = .ok (.goto (-1019), 3) := by decide +kernel
-- dL_law_0 dL_law_1000 dL_law_1001 dL_law_1002 dL_law_1003 dL_law_1004 dL_law_1007 dL_law_1008 dL_law_1009 dL_law_1010 dL_law_1011 dL_law_1012 dL_law_1013 dL_law_1014 dL_law_1017 dL_law_1018 dL_law_1021 dL_law_1022 dL_law_1025 dL_law_1026 dL_law_1027 dL_law_1030 dL_law_1031 dL_law_1034 dL_law_1037 dL_law_11 dL_law_12 dL_law_15 dL_law_16 dL_law_160 dL_law_161 dL_law_162 dL_law_163 dL_law_164 dL_law_165 dL_law_166 dL_law_167 dL_law_168 dL_law_169 dL_law_17 dL_law_170 dL_law_171 dL_law_172 dL_law_173 dL_law_174 dL_law_175 dL_law_176 dL_law_179 dL_law_18 dL_law_180 dL_law_181 dL_law_182 dL_law_183 dL_law_184 dL_law_185 dL_law_186 dL_law_187 dL_law_188 dL_law_189 dL_law_19 dL_law_190 dL_law_191 dL_law_192 dL_law_193 dL_law_194 dL_law_195 dL_law_196 dL_law_199 dL_law_20 dL_law_200 dL_law_203 dL_law_204 dL_law_205 dL_law_206 dL_law_207 dL_law_208 dL_law_209 dL_law_21 dL_law_210 dL_law_211 dL_law_212 dL_law_213 dL_law_214 dL_law_215 dL_law_216 dL_law_217 dL_law_218 dL_law_219 dL_law_222 dL_law_223 dL_law_224 dL_law_225 dL_law_226 dL_law_227 dL_law_228 dL_law_229 dL_law_23 dL_law_230 dL_law_231 dL_law_232 dL_law_233 dL_law_234 dL_law_235 dL_law_236 dL_law_237 dL_law_238 dL_law_239 dL_law_24 dL_law_242 dL_law_243 dL_law_246 dL_law_247 dL_law_248 dL_law_249 dL_law_250 dL_law_251 dL_law_252 dL_law_253 dL_law_254 dL_law_255 dL_law_256 dL_law_257 dL_law_258 dL_law_259 dL_law_260 dL_law_261 dL_law_262 dL_law_263 dL_law_264 dL_law_265 dL_law_266 dL_law_267 dL_law_268 dL_law_269 dL_law_27 dL_law_270 dL_law_271 dL_law_272 dL_law_275 dL_law_276 dL_law_277 dL_law_278 dL_law_279 dL_law_28 dL_law_280 dL_law_281 dL_law_282 dL_law_283 dL_law_284 dL_law_285 dL_law_286 dL_law_287 dL_law_288 dL_law_289 dL_law_29 dL_law_290 dL_law_291 dL_law_292 dL_law_293 dL_law_294 dL_law_295 dL_law_296 dL_law_297 dL_law_298 dL_law_299 dL_law_3 dL_law_30 dL_law_300 dL_law_301 dL_law_302 dL_law_305 dL_law_306 dL_law_309 dL_law_310 dL_law_311 dL_law_312 dL_law_313 dL_law_314 dL_law_315 dL_law_318 dL_law_319 dL_law_32 dL_law_320 dL_law_321 dL_law_322 dL_law_323 dL_law_324 dL_law_325 dL_law_328 dL_law_329 dL_law_33 dL_law_332 dL_law_333 dL_law_334 dL_law_335 dL_law_336 dL_law_337 dL_law_338 dL_law_339 dL_law_341 dL_law_342 dL_law_343 dL_law_344 dL_law_345 dL_law_346 dL_law_347 dL_law_348 dL_law_351 dL_law_352 dL_law_353 dL_law_354 dL_law_355 dL_law_356 dL_law_357 dL_law_358 dL_law_361 dL_law_362 dL_law_363 dL_law_364 dL_law_365 dL_law_366 dL_law_367 dL_law_368 dL_law_369 dL_law_371 dL_law_372 dL_law_373 dL_law_374 dL_law_375 dL_law_376 dL_law_377 dL_law_378 dL_law_381 dL_law_382 dL_law_383 dL_law_384 dL_law_385 dL_law_386 dL_law_387 dL_law_388 dL_law_391 dL_law_392 dL_law_395 dL_law_396 dL_law_399 dL_law_4 dL_law_400 dL_law_401 dL_law_404 dL_law_405 dL_law_408 dL_law_409 dL_law_412 dL_law_413 dL_law_414 dL_law_417 dL_law_418 dL_law_421 dL_law_422 dL_law_423 dL_law_424 dL_law_425 dL_law_426 dL_law_427 dL_law_428 dL_law_429 dL_law_430 dL_law_431 dL_law_432 dL_law_433 dL_law_434 dL_law_435 dL_law_436 dL_law_437 dL_law_440 dL_law_441 dL_law_442 dL_law_443 dL_law_444 dL_law_445 dL_law_446 dL_law_447 dL_law_448 dL_law_449 dL_law_450 dL_law_451 dL_law_452 dL_law_453 dL_law_454 dL_law_455 dL_law_456 dL_law_457 dL_law_460 dL_law_461 dL_law_464 dL_law_465 dL_law_466 dL_law_467 dL_law_468 dL_law_469 dL_law_470 dL_law_471 dL_law_472 dL_law_473 dL_law_474 dL_law_475 dL_law_478 dL_law_479 dL_law_480 dL_law_481 dL_law_482 dL_law_483 dL_law_484 dL_law_485 dL_law_486 dL_law_487 dL_law_488 dL_law_489 dL_law_490 dL_law_493 dL_law_494 dL_law_497 dL_law_498 dL_law_499 dL_law_500 dL_law_501 dL_law_502 dL_law_503 dL_law_504 dL_law_505 dL_law_506 dL_law_507 dL_law_508 dL_law_511 dL_law_512 dL_law_513 dL_law_514 dL_law_515 dL_law_516 dL_law_517 dL_law_518 dL_law_519 dL_law_520 dL_law_521 dL_law_522 dL_law_523 dL_law_526 dL_law_527 dL_law_530 dL_law_531 dL_law_532 dL_law_533 dL_law_534 dL_law_535 dL_law_536 dL_law_537 dL_law_538 dL_law_539 dL_law_540 dL_law_541 dL_law_542 dL_law_543 dL_law_544 dL_law_545 dL_law_546 dL_law_547 dL_law_548 dL_law_549 dL_law_550 dL_law_551 dL_law_554 dL_law_555 dL_law_556 dL_law_557 dL_law_558 dL_law_559 dL_law_560 dL_law_561 dL_law_562 dL_law_563 dL_law_564 dL_law_565 dL_law_566 dL_law_567 dL_law_568 dL_law_569 dL_law_570 dL_law_571 dL_law_572 dL_law_573 dL_law_574 dL_law_575 dL_law_576 dL_law_579 dL_law_580 dL_law_583 dL_law_584 dL_law_585 dL_law_586 dL_law_587 dL_law_588 dL_law_589 dL_law_590 dL_law_591 dL_law_592 dL_law_593 dL_law_594 dL_law_597 dL_law_598 dL_law_599 dL_law_600 dL_law_601 dL_law_602 dL_law_603 dL_law_604 dL_law_605 dL_law_606 dL_law_607 dL_law_608 dL_law_609 dL_law_612 dL_law_613 dL_law_616 dL_law_617 dL_law_618 dL_law_619 dL_law_620 dL_law_621 dL_law_622 dL_law_625 dL_law_626 dL_law_627 dL_law_628 dL_law_629 dL_law_630 dL_law_631 dL_law_632 dL_law_635 dL_law_636 dL_law_639 dL_law_640 dL_law_641 dL_law_642 dL_law_643 dL_law_644 dL_law_645 dL_law_648 dL_law_649 dL_law_650 dL_law_651 dL_law_652 dL_law_653 dL_law_654 dL_law_655 dL_law_658 dL_law_659 dL_law_662 dL_law_663 dL_law_664 dL_law_665 dL_law_666 dL_law_667 dL_law_668 dL_law_669 dL_law_670 dL_law_671 dL_law_672 dL_law_673 dL_law_674 dL_law_675 dL_law_676 dL_law_677 dL_law_678 dL_law_681 dL_law_682 dL_law_683 dL_law_684 dL_law_685 dL_law_686 dL_law_687 dL_law_688 dL_law_689 dL_law_690 dL_law_691 dL_law_692 dL_law_693 dL_law_694 dL_law_695 dL_law_696 dL_law_697 dL_law_698 dL_law_7 dL_law_701 dL_law_702 dL_law_705 dL_law_706 dL_law_707 dL_law_708 dL_law_709 dL_law_710 dL_law_711 dL_law_714 dL_law_715 dL_law_716 dL_law_717 dL_law_718 dL_law_719 dL_law_720 dL_law_721 dL_law_724 dL_law_725 dL_law_728 dL_law_729 dL_law_730 dL_law_731 dL_law_732 dL_law_733 dL_law_734 dL_law_737 dL_law_738 dL_law_739 dL_law_740 dL_law_741 dL_law_742 dL_law_743 dL_law_744 dL_law_747 dL_law_748 dL_law_751 dL_law_752 dL_law_753 dL_law_754 dL_law_755 dL_law_756 dL_law_757 dL_law_758 dL_law_759 dL_law_760 dL_law_761 dL_law_762 dL_law_765 dL_law_766 dL_law_767 dL_law_768 dL_law_769 dL_law_770 dL_law_771 dL_law_772 dL_law_773 dL_law_774 dL_law_775 dL_law_776 dL_law_777 dL_law_780 dL_law_781 dL_law_784 dL_law_785 dL_law_786 dL_law_787 dL_law_788 dL_law_789 dL_law_790 dL_law_793 dL_law_794 dL_law_795 dL_law_796 dL_law_797 dL_law_798 dL_law_799 dL_law_8 dL_law_800 dL_law_803 dL_law_804 dL_law_807 dL_law_808 dL_law_809 dL_law_810 dL_law_811 dL_law_812 dL_law_813 dL_law_814 dL_law_815 dL_law_816 dL_law_817 dL_law_818 dL_law_821 dL_law_822 dL_law_823 dL_law_824 dL_law_825 dL_law_826 dL_law_827 dL_law_828 dL_law_829 dL_law_830 dL_law_831 dL_law_832 dL_law_833 dL_law_836 dL_law_837 dL_law_840 dL_law_841 dL_law_842 dL_law_843 dL_law_844 dL_law_845 dL_law_846 dL_law_849 dL_law_850 dL_law_851 dL_law_852 dL_law_853 dL_law_854 dL_law_855 dL_law_856 dL_law_859 dL_law_860 dL_law_863 dL_law_864 dL_law_865 dL_law_866 dL_law_867 dL_law_868 dL_law_869 dL_law_872 dL_law_873 dL_law_874 dL_law_875 dL_law_876 dL_law_877 dL_law_878 dL_law_879 dL_law_882 dL_law_883 dL_law_886 dL_law_887 dL_law_888 dL_law_889 dL_law_890 dL_law_891 dL_law_892 dL_law_895 dL_law_896 dL_law_897 dL_law_898 dL_law_899 dL_law_900 dL_law_901 dL_law_902 dL_law_905 dL_law_906 dL_law_909 dL_law_910 dL_law_911 dL_law_912 dL_law_913 dL_law_914 dL_law_915 dL_law_916 dL_law_917 dL_law_918 dL_law_919 dL_law_920 dL_law_923 dL_law_924 dL_law_925 dL_law_926 dL_law_927 dL_law_928 dL_law_929 dL_law_930 dL_law_931 dL_law_932 dL_law_933 dL_law_934 dL_law_935 dL_law_938 dL_law_939 dL_law_942 dL_law_943 dL_law_944 dL_law_945 dL_law_946 dL_law_947 dL_law_948 dL_law_949 dL_law_950 dL_law_951 dL_law_952 dL_law_953 dL_law_956 dL_law_957 dL_law_958 dL_law_959 dL_law_960 dL_law_961 dL_law_962 dL_law_963 dL_law_964 dL_law_965 dL_law_966 dL_law_967 dL_law_970 dL_law_975 dL_law_976 dL_law_977 dL_law_978 dL_law_979 dL_law_980 dL_law_981 dL_law_984 dL_law_985 dL_law_986 dL_law_987 dL_law_988 dL_law_989 dL_law_990 dL_law_991 dL_law_994 dL_law_995 dL_law_998 dL_law_999
