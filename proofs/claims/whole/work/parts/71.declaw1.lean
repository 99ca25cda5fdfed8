/-! the law's instructions, by place -/
theorem dL_law_0 : decode (mC iL_law) 0 = .ok (.new 7, 3) := by decide +kernel
theorem dL_law_3 : decode (mC iL_law) 3 = .ok (.dup, 1) := by decide +kernel
theorem dL_law_4 : decode (mC iL_law) 4 = .ok (.invokespecial 9, 3) := by decide +kernel
theorem dL_law_7 : decode (mC iL_law) 7 = .ok (.astore_n 1, 1) := by decide +kernel
theorem dL_law_8 : decode (mC iL_law) 8 = .ok (.new 10, 3) := by decide +kernel
theorem dL_law_11 : decode (mC iL_law) 11 = .ok (.dup, 1) := by decide +kernel
theorem dL_law_12 : decode (mC iL_law) 12 = .ok (.invokespecial 12, 3) := by decide +kernel
theorem dL_law_15 : decode (mC iL_law) 15 = .ok (.astore_n 2, 1) := by decide +kernel
theorem dL_law_16 : decode (mC iL_law) 16 = .ok (.iconst 0, 1) := by decide +kernel
theorem dL_law_17 : decode (mC iL_law) 17 = .ok (.istore_n 3, 1) := by decide +kernel
theorem dL_law_18 : decode (mC iL_law) 18 = .ok (.iload_n 3, 1) := by decide +kernel
theorem dL_law_19 : decode (mC iL_law) 19 = .ok (.aload_n 0, 1) := by decide +kernel
theorem dL_law_20 : decode (mC iL_law) 20 = .ok (.arraylength, 1) := by decide +kernel
theorem dL_law_21 : decode (mC iL_law) 21 = .ok (.iconst 5, 1) := by decide +kernel
theorem dL_law_22 : decode (mC iL_law) 22 = .ok (.isub, 1) := by decide +kernel
theorem dL_law_23 : decode (mC iL_law) 23 = .ok (.if_icmp .gt 816, 3) := by decide +kernel
theorem dL_law_26 : decode (mC iL_law) 26 = .ok (.aload_n 0, 1) := by decide +kernel
theorem dL_law_27 : decode (mC iL_law) 27 = .ok (.iload_n 3, 1) := by decide +kernel
theorem dL_law_28 : decode (mC iL_law) 28 = .ok (.iaload, 1) := by decide +kernel
theorem dL_law_29 : decode (mC iL_law) 29 = .ok (.bipush 31, 2) := by decide +kernel
theorem dL_law_31 : decode (mC iL_law) 31 = .ok (.iand, 1) := by decide +kernel
theorem dL_law_32 : decode (mC iL_law) 32 = .ok (.tableswitch 801 0 24 #[116, 149, 182, 235, 258, 281, 314, 337, 370, 393, 406, 439, 472, 505, 528, 551, 574, 607, 650, 663, 716, 729, 742, 755, 778], 116) := by decide +kernel
theorem dL_law_148 : decode (mC iL_law) 148 = .ok (.aload_n 1, 1) := by decide +kernel
theorem dL_law_149 : decode (mC iL_law) 149 = .ok (.aload_n 0, 1) := by decide +kernel
theorem dL_law_150 : decode (mC iL_law) 150 = .ok (.iload_n 3, 1) := by decide +kernel
theorem dL_law_151 : decode (mC iL_law) 151 = .ok (.iconst 1, 1) := by decide +kernel
theorem dL_law_152 : decode (mC iL_law) 152 = .ok (.iadd, 1) := by decide +kernel
theorem dL_law_153 : decode (mC iL_law) 153 = .ok (.iaload, 1) := by decide +kernel
theorem dL_law_154 : decode (mC iL_law) 154 = .ok (.aload_n 0, 1) := by decide +kernel
theorem dL_law_155 : decode (mC iL_law) 155 = .ok (.iload_n 3, 1) := by decide +kernel
theorem dL_law_156 : decode (mC iL_law) 156 = .ok (.iconst 2, 1) := by decide +kernel
theorem dL_law_157 : decode (mC iL_law) 157 = .ok (.iadd, 1) := by decide +kernel
theorem dL_law_158 : decode (mC iL_law) 158 = .ok (.iaload, 1) := by decide +kernel
theorem dL_law_159 : decode (mC iL_law) 159 = .ok (.invokevirtual 13, 3) := by decide +kernel
theorem dL_law_162 : decode (mC iL_law) 162 = .ok (.aload_n 2, 1) := by decide +kernel
theorem dL_law_163 : decode (mC iL_law) 163 = .ok (.aload_n 0, 1) := by decide +kernel
theorem dL_law_164 : decode (mC iL_law) 164 = .ok (.iload_n 3, 1) := by decide +kernel
theorem dL_law_165 : decode (mC iL_law) 165 = .ok (.iconst 1, 1) := by decide +kernel
theorem dL_law_166 : decode (mC iL_law) 166 = .ok (.iadd, 1) := by decide +kernel
theorem dL_law_167 : decode (mC iL_law) 167 = .ok (.iaload, 1) := by decide +kernel
theorem dL_law_168 : decode (mC iL_law) 168 = .ok (.aload_n 0, 1) := by decide +kernel
theorem dL_law_169 : decode (mC iL_law) 169 = .ok (.iload_n 3, 1) := by decide +kernel
theorem dL_law_170 : decode (mC iL_law) 170 = .ok (.iconst 2, 1) := by decide +kernel
theorem dL_law_171 : decode (mC iL_law) 171 = .ok (.iadd, 1) := by decide +kernel
theorem dL_law_172 : decode (mC iL_law) 172 = .ok (.iaload, 1) := by decide +kernel
theorem dL_law_173 : decode (mC iL_law) 173 = .ok (.invokevirtual 17, 3) := by decide +kernel
theorem dL_law_176 : decode (mC iL_law) 176 = .ok (.if_icmp .eq 657, 3) := by decide +kernel
theorem dL_law_179 : decode (mC iL_law) 179 = .ok (.iconst 0, 1) := by decide +kernel
theorem dL_law_180 : decode (mC iL_law) 180 = .ok (.ireturn, 1) := by decide +kernel
theorem dL_law_181 : decode (mC iL_law) 181 = .ok (.aload_n 1, 1) := by decide +kernel
theorem dL_law_182 : decode (mC iL_law) 182 = .ok (.aload_n 0, 1) := by decide +kernel
theorem dL_law_183 : decode (mC iL_law) 183 = .ok (.iload_n 3, 1) := by decide +kernel
theorem dL_law_184 : decode (mC iL_law) 184 = .ok (.iconst 1, 1) := by decide +kernel
theorem dL_law_185 : decode (mC iL_law) 185 = .ok (.iadd, 1) := by decide +kernel
theorem dL_law_186 : decode (mC iL_law) 186 = .ok (.iaload, 1) := by decide +kernel
theorem dL_law_187 : decode (mC iL_law) 187 = .ok (.aload_n 0, 1) := by decide +kernel
theorem dL_law_188 : decode (mC iL_law) 188 = .ok (.iload_n 3, 1) := by decide +kernel
theorem dL_law_189 : decode (mC iL_law) 189 = .ok (.iconst 2, 1) := by decide +kernel
theorem dL_law_190 : decode (mC iL_law) 190 = .ok (.iadd, 1) := by decide +kernel
theorem dL_law_191 : decode (mC iL_law) 191 = .ok (.iaload, 1) := by decide +kernel
theorem dL_law_192 : decode (mC iL_law) 192 = .ok (.invokevirtual 18, 3) := by decide +kernel
theorem dL_law_195 : decode (mC iL_law) 195 = .ok (.aload_n 2, 1) := by decide +kernel
theorem dL_law_196 : decode (mC iL_law) 196 = .ok (.aload_n 0, 1) := by decide +kernel
theorem dL_law_197 : decode (mC iL_law) 197 = .ok (.iload_n 3, 1) := by decide +kernel
theorem dL_law_198 : decode (mC iL_law) 198 = .ok (.iconst 1, 1) := by decide +kernel
theorem dL_law_199 : decode (mC iL_law) 199 = .ok (.iadd, 1) := by decide +kernel
theorem dL_law_200 : decode (mC iL_law) 200 = .ok (.iaload, 1) := by decide +kernel
theorem dL_law_201 : decode (mC iL_law) 201 = .ok (.aload_n 0, 1) := by decide +kernel
theorem dL_law_202 : decode (mC iL_law) 202 = .ok (.iload_n 3, 1) := by decide +kernel
theorem dL_law_203 : decode (mC iL_law) 203 = .ok (.iconst 2, 1) := by decide +kernel
theorem dL_law_204 : decode (mC iL_law) 204 = .ok (.iadd, 1) := by decide +kernel
theorem dL_law_205 : decode (mC iL_law) 205 = .ok (.iaload, 1) := by decide +kernel
theorem dL_law_206 : decode (mC iL_law) 206 = .ok (.invokevirtual 21, 3) := by decide +kernel
theorem dL_law_209 : decode (mC iL_law) 209 = .ok (.if_icmp .eq 624, 3) := by decide +kernel
theorem dL_law_212 : decode (mC iL_law) 212 = .ok (.iconst 0, 1) := by decide +kernel
theorem dL_law_213 : decode (mC iL_law) 213 = .ok (.ireturn, 1) := by decide +kernel
theorem dL_law_214 : decode (mC iL_law) 214 = .ok (.aload_n 1, 1) := by decide +kernel
theorem dL_law_215 : decode (mC iL_law) 215 = .ok (.aload_n 0, 1) := by decide +kernel
theorem dL_law_216 : decode (mC iL_law) 216 = .ok (.iload_n 3, 1) := by decide +kernel
theorem dL_law_217 : decode (mC iL_law) 217 = .ok (.iconst 1, 1) := by decide +kernel
theorem dL_law_218 : decode (mC iL_law) 218 = .ok (.iadd, 1) := by decide +kernel
theorem dL_law_219 : decode (mC iL_law) 219 = .ok (.iaload, 1) := by decide +kernel
theorem dL_law_220 : decode (mC iL_law) 220 = .ok (.aload_n 0, 1) := by decide +kernel
theorem dL_law_221 : decode (mC iL_law) 221 = .ok (.iload_n 3, 1) := by decide +kernel
theorem dL_law_222 : decode (mC iL_law) 222 = .ok (.iconst 2, 1) := by decide +kernel
theorem dL_law_223 : decode (mC iL_law) 223 = .ok (.iadd, 1) := by decide +kernel
theorem dL_law_224 : decode (mC iL_law) 224 = .ok (.iaload, 1) := by decide +kernel
theorem dL_law_225 : decode (mC iL_law) 225 = .ok (.aload_n 0, 1) := by decide +kernel
theorem dL_law_226 : decode (mC iL_law) 226 = .ok (.iload_n 3, 1) := by decide +kernel
theorem dL_law_227 : decode (mC iL_law) 227 = .ok (.iconst 3, 1) := by decide +kernel
theorem dL_law_228 : decode (mC iL_law) 228 = .ok (.iadd, 1) := by decide +kernel
theorem dL_law_229 : decode (mC iL_law) 229 = .ok (.iaload, 1) := by decide +kernel
theorem dL_law_230 : decode (mC iL_law) 230 = .ok (.aload_n 0, 1) := by decide +kernel
theorem dL_law_231 : decode (mC iL_law) 231 = .ok (.iload_n 3, 1) := by decide +kernel
theorem dL_law_232 : decode (mC iL_law) 232 = .ok (.iconst 4, 1) := by decide +kernel
theorem dL_law_233 : decode (mC iL_law) 233 = .ok (.iadd, 1) := by decide +kernel
theorem dL_law_234 : decode (mC iL_law) 234 = .ok (.iaload, 1) := by decide +kernel
theorem dL_law_235 : decode (mC iL_law) 235 = .ok (.invokevirtual 22, 3) := by decide +kernel
theorem dL_law_238 : decode (mC iL_law) 238 = .ok (.aload_n 2, 1) := by decide +kernel
theorem dL_law_239 : decode (mC iL_law) 239 = .ok (.aload_n 0, 1) := by decide +kernel
theorem dL_law_240 : decode (mC iL_law) 240 = .ok (.iload_n 3, 1) := by decide +kernel
theorem dL_law_241 : decode (mC iL_law) 241 = .ok (.iconst 1, 1) := by decide +kernel
theorem dL_law_242 : decode (mC iL_law) 242 = .ok (.iadd, 1) := by decide +kernel
theorem dL_law_243 : decode (mC iL_law) 243 = .ok (.iaload, 1) := by decide +kernel
theorem dL_law_244 : decode (mC iL_law) 244 = .ok (.aload_n 0, 1) := by decide +kernel
theorem dL_law_245 : decode (mC iL_law) 245 = .ok (.iload_n 3, 1) := by decide +kernel
theorem dL_law_246 : decode (mC iL_law) 246 = .ok (.iconst 2, 1) := by decide +kernel
theorem dL_law_247 : decode (mC iL_law) 247 = .ok (.iadd, 1) := by decide +kernel
theorem dL_law_248 : decode (mC iL_law) 248 = .ok (.iaload, 1) := by decide +kernel
theorem dL_law_249 : decode (mC iL_law) 249 = .ok (.aload_n 0, 1) := by decide +kernel
theorem dL_law_250 : decode (mC iL_law) 250 = .ok (.iload_n 3, 1) := by decide +kernel
theorem dL_law_251 : decode (mC iL_law) 251 = .ok (.iconst 3, 1) := by decide +kernel
theorem dL_law_252 : decode (mC iL_law) 252 = .ok (.iadd, 1) := by decide +kernel
theorem dL_law_253 : decode (mC iL_law) 253 = .ok (.iaload, 1) := by decide +kernel
theorem dL_law_254 : decode (mC iL_law) 254 = .ok (.aload_n 0, 1) := by decide +kernel
theorem dL_law_255 : decode (mC iL_law) 255 = .ok (.iload_n 3, 1) := by decide +kernel
theorem dL_law_256 : decode (mC iL_law) 256 = .ok (.iconst 4, 1) := by decide +kernel
theorem dL_law_257 : decode (mC iL_law) 257 = .ok (.iadd, 1) := by decide +kernel
theorem dL_law_258 : decode (mC iL_law) 258 = .ok (.iaload, 1) := by decide +kernel
theorem dL_law_259 : decode (mC iL_law) 259 = .ok (.invokevirtual 26, 3) := by decide +kernel
theorem dL_law_262 : decode (mC iL_law) 262 = .ok (.if_icmp .eq 571, 3) := by decide +kernel
theorem dL_law_265 : decode (mC iL_law) 265 = .ok (.iconst 0, 1) := by decide +kernel
theorem dL_law_266 : decode (mC iL_law) 266 = .ok (.ireturn, 1) := by decide +kernel
theorem dL_law_267 : decode (mC iL_law) 267 = .ok (.aload_n 1, 1) := by decide +kernel
theorem dL_law_268 : decode (mC iL_law) 268 = .ok (.aload_n 0, 1) := by decide +kernel
theorem dL_law_269 : decode (mC iL_law) 269 = .ok (.iload_n 3, 1) := by decide +kernel
theorem dL_law_270 : decode (mC iL_law) 270 = .ok (.iconst 1, 1) := by decide +kernel
theorem dL_law_271 : decode (mC iL_law) 271 = .ok (.iadd, 1) := by decide +kernel
theorem dL_law_272 : decode (mC iL_law) 272 = .ok (.iaload, 1) := by decide +kernel
theorem dL_law_273 : decode (mC iL_law) 273 = .ok (.invokevirtual 27, 3) := by decide +kernel
theorem dL_law_276 : decode (mC iL_law) 276 = .ok (.aload_n 2, 1) := by decide +kernel
theorem dL_law_277 : decode (mC iL_law) 277 = .ok (.aload_n 0, 1) := by decide +kernel
theorem dL_law_278 : decode (mC iL_law) 278 = .ok (.iload_n 3, 1) := by decide +kernel
theorem dL_law_279 : decode (mC iL_law) 279 = .ok (.iconst 1, 1) := by decide +kernel
theorem dL_law_280 : decode (mC iL_law) 280 = .ok (.iadd, 1) := by decide +kernel
theorem dL_law_281 : decode (mC iL_law) 281 = .ok (.iaload, 1) := by decide +kernel
theorem dL_law_282 : decode (mC iL_law) 282 = .ok (.invokevirtual 31, 3) := by decide +kernel
theorem dL_law_285 : decode (mC iL_law) 285 = .ok (.if_icmp .eq 548, 3) := by decide +kernel
theorem dL_law_288 : decode (mC iL_law) 288 = .ok (.iconst 0, 1) := by decide +kernel
