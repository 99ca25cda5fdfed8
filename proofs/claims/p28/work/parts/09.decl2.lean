/-! the law's instructions, by place -/
theorem dL_areSums_0 : decode (mC iL_areSums) 0 = .ok (.iconst 0, 1) := by decide +kernel
theorem dL_areSums_1 : decode (mC iL_areSums) 1 = .ok (.istore_n 1, 1) := by decide +kernel
theorem dL_areSums_2 : decode (mC iL_areSums) 2 = .ok (.iconst 0, 1) := by decide +kernel
theorem dL_areSums_3 : decode (mC iL_areSums) 3 = .ok (.istore_n 2, 1) := by decide +kernel
theorem dL_areSums_4 : decode (mC iL_areSums) 4 = .ok (.iconst 0, 1) := by decide +kernel
theorem dL_areSums_5 : decode (mC iL_areSums) 5 = .ok (.istore_n 3, 1) := by decide +kernel
theorem dL_areSums_6 : decode (mC iL_areSums) 6 = .ok (.iconst 0, 1) := by decide +kernel
theorem dL_areSums_7 : decode (mC iL_areSums) 7 = .ok (.istore 4, 2) := by decide +kernel
theorem dL_areSums_9 : decode (mC iL_areSums) 9 = .ok (.iconst 0, 1) := by decide +kernel
theorem dL_areSums_10 : decode (mC iL_areSums) 10 = .ok (.istore 5, 2) := by decide +kernel
theorem dL_areSums_12 : decode (mC iL_areSums) 12 = .ok (.iconst 0, 1) := by decide +kernel
theorem dL_areSums_13 : decode (mC iL_areSums) 13 = .ok (.istore 6, 2) := by decide +kernel
theorem dL_areSums_15 : decode (mC iL_areSums) 15 = .ok (.iconst 0, 1) := by decide +kernel
theorem dL_areSums_16 : decode (mC iL_areSums) 16 = .ok (.istore 7, 2) := by decide +kernel
theorem dL_areSums_18 : decode (mC iL_areSums) 18 = .ok (.iconst 0, 1) := by decide +kernel
theorem dL_areSums_19 : decode (mC iL_areSums) 19 = .ok (.istore 8, 2) := by decide +kernel
theorem dL_areSums_21 : decode (mC iL_areSums) 21 = .ok (.iconst 0, 1) := by decide +kernel
theorem dL_areSums_22 : decode (mC iL_areSums) 22 = .ok (.istore 9, 2) := by decide +kernel
theorem dL_areSums_24 : decode (mC iL_areSums) 24 = .ok (.iconst 0, 1) := by decide +kernel
theorem dL_areSums_25 : decode (mC iL_areSums) 25 = .ok (.istore 10, 2) := by decide +kernel
theorem dL_areSums_27 : decode (mC iL_areSums) 27 = .ok (.iconst 1, 1) := by decide +kernel
theorem dL_areSums_28 : decode (mC iL_areSums) 28 = .ok (.istore 11, 2) := by decide +kernel
theorem dL_areSums_30 : decode (mC iL_areSums) 30 = .ok (.iconst 0, 1) := by decide +kernel
theorem dL_areSums_31 : decode (mC iL_areSums) 31 = .ok (.istore 12, 2) := by decide +kernel
theorem dL_areSums_33 : decode (mC iL_areSums) 33 = .ok (.iload 12, 2) := by decide +kernel
theorem dL_areSums_35 : decode (mC iL_areSums) 35 = .ok (.bipush 6, 2) := by decide +kernel
theorem dL_areSums_37 : decode (mC iL_areSums) 37 = .ok (.if_icmp .ge 90, 3) := by decide +kernel
theorem dL_areSums_40 : decode (mC iL_areSums) 40 = .ok (.iload_n 1, 1) := by decide +kernel
theorem dL_areSums_41 : decode (mC iL_areSums) 41 = .ok (.aload_n 0, 1) := by decide +kernel
theorem dL_areSums_42 : decode (mC iL_areSums) 42 = .ok (.iload 12, 2) := by decide +kernel
theorem dL_areSums_44 : decode (mC iL_areSums) 44 = .ok (.iconst 0, 1) := by decide +kernel
theorem dL_areSums_45 : decode (mC iL_areSums) 45 = .ok (.invokevirtual 55, 3) := by decide +kernel
theorem dL_areSums_48 : decode (mC iL_areSums) 48 = .ok (.iadd, 1) := by decide +kernel
theorem dL_areSums_49 : decode (mC iL_areSums) 49 = .ok (.istore_n 1, 1) := by decide +kernel
theorem dL_areSums_50 : decode (mC iL_areSums) 50 = .ok (.iload 4, 2) := by decide +kernel
theorem dL_areSums_52 : decode (mC iL_areSums) 52 = .ok (.aload_n 0, 1) := by decide +kernel
theorem dL_areSums_53 : decode (mC iL_areSums) 53 = .ok (.iload 12, 2) := by decide +kernel
theorem dL_areSums_55 : decode (mC iL_areSums) 55 = .ok (.iconst 1, 1) := by decide +kernel
theorem dL_areSums_56 : decode (mC iL_areSums) 56 = .ok (.invokevirtual 55, 3) := by decide +kernel
theorem dL_areSums_59 : decode (mC iL_areSums) 59 = .ok (.iadd, 1) := by decide +kernel
theorem dL_areSums_60 : decode (mC iL_areSums) 60 = .ok (.istore 4, 2) := by decide +kernel
theorem dL_areSums_62 : decode (mC iL_areSums) 62 = .ok (.iload_n 2, 1) := by decide +kernel
theorem dL_areSums_63 : decode (mC iL_areSums) 63 = .ok (.aload_n 0, 1) := by decide +kernel
theorem dL_areSums_64 : decode (mC iL_areSums) 64 = .ok (.iload 12, 2) := by decide +kernel
theorem dL_areSums_66 : decode (mC iL_areSums) 66 = .ok (.iconst 2, 1) := by decide +kernel
theorem dL_areSums_67 : decode (mC iL_areSums) 67 = .ok (.invokevirtual 55, 3) := by decide +kernel
theorem dL_areSums_70 : decode (mC iL_areSums) 70 = .ok (.iadd, 1) := by decide +kernel
theorem dL_areSums_71 : decode (mC iL_areSums) 71 = .ok (.istore_n 2, 1) := by decide +kernel
theorem dL_areSums_72 : decode (mC iL_areSums) 72 = .ok (.iload_n 3, 1) := by decide +kernel
theorem dL_areSums_73 : decode (mC iL_areSums) 73 = .ok (.aload_n 0, 1) := by decide +kernel
theorem dL_areSums_74 : decode (mC iL_areSums) 74 = .ok (.iload 12, 2) := by decide +kernel
theorem dL_areSums_76 : decode (mC iL_areSums) 76 = .ok (.iconst 3, 1) := by decide +kernel
theorem dL_areSums_77 : decode (mC iL_areSums) 77 = .ok (.invokevirtual 55, 3) := by decide +kernel
theorem dL_areSums_80 : decode (mC iL_areSums) 80 = .ok (.iadd, 1) := by decide +kernel
theorem dL_areSums_81 : decode (mC iL_areSums) 81 = .ok (.istore_n 3, 1) := by decide +kernel
theorem dL_areSums_82 : decode (mC iL_areSums) 82 = .ok (.iload 11, 2) := by decide +kernel
theorem dL_areSums_84 : decode (mC iL_areSums) 84 = .ok (.ifCond .eq 34, 3) := by decide +kernel
theorem dL_areSums_87 : decode (mC iL_areSums) 87 = .ok (.aload_n 0, 1) := by decide +kernel
theorem dL_areSums_88 : decode (mC iL_areSums) 88 = .ok (.iload 12, 2) := by decide +kernel
theorem dL_areSums_90 : decode (mC iL_areSums) 90 = .ok (.iconst 0, 1) := by decide +kernel
theorem dL_areSums_91 : decode (mC iL_areSums) 91 = .ok (.invokevirtual 55, 3) := by decide +kernel
theorem dL_areSums_94 : decode (mC iL_areSums) 94 = .ok (.aload_n 0, 1) := by decide +kernel
theorem dL_areSums_95 : decode (mC iL_areSums) 95 = .ok (.iload 12, 2) := by decide +kernel
theorem dL_areSums_97 : decode (mC iL_areSums) 97 = .ok (.iconst 3, 1) := by decide +kernel
theorem dL_areSums_98 : decode (mC iL_areSums) 98 = .ok (.invokevirtual 55, 3) := by decide +kernel
theorem dL_areSums_101 : decode (mC iL_areSums) 101 = .ok (.if_icmp .lt 17, 3) := by decide +kernel
theorem dL_areSums_104 : decode (mC iL_areSums) 104 = .ok (.aload_n 0, 1) := by decide +kernel
theorem dL_areSums_105 : decode (mC iL_areSums) 105 = .ok (.iload 12, 2) := by decide +kernel
theorem dL_areSums_107 : decode (mC iL_areSums) 107 = .ok (.iconst 3, 1) := by decide +kernel
theorem dL_areSums_108 : decode (mC iL_areSums) 108 = .ok (.invokevirtual 55, 3) := by decide +kernel
theorem dL_areSums_111 : decode (mC iL_areSums) 111 = .ok (.ifCond .lt 7, 3) := by decide +kernel
theorem dL_areSums_114 : decode (mC iL_areSums) 114 = .ok (.iconst 1, 1) := by decide +kernel
theorem dL_areSums_115 : decode (mC iL_areSums) 115 = .ok (.goto 4, 3) := by decide +kernel
theorem dL_areSums_118 : decode (mC iL_areSums) 118 = .ok (.iconst 0, 1) := by decide +kernel
theorem dL_areSums_119 : decode (mC iL_areSums) 119 = .ok (.istore 11, 2) := by decide +kernel
theorem dL_areSums_121 : decode (mC iL_areSums) 121 = .ok (.iinc 12 1, 3) := by decide +kernel
theorem dL_areSums_124 : decode (mC iL_areSums) 124 = .ok (.goto (-91), 3) := by decide +kernel
theorem dL_areSums_127 : decode (mC iL_areSums) 127 = .ok (.iconst 0, 1) := by decide +kernel
theorem dL_areSums_128 : decode (mC iL_areSums) 128 = .ok (.istore 12, 2) := by decide +kernel
theorem dL_areSums_130 : decode (mC iL_areSums) 130 = .ok (.iload 12, 2) := by decide +kernel
theorem dL_areSums_132 : decode (mC iL_areSums) 132 = .ok (.iconst 5, 1) := by decide +kernel
theorem dL_areSums_133 : decode (mC iL_areSums) 133 = .ok (.if_icmp .ge 61, 3) := by decide +kernel
theorem dL_areSums_136 : decode (mC iL_areSums) 136 = .ok (.iload 5, 2) := by decide +kernel
theorem dL_areSums_138 : decode (mC iL_areSums) 138 = .ok (.aload_n 0, 1) := by decide +kernel
theorem dL_areSums_139 : decode (mC iL_areSums) 139 = .ok (.iload 12, 2) := by decide +kernel
theorem dL_areSums_141 : decode (mC iL_areSums) 141 = .ok (.iconst 1, 1) := by decide +kernel
theorem dL_areSums_142 : decode (mC iL_areSums) 142 = .ok (.invokevirtual 58, 3) := by decide +kernel
theorem dL_areSums_145 : decode (mC iL_areSums) 145 = .ok (.iadd, 1) := by decide +kernel
theorem dL_areSums_146 : decode (mC iL_areSums) 146 = .ok (.istore 5, 2) := by decide +kernel
theorem dL_areSums_148 : decode (mC iL_areSums) 148 = .ok (.iload 11, 2) := by decide +kernel
theorem dL_areSums_150 : decode (mC iL_areSums) 150 = .ok (.ifCond .eq 35, 3) := by decide +kernel
theorem dL_areSums_153 : decode (mC iL_areSums) 153 = .ok (.aload_n 0, 1) := by decide +kernel
theorem dL_areSums_154 : decode (mC iL_areSums) 154 = .ok (.iload 12, 2) := by decide +kernel
theorem dL_areSums_156 : decode (mC iL_areSums) 156 = .ok (.iconst 2, 1) := by decide +kernel
theorem dL_areSums_157 : decode (mC iL_areSums) 157 = .ok (.invokevirtual 58, 3) := by decide +kernel
theorem dL_areSums_160 : decode (mC iL_areSums) 160 = .ok (.aload_n 0, 1) := by decide +kernel
theorem dL_areSums_161 : decode (mC iL_areSums) 161 = .ok (.iload 12, 2) := by decide +kernel
theorem dL_areSums_163 : decode (mC iL_areSums) 163 = .ok (.iconst 1, 1) := by decide +kernel
theorem dL_areSums_164 : decode (mC iL_areSums) 164 = .ok (.invokevirtual 58, 3) := by decide +kernel
theorem dL_areSums_167 : decode (mC iL_areSums) 167 = .ok (.if_icmp .gt 18, 3) := by decide +kernel
theorem dL_areSums_170 : decode (mC iL_areSums) 170 = .ok (.aload_n 0, 1) := by decide +kernel
theorem dL_areSums_171 : decode (mC iL_areSums) 171 = .ok (.iload 12, 2) := by decide +kernel
theorem dL_areSums_173 : decode (mC iL_areSums) 173 = .ok (.iconst 1, 1) := by decide +kernel
theorem dL_areSums_174 : decode (mC iL_areSums) 174 = .ok (.invokevirtual 58, 3) := by decide +kernel
theorem dL_areSums_177 : decode (mC iL_areSums) 177 = .ok (.iconst 4, 1) := by decide +kernel
theorem dL_areSums_178 : decode (mC iL_areSums) 178 = .ok (.if_icmp .gt 7, 3) := by decide +kernel
theorem dL_areSums_181 : decode (mC iL_areSums) 181 = .ok (.iconst 1, 1) := by decide +kernel
theorem dL_areSums_182 : decode (mC iL_areSums) 182 = .ok (.goto 4, 3) := by decide +kernel
theorem dL_areSums_185 : decode (mC iL_areSums) 185 = .ok (.iconst 0, 1) := by decide +kernel
theorem dL_areSums_186 : decode (mC iL_areSums) 186 = .ok (.istore 11, 2) := by decide +kernel
theorem dL_areSums_188 : decode (mC iL_areSums) 188 = .ok (.iinc 12 1, 3) := by decide +kernel
theorem dL_areSums_191 : decode (mC iL_areSums) 191 = .ok (.goto (-61), 3) := by decide +kernel
theorem dL_areSums_194 : decode (mC iL_areSums) 194 = .ok (.iconst 0, 1) := by decide +kernel
theorem dL_areSums_195 : decode (mC iL_areSums) 195 = .ok (.istore 12, 2) := by decide +kernel
theorem dL_areSums_197 : decode (mC iL_areSums) 197 = .ok (.iload 12, 2) := by decide +kernel
theorem dL_areSums_199 : decode (mC iL_areSums) 199 = .ok (.aload_n 0, 1) := by decide +kernel
theorem dL_areSums_200 : decode (mC iL_areSums) 200 = .ok (.bipush 9, 2) := by decide +kernel
theorem dL_areSums_202 : decode (mC iL_areSums) 202 = .ok (.invokevirtual 14, 3) := by decide +kernel
theorem dL_areSums_205 : decode (mC iL_areSums) 205 = .ok (.if_icmp .ge 224, 3) := by decide +kernel
theorem dL_areSums_208 : decode (mC iL_areSums) 208 = .ok (.iload 6, 2) := by decide +kernel
theorem dL_areSums_210 : decode (mC iL_areSums) 210 = .ok (.aload_n 0, 1) := by decide +kernel
theorem dL_areSums_211 : decode (mC iL_areSums) 211 = .ok (.iload 12, 2) := by decide +kernel
theorem dL_areSums_213 : decode (mC iL_areSums) 213 = .ok (.iconst 2, 1) := by decide +kernel
theorem dL_areSums_214 : decode (mC iL_areSums) 214 = .ok (.invokevirtual 52, 3) := by decide +kernel
theorem dL_areSums_217 : decode (mC iL_areSums) 217 = .ok (.iconst 5, 1) := by decide +kernel
theorem dL_areSums_218 : decode (mC iL_areSums) 218 = .ok (.if_icmp .ne 7, 3) := by decide +kernel
theorem dL_areSums_221 : decode (mC iL_areSums) 221 = .ok (.iconst 1, 1) := by decide +kernel
theorem dL_areSums_222 : decode (mC iL_areSums) 222 = .ok (.goto 4, 3) := by decide +kernel
theorem dL_areSums_225 : decode (mC iL_areSums) 225 = .ok (.iconst 0, 1) := by decide +kernel
theorem dL_areSums_226 : decode (mC iL_areSums) 226 = .ok (.iadd, 1) := by decide +kernel
theorem dL_areSums_227 : decode (mC iL_areSums) 227 = .ok (.istore 6, 2) := by decide +kernel
theorem dL_areSums_229 : decode (mC iL_areSums) 229 = .ok (.iload 7, 2) := by decide +kernel
theorem dL_areSums_231 : decode (mC iL_areSums) 231 = .ok (.aload_n 0, 1) := by decide +kernel
theorem dL_areSums_232 : decode (mC iL_areSums) 232 = .ok (.iload 12, 2) := by decide +kernel
theorem dL_areSums_234 : decode (mC iL_areSums) 234 = .ok (.bipush 10, 2) := by decide +kernel
theorem dL_areSums_236 : decode (mC iL_areSums) 236 = .ok (.invokevirtual 52, 3) := by decide +kernel
theorem dL_areSums_239 : decode (mC iL_areSums) 239 = .ok (.iadd, 1) := by decide +kernel
theorem dL_areSums_240 : decode (mC iL_areSums) 240 = .ok (.istore 7, 2) := by decide +kernel
theorem dL_areSums_242 : decode (mC iL_areSums) 242 = .ok (.iload 8, 2) := by decide +kernel
theorem dL_areSums_244 : decode (mC iL_areSums) 244 = .ok (.aload_n 0, 1) := by decide +kernel
theorem dL_areSums_245 : decode (mC iL_areSums) 245 = .ok (.iload 12, 2) := by decide +kernel
theorem dL_areSums_247 : decode (mC iL_areSums) 247 = .ok (.bipush 8, 2) := by decide +kernel
theorem dL_areSums_249 : decode (mC iL_areSums) 249 = .ok (.invokevirtual 52, 3) := by decide +kernel
theorem dL_areSums_252 : decode (mC iL_areSums) 252 = .ok (.iadd, 1) := by decide +kernel
theorem dL_areSums_253 : decode (mC iL_areSums) 253 = .ok (.istore 8, 2) := by decide +kernel
theorem dL_areSums_255 : decode (mC iL_areSums) 255 = .ok (.iload 9, 2) := by decide +kernel
theorem dL_areSums_257 : decode (mC iL_areSums) 257 = .ok (.aload_n 0, 1) := by decide +kernel
theorem dL_areSums_258 : decode (mC iL_areSums) 258 = .ok (.iload 12, 2) := by decide +kernel
theorem dL_areSums_260 : decode (mC iL_areSums) 260 = .ok (.iconst 3, 1) := by decide +kernel
theorem dL_areSums_261 : decode (mC iL_areSums) 261 = .ok (.invokevirtual 52, 3) := by decide +kernel
theorem dL_areSums_264 : decode (mC iL_areSums) 264 = .ok (.iadd, 1) := by decide +kernel
theorem dL_areSums_265 : decode (mC iL_areSums) 265 = .ok (.istore 9, 2) := by decide +kernel
theorem dL_areSums_267 : decode (mC iL_areSums) 267 = .ok (.iload 10, 2) := by decide +kernel
theorem dL_areSums_269 : decode (mC iL_areSums) 269 = .ok (.aload_n 0, 1) := by decide +kernel
theorem dL_areSums_270 : decode (mC iL_areSums) 270 = .ok (.iload 12, 2) := by decide +kernel
theorem dL_areSums_272 : decode (mC iL_areSums) 272 = .ok (.iconst 3, 1) := by decide +kernel
theorem dL_areSums_273 : decode (mC iL_areSums) 273 = .ok (.invokevirtual 52, 3) := by decide +kernel
theorem dL_areSums_276 : decode (mC iL_areSums) 276 = .ok (.aload_n 0, 1) := by decide +kernel
theorem dL_areSums_277 : decode (mC iL_areSums) 277 = .ok (.iload 12, 2) := by decide +kernel
theorem dL_areSums_279 : decode (mC iL_areSums) 279 = .ok (.iconst 4, 1) := by decide +kernel
theorem dL_areSums_280 : decode (mC iL_areSums) 280 = .ok (.invokevirtual 52, 3) := by decide +kernel
theorem dL_areSums_283 : decode (mC iL_areSums) 283 = .ok (.if_icmp .ne 7, 3) := by decide +kernel
theorem dL_areSums_286 : decode (mC iL_areSums) 286 = .ok (.iconst 1, 1) := by decide +kernel
theorem dL_areSums_287 : decode (mC iL_areSums) 287 = .ok (.goto 4, 3) := by decide +kernel
theorem dL_areSums_290 : decode (mC iL_areSums) 290 = .ok (.iconst 0, 1) := by decide +kernel
theorem dL_areSums_291 : decode (mC iL_areSums) 291 = .ok (.iadd, 1) := by decide +kernel
theorem dL_areSums_292 : decode (mC iL_areSums) 292 = .ok (.istore 10, 2) := by decide +kernel
theorem dL_areSums_294 : decode (mC iL_areSums) 294 = .ok (.iload 11, 2) := by decide +kernel
theorem dL_areSums_296 : decode (mC iL_areSums) 296 = .ok (.ifCond .eq 124, 3) := by decide +kernel
theorem dL_areSums_299 : decode (mC iL_areSums) 299 = .ok (.aload_n 0, 1) := by decide +kernel
theorem dL_areSums_300 : decode (mC iL_areSums) 300 = .ok (.iload 12, 2) := by decide +kernel
theorem dL_areSums_302 : decode (mC iL_areSums) 302 = .ok (.iconst 3, 1) := by decide +kernel
theorem dL_areSums_303 : decode (mC iL_areSums) 303 = .ok (.invokevirtual 52, 3) := by decide +kernel
theorem dL_areSums_306 : decode (mC iL_areSums) 306 = .ok (.ifCond .lt 114, 3) := by decide +kernel
theorem dL_areSums_309 : decode (mC iL_areSums) 309 = .ok (.aload_n 0, 1) := by decide +kernel
theorem dL_areSums_310 : decode (mC iL_areSums) 310 = .ok (.iload 12, 2) := by decide +kernel
theorem dL_areSums_312 : decode (mC iL_areSums) 312 = .ok (.iconst 3, 1) := by decide +kernel
theorem dL_areSums_313 : decode (mC iL_areSums) 313 = .ok (.invokevirtual 52, 3) := by decide +kernel
theorem dL_areSums_316 : decode (mC iL_areSums) 316 = .ok (.aload_n 0, 1) := by decide +kernel
theorem dL_areSums_317 : decode (mC iL_areSums) 317 = .ok (.iload 12, 2) := by decide +kernel
theorem dL_areSums_319 : decode (mC iL_areSums) 319 = .ok (.iconst 4, 1) := by decide +kernel
theorem dL_areSums_320 : decode (mC iL_areSums) 320 = .ok (.invokevirtual 52, 3) := by decide +kernel
theorem dL_areSums_323 : decode (mC iL_areSums) 323 = .ok (.if_icmp .gt 97, 3) := by decide +kernel
theorem dL_areSums_326 : decode (mC iL_areSums) 326 = .ok (.aload_n 0, 1) := by decide +kernel
theorem dL_areSums_327 : decode (mC iL_areSums) 327 = .ok (.iload 12, 2) := by decide +kernel
theorem dL_areSums_329 : decode (mC iL_areSums) 329 = .ok (.iconst 4, 1) := by decide +kernel
theorem dL_areSums_330 : decode (mC iL_areSums) 330 = .ok (.invokevirtual 52, 3) := by decide +kernel
theorem dL_areSums_333 : decode (mC iL_areSums) 333 = .ok (.bipush 20, 2) := by decide +kernel
theorem dL_areSums_335 : decode (mC iL_areSums) 335 = .ok (.bipush 20, 2) := by decide +kernel
theorem dL_areSums_337 : decode (mC iL_areSums) 337 = .ok (.aload_n 0, 1) := by decide +kernel
theorem dL_areSums_338 : decode (mC iL_areSums) 338 = .ok (.iload 12, 2) := by decide +kernel
theorem dL_areSums_340 : decode (mC iL_areSums) 340 = .ok (.iconst 1, 1) := by decide +kernel
theorem dL_areSums_341 : decode (mC iL_areSums) 341 = .ok (.invokevirtual 52, 3) := by decide +kernel
theorem dL_areSums_344 : decode (mC iL_areSums) 344 = .ok (.imul, 1) := by decide +kernel
theorem dL_areSums_345 : decode (mC iL_areSums) 345 = .ok (.iadd, 1) := by decide +kernel
theorem dL_areSums_346 : decode (mC iL_areSums) 346 = .ok (.if_icmp .ne 74, 3) := by decide +kernel
theorem dL_areSums_349 : decode (mC iL_areSums) 349 = .ok (.aload_n 0, 1) := by decide +kernel
theorem dL_areSums_350 : decode (mC iL_areSums) 350 = .ok (.iload 12, 2) := by decide +kernel
theorem dL_areSums_352 : decode (mC iL_areSums) 352 = .ok (.bipush 6, 2) := by decide +kernel
theorem dL_areSums_354 : decode (mC iL_areSums) 354 = .ok (.invokevirtual 52, 3) := by decide +kernel
theorem dL_areSums_357 : decode (mC iL_areSums) 357 = .ok (.ifCond .lt 63, 3) := by decide +kernel
theorem dL_areSums_360 : decode (mC iL_areSums) 360 = .ok (.aload_n 0, 1) := by decide +kernel
theorem dL_areSums_361 : decode (mC iL_areSums) 361 = .ok (.iload 12, 2) := by decide +kernel
theorem dL_areSums_363 : decode (mC iL_areSums) 363 = .ok (.bipush 6, 2) := by decide +kernel
theorem dL_areSums_365 : decode (mC iL_areSums) 365 = .ok (.invokevirtual 52, 3) := by decide +kernel
theorem dL_areSums_368 : decode (mC iL_areSums) 368 = .ok (.bipush 31, 2) := by decide +kernel
theorem dL_areSums_370 : decode (mC iL_areSums) 370 = .ok (.if_icmp .ge 50, 3) := by decide +kernel
theorem dL_areSums_373 : decode (mC iL_areSums) 373 = .ok (.aload_n 0, 1) := by decide +kernel
theorem dL_areSums_374 : decode (mC iL_areSums) 374 = .ok (.iload 12, 2) := by decide +kernel
theorem dL_areSums_376 : decode (mC iL_areSums) 376 = .ok (.bipush 9, 2) := by decide +kernel
theorem dL_areSums_378 : decode (mC iL_areSums) 378 = .ok (.invokevirtual 52, 3) := by decide +kernel
theorem dL_areSums_381 : decode (mC iL_areSums) 381 = .ok (.ifCond .lt 39, 3) := by decide +kernel
theorem dL_areSums_384 : decode (mC iL_areSums) 384 = .ok (.aload_n 0, 1) := by decide +kernel
theorem dL_areSums_385 : decode (mC iL_areSums) 385 = .ok (.iload 12, 2) := by decide +kernel
theorem dL_areSums_387 : decode (mC iL_areSums) 387 = .ok (.bipush 10, 2) := by decide +kernel
theorem dL_areSums_389 : decode (mC iL_areSums) 389 = .ok (.invokevirtual 52, 3) := by decide +kernel
theorem dL_areSums_392 : decode (mC iL_areSums) 392 = .ok (.ifCond .lt 28, 3) := by decide +kernel
theorem dL_areSums_395 : decode (mC iL_areSums) 395 = .ok (.aload_n 0, 1) := by decide +kernel
theorem dL_areSums_396 : decode (mC iL_areSums) 396 = .ok (.aload_n 0, 1) := by decide +kernel
theorem dL_areSums_397 : decode (mC iL_areSums) 397 = .ok (.invokevirtual 48, 3) := by decide +kernel
theorem dL_areSums_400 : decode (mC iL_areSums) 400 = .ok (.bipush 10, 2) := by decide +kernel
theorem dL_areSums_402 : decode (mC iL_areSums) 402 = .ok (.invokevirtual 52, 3) := by decide +kernel
theorem dL_areSums_405 : decode (mC iL_areSums) 405 = .ok (.aload_n 0, 1) := by decide +kernel
theorem dL_areSums_406 : decode (mC iL_areSums) 406 = .ok (.iload 12, 2) := by decide +kernel
theorem dL_areSums_408 : decode (mC iL_areSums) 408 = .ok (.bipush 10, 2) := by decide +kernel
theorem dL_areSums_410 : decode (mC iL_areSums) 410 = .ok (.invokevirtual 52, 3) := by decide +kernel
theorem dL_areSums_413 : decode (mC iL_areSums) 413 = .ok (.if_icmp .lt 7, 3) := by decide +kernel
theorem dL_areSums_416 : decode (mC iL_areSums) 416 = .ok (.iconst 1, 1) := by decide +kernel
theorem dL_areSums_417 : decode (mC iL_areSums) 417 = .ok (.goto 4, 3) := by decide +kernel
theorem dL_areSums_420 : decode (mC iL_areSums) 420 = .ok (.iconst 0, 1) := by decide +kernel
theorem dL_areSums_421 : decode (mC iL_areSums) 421 = .ok (.istore 11, 2) := by decide +kernel
theorem dL_areSums_423 : decode (mC iL_areSums) 423 = .ok (.iinc 12 1, 3) := by decide +kernel
theorem dL_areSums_426 : decode (mC iL_areSums) 426 = .ok (.goto (-229), 3) := by decide +kernel
theorem dL_areSums_429 : decode (mC iL_areSums) 429 = .ok (.iload 11, 2) := by decide +kernel
theorem dL_areSums_431 : decode (mC iL_areSums) 431 = .ok (.ifCond .eq 97, 3) := by decide +kernel
theorem dL_areSums_434 : decode (mC iL_areSums) 434 = .ok (.iload_n 1, 1) := by decide +kernel
theorem dL_areSums_435 : decode (mC iL_areSums) 435 = .ok (.aload_n 0, 1) := by decide +kernel
theorem dL_areSums_436 : decode (mC iL_areSums) 436 = .ok (.bipush 11, 2) := by decide +kernel
theorem dL_areSums_438 : decode (mC iL_areSums) 438 = .ok (.invokevirtual 14, 3) := by decide +kernel
theorem dL_areSums_441 : decode (mC iL_areSums) 441 = .ok (.if_icmp .ne 87, 3) := by decide +kernel
theorem dL_areSums_444 : decode (mC iL_areSums) 444 = .ok (.iload_n 2, 1) := by decide +kernel
theorem dL_areSums_445 : decode (mC iL_areSums) 445 = .ok (.aload_n 0, 1) := by decide +kernel
theorem dL_areSums_446 : decode (mC iL_areSums) 446 = .ok (.bipush 12, 2) := by decide +kernel
theorem dL_areSums_448 : decode (mC iL_areSums) 448 = .ok (.invokevirtual 14, 3) := by decide +kernel
theorem dL_areSums_451 : decode (mC iL_areSums) 451 = .ok (.if_icmp .ne 77, 3) := by decide +kernel
theorem dL_areSums_454 : decode (mC iL_areSums) 454 = .ok (.iload_n 3, 1) := by decide +kernel
theorem dL_areSums_455 : decode (mC iL_areSums) 455 = .ok (.aload_n 0, 1) := by decide +kernel
theorem dL_areSums_456 : decode (mC iL_areSums) 456 = .ok (.bipush 14, 2) := by decide +kernel
theorem dL_areSums_458 : decode (mC iL_areSums) 458 = .ok (.invokevirtual 14, 3) := by decide +kernel
theorem dL_areSums_461 : decode (mC iL_areSums) 461 = .ok (.if_icmp .ne 67, 3) := by decide +kernel
theorem dL_areSums_464 : decode (mC iL_areSums) 464 = .ok (.iload 4, 2) := by decide +kernel
theorem dL_areSums_466 : decode (mC iL_areSums) 466 = .ok (.aload_n 0, 1) := by decide +kernel
theorem dL_areSums_467 : decode (mC iL_areSums) 467 = .ok (.bipush 9, 2) := by decide +kernel
theorem dL_areSums_469 : decode (mC iL_areSums) 469 = .ok (.invokevirtual 14, 3) := by decide +kernel
theorem dL_areSums_472 : decode (mC iL_areSums) 472 = .ok (.if_icmp .ne 56, 3) := by decide +kernel
theorem dL_areSums_475 : decode (mC iL_areSums) 475 = .ok (.iload 5, 2) := by decide +kernel
theorem dL_areSums_477 : decode (mC iL_areSums) 477 = .ok (.iload 6, 2) := by decide +kernel
theorem dL_areSums_479 : decode (mC iL_areSums) 479 = .ok (.iadd, 1) := by decide +kernel
theorem dL_areSums_480 : decode (mC iL_areSums) 480 = .ok (.iload 4, 2) := by decide +kernel
theorem dL_areSums_482 : decode (mC iL_areSums) 482 = .ok (.if_icmp .ne 46, 3) := by decide +kernel
theorem dL_areSums_485 : decode (mC iL_areSums) 485 = .ok (.iload 7, 2) := by decide +kernel
theorem dL_areSums_487 : decode (mC iL_areSums) 487 = .ok (.iload_n 1, 1) := by decide +kernel
theorem dL_areSums_488 : decode (mC iL_areSums) 488 = .ok (.if_icmp .gt 40, 3) := by decide +kernel
theorem dL_areSums_491 : decode (mC iL_areSums) 491 = .ok (.iload 8, 2) := by decide +kernel
theorem dL_areSums_493 : decode (mC iL_areSums) 493 = .ok (.aload_n 0, 1) := by decide +kernel
theorem dL_areSums_494 : decode (mC iL_areSums) 494 = .ok (.bipush 13, 2) := by decide +kernel
theorem dL_areSums_496 : decode (mC iL_areSums) 496 = .ok (.invokevirtual 14, 3) := by decide +kernel
theorem dL_areSums_499 : decode (mC iL_areSums) 499 = .ok (.if_icmp .gt 29, 3) := by decide +kernel
theorem dL_areSums_502 : decode (mC iL_areSums) 502 = .ok (.iload 9, 2) := by decide +kernel
theorem dL_areSums_504 : decode (mC iL_areSums) 504 = .ok (.aload_n 0, 1) := by decide +kernel
theorem dL_areSums_505 : decode (mC iL_areSums) 505 = .ok (.bipush 15, 2) := by decide +kernel
theorem dL_areSums_507 : decode (mC iL_areSums) 507 = .ok (.invokevirtual 14, 3) := by decide +kernel
theorem dL_areSums_510 : decode (mC iL_areSums) 510 = .ok (.if_icmp .ne 18, 3) := by decide +kernel
theorem dL_areSums_513 : decode (mC iL_areSums) 513 = .ok (.iload 10, 2) := by decide +kernel
theorem dL_areSums_515 : decode (mC iL_areSums) 515 = .ok (.aload_n 0, 1) := by decide +kernel
theorem dL_areSums_516 : decode (mC iL_areSums) 516 = .ok (.bipush 16, 2) := by decide +kernel
theorem dL_areSums_518 : decode (mC iL_areSums) 518 = .ok (.invokevirtual 14, 3) := by decide +kernel
theorem dL_areSums_521 : decode (mC iL_areSums) 521 = .ok (.if_icmp .ne 7, 3) := by decide +kernel
theorem dL_areSums_524 : decode (mC iL_areSums) 524 = .ok (.iconst 1, 1) := by decide +kernel
theorem dL_areSums_525 : decode (mC iL_areSums) 525 = .ok (.goto 4, 3) := by decide +kernel
theorem dL_areSums_528 : decode (mC iL_areSums) 528 = .ok (.iconst 0, 1) := by decide +kernel
theorem dL_areSums_529 : decode (mC iL_areSums) 529 = .ok (.istore 11, 2) := by decide +kernel
theorem dL_areSums_531 : decode (mC iL_areSums) 531 = .ok (.iload 11, 2) := by decide +kernel
theorem dL_areSums_533 : decode (mC iL_areSums) 533 = .ok (.ifCond .eq 65, 3) := by decide +kernel
theorem dL_areSums_536 : decode (mC iL_areSums) 536 = .ok (.iload 4, 2) := by decide +kernel
theorem dL_areSums_538 : decode (mC iL_areSums) 538 = .ok (.bipush 10, 2) := by decide +kernel
theorem dL_areSums_540 : decode (mC iL_areSums) 540 = .ok (.if_icmp .gt 58, 3) := by decide +kernel
theorem dL_areSums_543 : decode (mC iL_areSums) 543 = .ok (.aload_n 0, 1) := by decide +kernel
theorem dL_areSums_544 : decode (mC iL_areSums) 544 = .ok (.bipush 10, 2) := by decide +kernel
theorem dL_areSums_546 : decode (mC iL_areSums) 546 = .ok (.invokevirtual 14, 3) := by decide +kernel
theorem dL_areSums_549 : decode (mC iL_areSums) 549 = .ok (.ifCond .lt 49, 3) := by decide +kernel
theorem dL_areSums_552 : decode (mC iL_areSums) 552 = .ok (.aload_n 0, 1) := by decide +kernel
theorem dL_areSums_553 : decode (mC iL_areSums) 553 = .ok (.bipush 10, 2) := by decide +kernel
theorem dL_areSums_555 : decode (mC iL_areSums) 555 = .ok (.invokevirtual 14, 3) := by decide +kernel
theorem dL_areSums_558 : decode (mC iL_areSums) 558 = .ok (.aload_n 0, 1) := by decide +kernel
theorem dL_areSums_559 : decode (mC iL_areSums) 559 = .ok (.bipush 7, 2) := by decide +kernel
theorem dL_areSums_561 : decode (mC iL_areSums) 561 = .ok (.invokevirtual 14, 3) := by decide +kernel
theorem dL_areSums_564 : decode (mC iL_areSums) 564 = .ok (.if_icmp .gt 34, 3) := by decide +kernel
theorem dL_areSums_567 : decode (mC iL_areSums) 567 = .ok (.aload_n 0, 1) := by decide +kernel
theorem dL_areSums_568 : decode (mC iL_areSums) 568 = .ok (.invokevirtual 48, 3) := by decide +kernel
theorem dL_areSums_571 : decode (mC iL_areSums) 571 = .ok (.bipush (-6), 2) := by decide +kernel
theorem dL_areSums_573 : decode (mC iL_areSums) 573 = .ok (.if_icmp .ne 7, 3) := by decide +kernel
theorem dL_areSums_576 : decode (mC iL_areSums) 576 = .ok (.iconst 1, 1) := by decide +kernel
theorem dL_areSums_577 : decode (mC iL_areSums) 577 = .ok (.goto 4, 3) := by decide +kernel
theorem dL_areSums_580 : decode (mC iL_areSums) 580 = .ok (.iconst 0, 1) := by decide +kernel
theorem dL_areSums_581 : decode (mC iL_areSums) 581 = .ok (.iload 4, 2) := by decide +kernel
theorem dL_areSums_583 : decode (mC iL_areSums) 583 = .ok (.ifCond .ne 7, 3) := by decide +kernel
theorem dL_areSums_586 : decode (mC iL_areSums) 586 = .ok (.iconst 1, 1) := by decide +kernel
theorem dL_areSums_587 : decode (mC iL_areSums) 587 = .ok (.goto 4, 3) := by decide +kernel
theorem dL_areSums_590 : decode (mC iL_areSums) 590 = .ok (.iconst 0, 1) := by decide +kernel
theorem dL_areSums_591 : decode (mC iL_areSums) 591 = .ok (.if_icmp .ne 7, 3) := by decide +kernel
theorem dL_areSums_594 : decode (mC iL_areSums) 594 = .ok (.iconst 1, 1) := by decide +kernel
theorem dL_areSums_595 : decode (mC iL_areSums) 595 = .ok (.goto 4, 3) := by decide +kernel
theorem dL_areSums_598 : decode (mC iL_areSums) 598 = .ok (.iconst 0, 1) := by decide +kernel
theorem dL_areSums_599 : decode (mC iL_areSums) 599 = .ok (.ireturn, 1) := by decide +kernel
