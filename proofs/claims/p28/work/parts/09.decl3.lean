/-! the law's instructions, by place -/
theorem dL_isDaySo_0 : decode (mC iL_isDaySo) 0 = .ok (.aload_n 0, 1) := by decide +kernel
theorem dL_isDaySo_1 : decode (mC iL_isDaySo) 1 = .ok (.bipush 8, 2) := by decide +kernel
theorem dL_isDaySo_3 : decode (mC iL_isDaySo) 3 = .ok (.invokevirtual 14, 3) := by decide +kernel
theorem dL_isDaySo_6 : decode (mC iL_isDaySo) 6 = .ok (.istore_n 2, 1) := by decide +kernel
theorem dL_isDaySo_7 : decode (mC iL_isDaySo) 7 = .ok (.aload_n 0, 1) := by decide +kernel
theorem dL_isDaySo_8 : decode (mC iL_isDaySo) 8 = .ok (.iload_n 1, 1) := by decide +kernel
theorem dL_isDaySo_9 : decode (mC iL_isDaySo) 9 = .ok (.iconst 3, 1) := by decide +kernel
theorem dL_isDaySo_10 : decode (mC iL_isDaySo) 10 = .ok (.invokevirtual 52, 3) := by decide +kernel
theorem dL_isDaySo_13 : decode (mC iL_isDaySo) 13 = .ok (.istore_n 3, 1) := by decide +kernel
theorem dL_isDaySo_14 : decode (mC iL_isDaySo) 14 = .ok (.aload_n 0, 1) := by decide +kernel
theorem dL_isDaySo_15 : decode (mC iL_isDaySo) 15 = .ok (.iload_n 1, 1) := by decide +kernel
theorem dL_isDaySo_16 : decode (mC iL_isDaySo) 16 = .ok (.iconst 4, 1) := by decide +kernel
theorem dL_isDaySo_17 : decode (mC iL_isDaySo) 17 = .ok (.invokevirtual 52, 3) := by decide +kernel
theorem dL_isDaySo_20 : decode (mC iL_isDaySo) 20 = .ok (.istore 4, 2) := by decide +kernel
theorem dL_isDaySo_22 : decode (mC iL_isDaySo) 22 = .ok (.aload_n 0, 1) := by decide +kernel
theorem dL_isDaySo_23 : decode (mC iL_isDaySo) 23 = .ok (.iload_n 1, 1) := by decide +kernel
theorem dL_isDaySo_24 : decode (mC iL_isDaySo) 24 = .ok (.iconst 5, 1) := by decide +kernel
theorem dL_isDaySo_25 : decode (mC iL_isDaySo) 25 = .ok (.invokevirtual 52, 3) := by decide +kernel
theorem dL_isDaySo_28 : decode (mC iL_isDaySo) 28 = .ok (.istore 5, 2) := by decide +kernel
theorem dL_isDaySo_30 : decode (mC iL_isDaySo) 30 = .ok (.aload_n 0, 1) := by decide +kernel
theorem dL_isDaySo_31 : decode (mC iL_isDaySo) 31 = .ok (.iload_n 1, 1) := by decide +kernel
theorem dL_isDaySo_32 : decode (mC iL_isDaySo) 32 = .ok (.bipush 6, 2) := by decide +kernel
theorem dL_isDaySo_34 : decode (mC iL_isDaySo) 34 = .ok (.invokevirtual 52, 3) := by decide +kernel
theorem dL_isDaySo_37 : decode (mC iL_isDaySo) 37 = .ok (.istore 6, 2) := by decide +kernel
theorem dL_isDaySo_39 : decode (mC iL_isDaySo) 39 = .ok (.aload_n 0, 1) := by decide +kernel
theorem dL_isDaySo_40 : decode (mC iL_isDaySo) 40 = .ok (.iload_n 1, 1) := by decide +kernel
theorem dL_isDaySo_41 : decode (mC iL_isDaySo) 41 = .ok (.bipush 7, 2) := by decide +kernel
theorem dL_isDaySo_43 : decode (mC iL_isDaySo) 43 = .ok (.invokevirtual 52, 3) := by decide +kernel
theorem dL_isDaySo_46 : decode (mC iL_isDaySo) 46 = .ok (.istore 7, 2) := by decide +kernel
theorem dL_isDaySo_48 : decode (mC iL_isDaySo) 48 = .ok (.aload_n 0, 1) := by decide +kernel
theorem dL_isDaySo_49 : decode (mC iL_isDaySo) 49 = .ok (.iload_n 1, 1) := by decide +kernel
theorem dL_isDaySo_50 : decode (mC iL_isDaySo) 50 = .ok (.bipush 8, 2) := by decide +kernel
theorem dL_isDaySo_52 : decode (mC iL_isDaySo) 52 = .ok (.invokevirtual 52, 3) := by decide +kernel
theorem dL_isDaySo_55 : decode (mC iL_isDaySo) 55 = .ok (.istore 8, 2) := by decide +kernel
theorem dL_isDaySo_57 : decode (mC iL_isDaySo) 57 = .ok (.aload_n 0, 1) := by decide +kernel
theorem dL_isDaySo_58 : decode (mC iL_isDaySo) 58 = .ok (.iload_n 1, 1) := by decide +kernel
theorem dL_isDaySo_59 : decode (mC iL_isDaySo) 59 = .ok (.bipush 10, 2) := by decide +kernel
theorem dL_isDaySo_61 : decode (mC iL_isDaySo) 61 = .ok (.invokevirtual 52, 3) := by decide +kernel
theorem dL_isDaySo_64 : decode (mC iL_isDaySo) 64 = .ok (.istore 9, 2) := by decide +kernel
theorem dL_isDaySo_66 : decode (mC iL_isDaySo) 66 = .ok (.aload_n 0, 1) := by decide +kernel
theorem dL_isDaySo_67 : decode (mC iL_isDaySo) 67 = .ok (.iload_n 1, 1) := by decide +kernel
theorem dL_isDaySo_68 : decode (mC iL_isDaySo) 68 = .ok (.invokevirtual 61, 3) := by decide +kernel
theorem dL_isDaySo_71 : decode (mC iL_isDaySo) 71 = .ok (.istore 10, 2) := by decide +kernel
theorem dL_isDaySo_73 : decode (mC iL_isDaySo) 73 = .ok (.aload_n 0, 1) := by decide +kernel
theorem dL_isDaySo_74 : decode (mC iL_isDaySo) 74 = .ok (.iload_n 1, 1) := by decide +kernel
theorem dL_isDaySo_75 : decode (mC iL_isDaySo) 75 = .ok (.invokevirtual 64, 3) := by decide +kernel
theorem dL_isDaySo_78 : decode (mC iL_isDaySo) 78 = .ok (.istore 11, 2) := by decide +kernel
theorem dL_isDaySo_80 : decode (mC iL_isDaySo) 80 = .ok (.aload_n 0, 1) := by decide +kernel
theorem dL_isDaySo_81 : decode (mC iL_isDaySo) 81 = .ok (.iload_n 1, 1) := by decide +kernel
theorem dL_isDaySo_82 : decode (mC iL_isDaySo) 82 = .ok (.iconst 2, 1) := by decide +kernel
theorem dL_isDaySo_83 : decode (mC iL_isDaySo) 83 = .ok (.invokevirtual 52, 3) := by decide +kernel
theorem dL_isDaySo_86 : decode (mC iL_isDaySo) 86 = .ok (.iconst 5, 1) := by decide +kernel
theorem dL_isDaySo_87 : decode (mC iL_isDaySo) 87 = .ok (.if_icmp .ne 7, 3) := by decide +kernel
theorem dL_isDaySo_90 : decode (mC iL_isDaySo) 90 = .ok (.iconst 1, 1) := by decide +kernel
theorem dL_isDaySo_91 : decode (mC iL_isDaySo) 91 = .ok (.goto 4, 3) := by decide +kernel
theorem dL_isDaySo_94 : decode (mC iL_isDaySo) 94 = .ok (.iconst 0, 1) := by decide +kernel
theorem dL_isDaySo_95 : decode (mC iL_isDaySo) 95 = .ok (.istore 12, 2) := by decide +kernel
theorem dL_isDaySo_97 : decode (mC iL_isDaySo) 97 = .ok (.aload_n 0, 1) := by decide +kernel
theorem dL_isDaySo_98 : decode (mC iL_isDaySo) 98 = .ok (.iconst 0, 1) := by decide +kernel
theorem dL_isDaySo_99 : decode (mC iL_isDaySo) 99 = .ok (.invokevirtual 14, 3) := by decide +kernel
theorem dL_isDaySo_102 : decode (mC iL_isDaySo) 102 = .ok (.iload 4, 2) := by decide +kernel
theorem dL_isDaySo_104 : decode (mC iL_isDaySo) 104 = .ok (.bipush 20, 2) := by decide +kernel
theorem dL_isDaySo_106 : decode (mC iL_isDaySo) 106 = .ok (.idiv, 1) := by decide +kernel
theorem dL_isDaySo_107 : decode (mC iL_isDaySo) 107 = .ok (.imul, 1) := by decide +kernel
theorem dL_isDaySo_108 : decode (mC iL_isDaySo) 108 = .ok (.iload 12, 2) := by decide +kernel
theorem dL_isDaySo_110 : decode (mC iL_isDaySo) 110 = .ok (.ifCond .ne 9, 3) := by decide +kernel
theorem dL_isDaySo_113 : decode (mC iL_isDaySo) 113 = .ok (.iload 7, 2) := by decide +kernel
theorem dL_isDaySo_115 : decode (mC iL_isDaySo) 115 = .ok (.iload_n 2, 1) := by decide +kernel
theorem dL_isDaySo_116 : decode (mC iL_isDaySo) 116 = .ok (.if_icmp .le 7, 3) := by decide +kernel
theorem dL_isDaySo_119 : decode (mC iL_isDaySo) 119 = .ok (.iconst 0, 1) := by decide +kernel
theorem dL_isDaySo_120 : decode (mC iL_isDaySo) 120 = .ok (.goto 8, 3) := by decide +kernel
theorem dL_isDaySo_123 : decode (mC iL_isDaySo) 123 = .ok (.aload_n 0, 1) := by decide +kernel
theorem dL_isDaySo_124 : decode (mC iL_isDaySo) 124 = .ok (.iconst 2, 1) := by decide +kernel
theorem dL_isDaySo_125 : decode (mC iL_isDaySo) 125 = .ok (.invokevirtual 14, 3) := by decide +kernel
theorem dL_isDaySo_128 : decode (mC iL_isDaySo) 128 = .ok (.iadd, 1) := by decide +kernel
theorem dL_isDaySo_129 : decode (mC iL_isDaySo) 129 = .ok (.iload 12, 2) := by decide +kernel
theorem dL_isDaySo_131 : decode (mC iL_isDaySo) 131 = .ok (.ifCond .ne 8, 3) := by decide +kernel
theorem dL_isDaySo_134 : decode (mC iL_isDaySo) 134 = .ok (.iload 6, 2) := by decide +kernel
theorem dL_isDaySo_136 : decode (mC iL_isDaySo) 136 = .ok (.ifCond .le 7, 3) := by decide +kernel
theorem dL_isDaySo_139 : decode (mC iL_isDaySo) 139 = .ok (.iconst 0, 1) := by decide +kernel
theorem dL_isDaySo_140 : decode (mC iL_isDaySo) 140 = .ok (.goto 8, 3) := by decide +kernel
theorem dL_isDaySo_143 : decode (mC iL_isDaySo) 143 = .ok (.aload_n 0, 1) := by decide +kernel
theorem dL_isDaySo_144 : decode (mC iL_isDaySo) 144 = .ok (.iconst 3, 1) := by decide +kernel
theorem dL_isDaySo_145 : decode (mC iL_isDaySo) 145 = .ok (.invokevirtual 14, 3) := by decide +kernel
theorem dL_isDaySo_148 : decode (mC iL_isDaySo) 148 = .ok (.iadd, 1) := by decide +kernel
theorem dL_isDaySo_149 : decode (mC iL_isDaySo) 149 = .ok (.istore 13, 2) := by decide +kernel
theorem dL_isDaySo_151 : decode (mC iL_isDaySo) 151 = .ok (.aload_n 0, 1) := by decide +kernel
theorem dL_isDaySo_152 : decode (mC iL_isDaySo) 152 = .ok (.aload_n 0, 1) := by decide +kernel
theorem dL_isDaySo_153 : decode (mC iL_isDaySo) 153 = .ok (.iload_n 1, 1) := by decide +kernel
theorem dL_isDaySo_154 : decode (mC iL_isDaySo) 154 = .ok (.iconst 0, 1) := by decide +kernel
theorem dL_isDaySo_155 : decode (mC iL_isDaySo) 155 = .ok (.invokevirtual 52, 3) := by decide +kernel
theorem dL_isDaySo_158 : decode (mC iL_isDaySo) 158 = .ok (.iconst 1, 1) := by decide +kernel
theorem dL_isDaySo_159 : decode (mC iL_isDaySo) 159 = .ok (.invokevirtual 67, 3) := by decide +kernel
theorem dL_isDaySo_162 : decode (mC iL_isDaySo) 162 = .ok (.istore 14, 2) := by decide +kernel
theorem dL_isDaySo_164 : decode (mC iL_isDaySo) 164 = .ok (.aload_n 0, 1) := by decide +kernel
theorem dL_isDaySo_165 : decode (mC iL_isDaySo) 165 = .ok (.iload_n 1, 1) := by decide +kernel
theorem dL_isDaySo_166 : decode (mC iL_isDaySo) 166 = .ok (.iconst 0, 1) := by decide +kernel
theorem dL_isDaySo_167 : decode (mC iL_isDaySo) 167 = .ok (.invokevirtual 52, 3) := by decide +kernel
theorem dL_isDaySo_170 : decode (mC iL_isDaySo) 170 = .ok (.istore 15, 2) := by decide +kernel
theorem dL_isDaySo_172 : decode (mC iL_isDaySo) 172 = .ok (.aload_n 0, 1) := by decide +kernel
theorem dL_isDaySo_173 : decode (mC iL_isDaySo) 173 = .ok (.iload 15, 2) := by decide +kernel
theorem dL_isDaySo_175 : decode (mC iL_isDaySo) 175 = .ok (.iconst 0, 1) := by decide +kernel
theorem dL_isDaySo_176 : decode (mC iL_isDaySo) 176 = .ok (.invokevirtual 55, 3) := by decide +kernel
theorem dL_isDaySo_179 : decode (mC iL_isDaySo) 179 = .ok (.istore 16, 2) := by decide +kernel
theorem dL_isDaySo_181 : decode (mC iL_isDaySo) 181 = .ok (.iload_n 3, 1) := by decide +kernel
theorem dL_isDaySo_182 : decode (mC iL_isDaySo) 182 = .ok (.iload 5, 2) := by decide +kernel
theorem dL_isDaySo_184 : decode (mC iL_isDaySo) 184 = .ok (.iadd, 1) := by decide +kernel
theorem dL_isDaySo_185 : decode (mC iL_isDaySo) 185 = .ok (.iload 4, 2) := by decide +kernel
theorem dL_isDaySo_187 : decode (mC iL_isDaySo) 187 = .ok (.if_icmp .ge 10, 3) := by decide +kernel
theorem dL_isDaySo_190 : decode (mC iL_isDaySo) 190 = .ok (.iload_n 3, 1) := by decide +kernel
theorem dL_isDaySo_191 : decode (mC iL_isDaySo) 191 = .ok (.iload 5, 2) := by decide +kernel
theorem dL_isDaySo_193 : decode (mC iL_isDaySo) 193 = .ok (.iadd, 1) := by decide +kernel
theorem dL_isDaySo_194 : decode (mC iL_isDaySo) 194 = .ok (.goto 5, 3) := by decide +kernel
theorem dL_isDaySo_197 : decode (mC iL_isDaySo) 197 = .ok (.iload 4, 2) := by decide +kernel
theorem dL_isDaySo_199 : decode (mC iL_isDaySo) 199 = .ok (.istore 17, 2) := by decide +kernel
theorem dL_isDaySo_201 : decode (mC iL_isDaySo) 201 = .ok (.aload_n 0, 1) := by decide +kernel
theorem dL_isDaySo_202 : decode (mC iL_isDaySo) 202 = .ok (.iconst 1, 1) := by decide +kernel
theorem dL_isDaySo_203 : decode (mC iL_isDaySo) 203 = .ok (.invokevirtual 45, 3) := by decide +kernel
theorem dL_isDaySo_206 : decode (mC iL_isDaySo) 206 = .ok (.iload 13, 2) := by decide +kernel
theorem dL_isDaySo_208 : decode (mC iL_isDaySo) 208 = .ok (.if_icmp .lt 136, 3) := by decide +kernel
theorem dL_isDaySo_211 : decode (mC iL_isDaySo) 211 = .ok (.aload_n 0, 1) := by decide +kernel
theorem dL_isDaySo_212 : decode (mC iL_isDaySo) 212 = .ok (.bipush 8, 2) := by decide +kernel
theorem dL_isDaySo_214 : decode (mC iL_isDaySo) 214 = .ok (.invokevirtual 14, 3) := by decide +kernel
theorem dL_isDaySo_217 : decode (mC iL_isDaySo) 217 = .ok (.iload_n 2, 1) := by decide +kernel
theorem dL_isDaySo_218 : decode (mC iL_isDaySo) 218 = .ok (.iconst 1, 1) := by decide +kernel
theorem dL_isDaySo_219 : decode (mC iL_isDaySo) 219 = .ok (.iadd, 1) := by decide +kernel
theorem dL_isDaySo_220 : decode (mC iL_isDaySo) 220 = .ok (.if_icmp .ne 124, 3) := by decide +kernel
theorem dL_isDaySo_223 : decode (mC iL_isDaySo) 223 = .ok (.aload_n 0, 1) := by decide +kernel
theorem dL_isDaySo_224 : decode (mC iL_isDaySo) 224 = .ok (.bipush 10, 2) := by decide +kernel
theorem dL_isDaySo_226 : decode (mC iL_isDaySo) 226 = .ok (.invokevirtual 14, 3) := by decide +kernel
theorem dL_isDaySo_229 : decode (mC iL_isDaySo) 229 = .ok (.aload_n 0, 1) := by decide +kernel
theorem dL_isDaySo_230 : decode (mC iL_isDaySo) 230 = .ok (.bipush 7, 2) := by decide +kernel
theorem dL_isDaySo_232 : decode (mC iL_isDaySo) 232 = .ok (.invokevirtual 14, 3) := by decide +kernel
theorem dL_isDaySo_235 : decode (mC iL_isDaySo) 235 = .ok (.if_icmp .ne 109, 3) := by decide +kernel
theorem dL_isDaySo_238 : decode (mC iL_isDaySo) 238 = .ok (.aload_n 0, 1) := by decide +kernel
theorem dL_isDaySo_239 : decode (mC iL_isDaySo) 239 = .ok (.iload_n 1, 1) := by decide +kernel
theorem dL_isDaySo_240 : decode (mC iL_isDaySo) 240 = .ok (.iconst 3, 1) := by decide +kernel
theorem dL_isDaySo_241 : decode (mC iL_isDaySo) 241 = .ok (.invokevirtual 52, 3) := by decide +kernel
theorem dL_isDaySo_244 : decode (mC iL_isDaySo) 244 = .ok (.iload 17, 2) := by decide +kernel
theorem dL_isDaySo_246 : decode (mC iL_isDaySo) 246 = .ok (.if_icmp .ne 98, 3) := by decide +kernel
theorem dL_isDaySo_249 : decode (mC iL_isDaySo) 249 = .ok (.aload_n 0, 1) := by decide +kernel
theorem dL_isDaySo_250 : decode (mC iL_isDaySo) 250 = .ok (.iload_n 1, 1) := by decide +kernel
theorem dL_isDaySo_251 : decode (mC iL_isDaySo) 251 = .ok (.bipush 8, 2) := by decide +kernel
theorem dL_isDaySo_253 : decode (mC iL_isDaySo) 253 = .ok (.invokevirtual 52, 3) := by decide +kernel
theorem dL_isDaySo_256 : decode (mC iL_isDaySo) 256 = .ok (.iload 8, 2) := by decide +kernel
theorem dL_isDaySo_258 : decode (mC iL_isDaySo) 258 = .ok (.isub, 1) := by decide +kernel
theorem dL_isDaySo_259 : decode (mC iL_isDaySo) 259 = .ok (.iload_n 3, 1) := by decide +kernel
theorem dL_isDaySo_260 : decode (mC iL_isDaySo) 260 = .ok (.iload 5, 2) := by decide +kernel
theorem dL_isDaySo_262 : decode (mC iL_isDaySo) 262 = .ok (.iadd, 1) := by decide +kernel
theorem dL_isDaySo_263 : decode (mC iL_isDaySo) 263 = .ok (.iload 17, 2) := by decide +kernel
theorem dL_isDaySo_265 : decode (mC iL_isDaySo) 265 = .ok (.isub, 1) := by decide +kernel
theorem dL_isDaySo_266 : decode (mC iL_isDaySo) 266 = .ok (.if_icmp .ne 78, 3) := by decide +kernel
theorem dL_isDaySo_269 : decode (mC iL_isDaySo) 269 = .ok (.aload_n 0, 1) := by decide +kernel
theorem dL_isDaySo_270 : decode (mC iL_isDaySo) 270 = .ok (.iload_n 1, 1) := by decide +kernel
theorem dL_isDaySo_271 : decode (mC iL_isDaySo) 271 = .ok (.bipush 10, 2) := by decide +kernel
theorem dL_isDaySo_273 : decode (mC iL_isDaySo) 273 = .ok (.invokevirtual 52, 3) := by decide +kernel
theorem dL_isDaySo_276 : decode (mC iL_isDaySo) 276 = .ok (.iload 9, 2) := by decide +kernel
theorem dL_isDaySo_278 : decode (mC iL_isDaySo) 278 = .ok (.isub, 1) := by decide +kernel
theorem dL_isDaySo_279 : decode (mC iL_isDaySo) 279 = .ok (.iload 13, 2) := by decide +kernel
theorem dL_isDaySo_281 : decode (mC iL_isDaySo) 281 = .ok (.if_icmp .ne 63, 3) := by decide +kernel
theorem dL_isDaySo_284 : decode (mC iL_isDaySo) 284 = .ok (.aload_n 0, 1) := by decide +kernel
theorem dL_isDaySo_285 : decode (mC iL_isDaySo) 285 = .ok (.iload 15, 2) := by decide +kernel
theorem dL_isDaySo_287 : decode (mC iL_isDaySo) 287 = .ok (.iconst 0, 1) := by decide +kernel
theorem dL_isDaySo_288 : decode (mC iL_isDaySo) 288 = .ok (.invokevirtual 55, 3) := by decide +kernel
theorem dL_isDaySo_291 : decode (mC iL_isDaySo) 291 = .ok (.iload 16, 2) := by decide +kernel
theorem dL_isDaySo_293 : decode (mC iL_isDaySo) 293 = .ok (.isub, 1) := by decide +kernel
theorem dL_isDaySo_294 : decode (mC iL_isDaySo) 294 = .ok (.iload 14, 2) := by decide +kernel
theorem dL_isDaySo_296 : decode (mC iL_isDaySo) 296 = .ok (.if_icmp .ne 48, 3) := by decide +kernel
theorem dL_isDaySo_299 : decode (mC iL_isDaySo) 299 = .ok (.aload_n 0, 1) := by decide +kernel
theorem dL_isDaySo_300 : decode (mC iL_isDaySo) 300 = .ok (.iload_n 1, 1) := by decide +kernel
theorem dL_isDaySo_301 : decode (mC iL_isDaySo) 301 = .ok (.bipush 6, 2) := by decide +kernel
theorem dL_isDaySo_303 : decode (mC iL_isDaySo) 303 = .ok (.invokevirtual 52, 3) := by decide +kernel
theorem dL_isDaySo_306 : decode (mC iL_isDaySo) 306 = .ok (.iload 12, 2) := by decide +kernel
theorem dL_isDaySo_308 : decode (mC iL_isDaySo) 308 = .ok (.ifCond .ne 8, 3) := by decide +kernel
theorem dL_isDaySo_311 : decode (mC iL_isDaySo) 311 = .ok (.iload 6, 2) := by decide +kernel
theorem dL_isDaySo_313 : decode (mC iL_isDaySo) 313 = .ok (.ifCond .ne 8, 3) := by decide +kernel
theorem dL_isDaySo_316 : decode (mC iL_isDaySo) 316 = .ok (.iload 6, 2) := by decide +kernel
theorem dL_isDaySo_318 : decode (mC iL_isDaySo) 318 = .ok (.goto 7, 3) := by decide +kernel
theorem dL_isDaySo_321 : decode (mC iL_isDaySo) 321 = .ok (.iload 6, 2) := by decide +kernel
theorem dL_isDaySo_323 : decode (mC iL_isDaySo) 323 = .ok (.iconst 1, 1) := by decide +kernel
theorem dL_isDaySo_324 : decode (mC iL_isDaySo) 324 = .ok (.isub, 1) := by decide +kernel
theorem dL_isDaySo_325 : decode (mC iL_isDaySo) 325 = .ok (.if_icmp .ne 19, 3) := by decide +kernel
theorem dL_isDaySo_328 : decode (mC iL_isDaySo) 328 = .ok (.aload_n 0, 1) := by decide +kernel
theorem dL_isDaySo_329 : decode (mC iL_isDaySo) 329 = .ok (.iload_n 1, 1) := by decide +kernel
theorem dL_isDaySo_330 : decode (mC iL_isDaySo) 330 = .ok (.bipush 7, 2) := by decide +kernel
theorem dL_isDaySo_332 : decode (mC iL_isDaySo) 332 = .ok (.invokevirtual 52, 3) := by decide +kernel
theorem dL_isDaySo_335 : decode (mC iL_isDaySo) 335 = .ok (.iload 7, 2) := by decide +kernel
theorem dL_isDaySo_337 : decode (mC iL_isDaySo) 337 = .ok (.if_icmp .ne 7, 3) := by decide +kernel
theorem dL_isDaySo_340 : decode (mC iL_isDaySo) 340 = .ok (.iconst 1, 1) := by decide +kernel
theorem dL_isDaySo_341 : decode (mC iL_isDaySo) 341 = .ok (.goto 4, 3) := by decide +kernel
theorem dL_isDaySo_344 : decode (mC iL_isDaySo) 344 = .ok (.iconst 0, 1) := by decide +kernel
theorem dL_isDaySo_345 : decode (mC iL_isDaySo) 345 = .ok (.istore 18, 2) := by decide +kernel
theorem dL_isDaySo_347 : decode (mC iL_isDaySo) 347 = .ok (.iload 18, 2) := by decide +kernel
theorem dL_isDaySo_349 : decode (mC iL_isDaySo) 349 = .ok (.ifCond .eq 103, 3) := by decide +kernel
theorem dL_isDaySo_352 : decode (mC iL_isDaySo) 352 = .ok (.iload 10, 2) := by decide +kernel
theorem dL_isDaySo_354 : decode (mC iL_isDaySo) 354 = .ok (.iconst 1, 1) := by decide +kernel
theorem dL_isDaySo_355 : decode (mC iL_isDaySo) 355 = .ok (.if_icmp .ge 19, 3) := by decide +kernel
theorem dL_isDaySo_358 : decode (mC iL_isDaySo) 358 = .ok (.iload 10, 2) := by decide +kernel
theorem dL_isDaySo_360 : decode (mC iL_isDaySo) 360 = .ok (.bipush (-6), 2) := by decide +kernel
theorem dL_isDaySo_362 : decode (mC iL_isDaySo) 362 = .ok (.if_icmp .eq 24, 3) := by decide +kernel
theorem dL_isDaySo_365 : decode (mC iL_isDaySo) 365 = .ok (.iload_n 3, 1) := by decide +kernel
theorem dL_isDaySo_366 : decode (mC iL_isDaySo) 366 = .ok (.iload 4, 2) := by decide +kernel
theorem dL_isDaySo_368 : decode (mC iL_isDaySo) 368 = .ok (.if_icmp .ne 84, 3) := by decide +kernel
theorem dL_isDaySo_371 : decode (mC iL_isDaySo) 371 = .ok (.goto 15, 3) := by decide +kernel
theorem dL_isDaySo_374 : decode (mC iL_isDaySo) 374 = .ok (.aload_n 0, 1) := by decide +kernel
theorem dL_isDaySo_375 : decode (mC iL_isDaySo) 375 = .ok (.iload_n 1, 1) := by decide +kernel
theorem dL_isDaySo_376 : decode (mC iL_isDaySo) 376 = .ok (.invokevirtual 61, 3) := by decide +kernel
theorem dL_isDaySo_379 : decode (mC iL_isDaySo) 379 = .ok (.iload 10, 2) := by decide +kernel
theorem dL_isDaySo_381 : decode (mC iL_isDaySo) 381 = .ok (.iconst 1, 1) := by decide +kernel
theorem dL_isDaySo_382 : decode (mC iL_isDaySo) 382 = .ok (.isub, 1) := by decide +kernel
theorem dL_isDaySo_383 : decode (mC iL_isDaySo) 383 = .ok (.if_icmp .ne 69, 3) := by decide +kernel
theorem dL_isDaySo_386 : decode (mC iL_isDaySo) 386 = .ok (.iload 11, 2) := by decide +kernel
theorem dL_isDaySo_388 : decode (mC iL_isDaySo) 388 = .ok (.iconst 1, 1) := by decide +kernel
theorem dL_isDaySo_389 : decode (mC iL_isDaySo) 389 = .ok (.if_icmp .ne 22, 3) := by decide +kernel
theorem dL_isDaySo_392 : decode (mC iL_isDaySo) 392 = .ok (.iload 12, 2) := by decide +kernel
theorem dL_isDaySo_394 : decode (mC iL_isDaySo) 394 = .ok (.ifCond .ne 58, 3) := by decide +kernel
theorem dL_isDaySo_397 : decode (mC iL_isDaySo) 397 = .ok (.iload 7, 2) := by decide +kernel
theorem dL_isDaySo_399 : decode (mC iL_isDaySo) 399 = .ok (.iload_n 2, 1) := by decide +kernel
theorem dL_isDaySo_400 : decode (mC iL_isDaySo) 400 = .ok (.if_icmp .le 48, 3) := by decide +kernel
theorem dL_isDaySo_403 : decode (mC iL_isDaySo) 403 = .ok (.iload 6, 2) := by decide +kernel
theorem dL_isDaySo_405 : decode (mC iL_isDaySo) 405 = .ok (.ifCond .ne 47, 3) := by decide +kernel
theorem dL_isDaySo_408 : decode (mC iL_isDaySo) 408 = .ok (.goto 40, 3) := by decide +kernel
theorem dL_isDaySo_411 : decode (mC iL_isDaySo) 411 = .ok (.iload 12, 2) := by decide +kernel
theorem dL_isDaySo_413 : decode (mC iL_isDaySo) 413 = .ok (.ifCond .eq 23, 3) := by decide +kernel
theorem dL_isDaySo_416 : decode (mC iL_isDaySo) 416 = .ok (.iload 11, 2) := by decide +kernel
theorem dL_isDaySo_418 : decode (mC iL_isDaySo) 418 = .ok (.bipush (-6), 2) := by decide +kernel
theorem dL_isDaySo_420 : decode (mC iL_isDaySo) 420 = .ok (.if_icmp .ne 32, 3) := by decide +kernel
theorem dL_isDaySo_423 : decode (mC iL_isDaySo) 423 = .ok (.aload_n 0, 1) := by decide +kernel
theorem dL_isDaySo_424 : decode (mC iL_isDaySo) 424 = .ok (.iload_n 1, 1) := by decide +kernel
theorem dL_isDaySo_425 : decode (mC iL_isDaySo) 425 = .ok (.invokevirtual 64, 3) := by decide +kernel
theorem dL_isDaySo_428 : decode (mC iL_isDaySo) 428 = .ok (.bipush (-6), 2) := by decide +kernel
theorem dL_isDaySo_430 : decode (mC iL_isDaySo) 430 = .ok (.if_icmp .ne 22, 3) := by decide +kernel
theorem dL_isDaySo_433 : decode (mC iL_isDaySo) 433 = .ok (.goto 15, 3) := by decide +kernel
theorem dL_isDaySo_436 : decode (mC iL_isDaySo) 436 = .ok (.aload_n 0, 1) := by decide +kernel
theorem dL_isDaySo_437 : decode (mC iL_isDaySo) 437 = .ok (.iload_n 1, 1) := by decide +kernel
theorem dL_isDaySo_438 : decode (mC iL_isDaySo) 438 = .ok (.invokevirtual 64, 3) := by decide +kernel
theorem dL_isDaySo_441 : decode (mC iL_isDaySo) 441 = .ok (.iload 11, 2) := by decide +kernel
theorem dL_isDaySo_443 : decode (mC iL_isDaySo) 443 = .ok (.iconst 1, 1) := by decide +kernel
theorem dL_isDaySo_444 : decode (mC iL_isDaySo) 444 = .ok (.isub, 1) := by decide +kernel
theorem dL_isDaySo_445 : decode (mC iL_isDaySo) 445 = .ok (.if_icmp .ne 7, 3) := by decide +kernel
theorem dL_isDaySo_448 : decode (mC iL_isDaySo) 448 = .ok (.iconst 1, 1) := by decide +kernel
theorem dL_isDaySo_449 : decode (mC iL_isDaySo) 449 = .ok (.goto 4, 3) := by decide +kernel
theorem dL_isDaySo_452 : decode (mC iL_isDaySo) 452 = .ok (.iconst 0, 1) := by decide +kernel
theorem dL_isDaySo_453 : decode (mC iL_isDaySo) 453 = .ok (.istore 18, 2) := by decide +kernel
theorem dL_isDaySo_455 : decode (mC iL_isDaySo) 455 = .ok (.iload 18, 2) := by decide +kernel
theorem dL_isDaySo_457 : decode (mC iL_isDaySo) 457 = .ok (.ifCond .eq 36, 3) := by decide +kernel
theorem dL_isDaySo_460 : decode (mC iL_isDaySo) 460 = .ok (.aload_n 0, 1) := by decide +kernel
theorem dL_isDaySo_461 : decode (mC iL_isDaySo) 461 = .ok (.invokevirtual 70, 3) := by decide +kernel
theorem dL_isDaySo_464 : decode (mC iL_isDaySo) 464 = .ok (.ifCond .lt 29, 3) := by decide +kernel
theorem dL_isDaySo_467 : decode (mC iL_isDaySo) 467 = .ok (.aload_n 0, 1) := by decide +kernel
theorem dL_isDaySo_468 : decode (mC iL_isDaySo) 468 = .ok (.bipush 8, 2) := by decide +kernel
theorem dL_isDaySo_470 : decode (mC iL_isDaySo) 470 = .ok (.invokevirtual 14, 3) := by decide +kernel
theorem dL_isDaySo_473 : decode (mC iL_isDaySo) 473 = .ok (.iload_n 2, 1) := by decide +kernel
theorem dL_isDaySo_474 : decode (mC iL_isDaySo) 474 = .ok (.if_icmp .ne 19, 3) := by decide +kernel
theorem dL_isDaySo_477 : decode (mC iL_isDaySo) 477 = .ok (.aload_n 0, 1) := by decide +kernel
theorem dL_isDaySo_478 : decode (mC iL_isDaySo) 478 = .ok (.iload_n 1, 1) := by decide +kernel
theorem dL_isDaySo_479 : decode (mC iL_isDaySo) 479 = .ok (.bipush 10, 2) := by decide +kernel
theorem dL_isDaySo_481 : decode (mC iL_isDaySo) 481 = .ok (.invokevirtual 52, 3) := by decide +kernel
theorem dL_isDaySo_484 : decode (mC iL_isDaySo) 484 = .ok (.iload 9, 2) := by decide +kernel
theorem dL_isDaySo_486 : decode (mC iL_isDaySo) 486 = .ok (.if_icmp .ne 7, 3) := by decide +kernel
theorem dL_isDaySo_489 : decode (mC iL_isDaySo) 489 = .ok (.iconst 1, 1) := by decide +kernel
theorem dL_isDaySo_490 : decode (mC iL_isDaySo) 490 = .ok (.goto 4, 3) := by decide +kernel
theorem dL_isDaySo_493 : decode (mC iL_isDaySo) 493 = .ok (.iconst 0, 1) := by decide +kernel
theorem dL_isDaySo_494 : decode (mC iL_isDaySo) 494 = .ok (.ireturn, 1) := by decide +kernel
