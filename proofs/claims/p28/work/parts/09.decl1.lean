/-! the law's instructions, by place -/
theorem dL_cell_0 : decode (mC iL_cell) 0 = .ok (.iload_n 1, 1) := by decide +kernel
theorem dL_cell_1 : decode (mC iL_cell) 1 = .ok (.aload_n 0, 1) := by decide +kernel
theorem dL_cell_2 : decode (mC iL_cell) 2 = .ok (.arraylength, 1) := by decide +kernel
theorem dL_cell_3 : decode (mC iL_cell) 3 = .ok (.if_icmp .ge 9, 3) := by decide +kernel
theorem dL_cell_6 : decode (mC iL_cell) 6 = .ok (.aload_n 0, 1) := by decide +kernel
theorem dL_cell_7 : decode (mC iL_cell) 7 = .ok (.iload_n 1, 1) := by decide +kernel
theorem dL_cell_8 : decode (mC iL_cell) 8 = .ok (.iaload, 1) := by decide +kernel
theorem dL_cell_9 : decode (mC iL_cell) 9 = .ok (.goto 17, 3) := by decide +kernel
theorem dL_cell_12 : decode (mC iL_cell) 12 = .ok (.sipush 7919, 3) := by decide +kernel
theorem dL_cell_15 : decode (mC iL_cell) 15 = .ok (.iload_n 1, 1) := by decide +kernel
theorem dL_cell_16 : decode (mC iL_cell) 16 = .ok (.bipush 7, 2) := by decide +kernel
theorem dL_cell_18 : decode (mC iL_cell) 18 = .ok (.iadd, 1) := by decide +kernel
theorem dL_cell_19 : decode (mC iL_cell) 19 = .ok (.imul, 1) := by decide +kernel
theorem dL_cell_20 : decode (mC iL_cell) 20 = .ok (.iload_n 1, 1) := by decide +kernel
theorem dL_cell_21 : decode (mC iL_cell) 21 = .ok (.sipush 191, 3) := by decide +kernel
theorem dL_cell_24 : decode (mC iL_cell) 24 = .ok (.iadd, 1) := by decide +kernel
theorem dL_cell_25 : decode (mC iL_cell) 25 = .ok (.imul, 1) := by decide +kernel
theorem dL_cell_26 : decode (mC iL_cell) 26 = .ok (.ireturn, 1) := by decide +kernel
theorem dL_low_0 : decode (mC iL_low) 0 = .ok (.iload_n 0, 1) := by decide +kernel
theorem dL_low_1 : decode (mC iL_low) 1 = .ok (.ldc 7, 2) := by decide +kernel
theorem dL_low_3 : decode (mC iL_low) 3 = .ok (.iand, 1) := by decide +kernel
theorem dL_low_4 : decode (mC iL_low) 4 = .ok (.iload_n 1, 1) := by decide +kernel
theorem dL_low_5 : decode (mC iL_low) 5 = .ok (.irem, 1) := by decide +kernel
theorem dL_low_6 : decode (mC iL_low) 6 = .ok (.ireturn, 1) := by decide +kernel
theorem dL_act_0 : decode (mC iL_act) 0 = .ok (.iload_n 1, 1) := by decide +kernel
theorem dL_act_1 : decode (mC iL_act) 1 = .ok (.iconst 4, 1) := by decide +kernel
theorem dL_act_2 : decode (mC iL_act) 2 = .ok (.ishr, 1) := by decide +kernel
theorem dL_act_3 : decode (mC iL_act) 3 = .ok (.istore_n 2, 1) := by decide +kernel
theorem dL_act_4 : decode (mC iL_act) 4 = .ok (.iload_n 1, 1) := by decide +kernel
theorem dL_act_5 : decode (mC iL_act) 5 = .ok (.bipush 21, 2) := by decide +kernel
theorem dL_act_7 : decode (mC iL_act) 7 = .ok (.ishr, 1) := by decide +kernel
theorem dL_act_8 : decode (mC iL_act) 8 = .ok (.bipush 6, 2) := by decide +kernel
theorem dL_act_10 : decode (mC iL_act) 10 = .ok (.invokestatic 8, 3) := by decide +kernel
theorem dL_act_13 : decode (mC iL_act) 13 = .ok (.ifCond .le 7, 3) := by decide +kernel
theorem dL_act_16 : decode (mC iL_act) 16 = .ok (.iconst 1, 1) := by decide +kernel
theorem dL_act_17 : decode (mC iL_act) 17 = .ok (.goto 4, 3) := by decide +kernel
theorem dL_act_20 : decode (mC iL_act) 20 = .ok (.iconst 0, 1) := by decide +kernel
theorem dL_act_21 : decode (mC iL_act) 21 = .ok (.istore_n 3, 1) := by decide +kernel
theorem dL_act_22 : decode (mC iL_act) 22 = .ok (.iload_n 2, 1) := by decide +kernel
theorem dL_act_23 : decode (mC iL_act) 23 = .ok (.aload_n 0, 1) := by decide +kernel
theorem dL_act_24 : decode (mC iL_act) 24 = .ok (.bipush 9, 2) := by decide +kernel
theorem dL_act_26 : decode (mC iL_act) 26 = .ok (.invokevirtual 14, 3) := by decide +kernel
theorem dL_act_29 : decode (mC iL_act) 29 = .ok (.iconst 1, 1) := by decide +kernel
theorem dL_act_30 : decode (mC iL_act) 30 = .ok (.iadd, 1) := by decide +kernel
theorem dL_act_31 : decode (mC iL_act) 31 = .ok (.invokestatic 8, 3) := by decide +kernel
theorem dL_act_34 : decode (mC iL_act) 34 = .ok (.istore 4, 2) := by decide +kernel
theorem dL_act_36 : decode (mC iL_act) 36 = .ok (.iload_n 1, 1) := by decide +kernel
theorem dL_act_37 : decode (mC iL_act) 37 = .ok (.bipush 16, 2) := by decide +kernel
theorem dL_act_39 : decode (mC iL_act) 39 = .ok (.invokestatic 8, 3) := by decide +kernel
theorem dL_act_42 : decode (mC iL_act) 42 = .ok (.tableswitch 256 0 11 #[62, 62, 62, 62, 132, 139, 146, 146, 170, 177, 201, 228], 62) := by decide +kernel
theorem dL_act_104 : decode (mC iL_act) 104 = .ok (.aload_n 0, 1) := by decide +kernel
theorem dL_act_105 : decode (mC iL_act) 105 = .ok (.iload_n 2, 1) := by decide +kernel
theorem dL_act_106 : decode (mC iL_act) 106 = .ok (.iload_n 3, 1) := by decide +kernel
theorem dL_act_107 : decode (mC iL_act) 107 = .ok (.ifCond .eq 8, 3) := by decide +kernel
theorem dL_act_110 : decode (mC iL_act) 110 = .ok (.bipush 6, 2) := by decide +kernel
theorem dL_act_112 : decode (mC iL_act) 112 = .ok (.goto 5, 3) := by decide +kernel
theorem dL_act_115 : decode (mC iL_act) 115 = .ok (.bipush 7, 2) := by decide +kernel
theorem dL_act_117 : decode (mC iL_act) 117 = .ok (.invokestatic 8, 3) := by decide +kernel
theorem dL_act_120 : decode (mC iL_act) 120 = .ok (.iload_n 2, 1) := by decide +kernel
theorem dL_act_121 : decode (mC iL_act) 121 = .ok (.iconst 3, 1) := by decide +kernel
theorem dL_act_122 : decode (mC iL_act) 122 = .ok (.ishr, 1) := by decide +kernel
theorem dL_act_123 : decode (mC iL_act) 123 = .ok (.iload_n 3, 1) := by decide +kernel
theorem dL_act_124 : decode (mC iL_act) 124 = .ok (.ifCond .eq 7, 3) := by decide +kernel
theorem dL_act_127 : decode (mC iL_act) 127 = .ok (.iconst 4, 1) := by decide +kernel
theorem dL_act_128 : decode (mC iL_act) 128 = .ok (.goto 4, 3) := by decide +kernel
theorem dL_act_131 : decode (mC iL_act) 131 = .ok (.iconst 5, 1) := by decide +kernel
theorem dL_act_132 : decode (mC iL_act) 132 = .ok (.invokestatic 8, 3) := by decide +kernel
theorem dL_act_135 : decode (mC iL_act) 135 = .ok (.iload_n 2, 1) := by decide +kernel
theorem dL_act_136 : decode (mC iL_act) 136 = .ok (.iconst 5, 1) := by decide +kernel
theorem dL_act_137 : decode (mC iL_act) 137 = .ok (.ishr, 1) := by decide +kernel
theorem dL_act_138 : decode (mC iL_act) 138 = .ok (.iload_n 3, 1) := by decide +kernel
theorem dL_act_139 : decode (mC iL_act) 139 = .ok (.ifCond .eq 8, 3) := by decide +kernel
theorem dL_act_142 : decode (mC iL_act) 142 = .ok (.bipush 6, 2) := by decide +kernel
theorem dL_act_144 : decode (mC iL_act) 144 = .ok (.goto 5, 3) := by decide +kernel
theorem dL_act_147 : decode (mC iL_act) 147 = .ok (.bipush 8, 2) := by decide +kernel
theorem dL_act_149 : decode (mC iL_act) 149 = .ok (.invokestatic 8, 3) := by decide +kernel
theorem dL_act_152 : decode (mC iL_act) 152 = .ok (.iload_n 2, 1) := by decide +kernel
theorem dL_act_153 : decode (mC iL_act) 153 = .ok (.bipush 7, 2) := by decide +kernel
theorem dL_act_155 : decode (mC iL_act) 155 = .ok (.ishr, 1) := by decide +kernel
theorem dL_act_156 : decode (mC iL_act) 156 = .ok (.iload_n 3, 1) := by decide +kernel
theorem dL_act_157 : decode (mC iL_act) 157 = .ok (.ifCond .eq 8, 3) := by decide +kernel
theorem dL_act_160 : decode (mC iL_act) 160 = .ok (.bipush 31, 2) := by decide +kernel
theorem dL_act_162 : decode (mC iL_act) 162 = .ok (.goto 5, 3) := by decide +kernel
theorem dL_act_165 : decode (mC iL_act) 165 = .ok (.bipush 40, 2) := by decide +kernel
theorem dL_act_167 : decode (mC iL_act) 167 = .ok (.invokestatic 8, 3) := by decide +kernel
theorem dL_act_170 : decode (mC iL_act) 170 = .ok (.invokevirtual 20, 3) := by decide +kernel
theorem dL_act_173 : decode (mC iL_act) 173 = .ok (.ireturn, 1) := by decide +kernel
theorem dL_act_174 : decode (mC iL_act) 174 = .ok (.aload_n 0, 1) := by decide +kernel
theorem dL_act_175 : decode (mC iL_act) 175 = .ok (.iload 4, 2) := by decide +kernel
theorem dL_act_177 : decode (mC iL_act) 177 = .ok (.invokevirtual 24, 3) := by decide +kernel
theorem dL_act_180 : decode (mC iL_act) 180 = .ok (.ireturn, 1) := by decide +kernel
theorem dL_act_181 : decode (mC iL_act) 181 = .ok (.aload_n 0, 1) := by decide +kernel
theorem dL_act_182 : decode (mC iL_act) 182 = .ok (.iload 4, 2) := by decide +kernel
theorem dL_act_184 : decode (mC iL_act) 184 = .ok (.invokevirtual 27, 3) := by decide +kernel
theorem dL_act_187 : decode (mC iL_act) 187 = .ok (.ireturn, 1) := by decide +kernel
theorem dL_act_188 : decode (mC iL_act) 188 = .ok (.aload_n 0, 1) := by decide +kernel
theorem dL_act_189 : decode (mC iL_act) 189 = .ok (.iload 4, 2) := by decide +kernel
theorem dL_act_191 : decode (mC iL_act) 191 = .ok (.iload_n 2, 1) := by decide +kernel
theorem dL_act_192 : decode (mC iL_act) 192 = .ok (.iconst 4, 1) := by decide +kernel
theorem dL_act_193 : decode (mC iL_act) 193 = .ok (.ishr, 1) := by decide +kernel
theorem dL_act_194 : decode (mC iL_act) 194 = .ok (.iload_n 3, 1) := by decide +kernel
theorem dL_act_195 : decode (mC iL_act) 195 = .ok (.ifCond .eq 8, 3) := by decide +kernel
theorem dL_act_198 : decode (mC iL_act) 198 = .ok (.bipush 9, 2) := by decide +kernel
theorem dL_act_200 : decode (mC iL_act) 200 = .ok (.goto 5, 3) := by decide +kernel
theorem dL_act_203 : decode (mC iL_act) 203 = .ok (.bipush 110, 2) := by decide +kernel
theorem dL_act_205 : decode (mC iL_act) 205 = .ok (.invokestatic 8, 3) := by decide +kernel
theorem dL_act_208 : decode (mC iL_act) 208 = .ok (.invokevirtual 30, 3) := by decide +kernel
theorem dL_act_211 : decode (mC iL_act) 211 = .ok (.ireturn, 1) := by decide +kernel
theorem dL_act_212 : decode (mC iL_act) 212 = .ok (.aload_n 0, 1) := by decide +kernel
theorem dL_act_213 : decode (mC iL_act) 213 = .ok (.iload 4, 2) := by decide +kernel
theorem dL_act_215 : decode (mC iL_act) 215 = .ok (.invokevirtual 33, 3) := by decide +kernel
theorem dL_act_218 : decode (mC iL_act) 218 = .ok (.ireturn, 1) := by decide +kernel
theorem dL_act_219 : decode (mC iL_act) 219 = .ok (.aload_n 0, 1) := by decide +kernel
theorem dL_act_220 : decode (mC iL_act) 220 = .ok (.iload 4, 2) := by decide +kernel
theorem dL_act_222 : decode (mC iL_act) 222 = .ok (.iload_n 2, 1) := by decide +kernel
theorem dL_act_223 : decode (mC iL_act) 223 = .ok (.iconst 4, 1) := by decide +kernel
theorem dL_act_224 : decode (mC iL_act) 224 = .ok (.ishr, 1) := by decide +kernel
theorem dL_act_225 : decode (mC iL_act) 225 = .ok (.iload_n 3, 1) := by decide +kernel
theorem dL_act_226 : decode (mC iL_act) 226 = .ok (.ifCond .eq 8, 3) := by decide +kernel
theorem dL_act_229 : decode (mC iL_act) 229 = .ok (.bipush 31, 2) := by decide +kernel
theorem dL_act_231 : decode (mC iL_act) 231 = .ok (.goto 5, 3) := by decide +kernel
theorem dL_act_234 : decode (mC iL_act) 234 = .ok (.bipush 40, 2) := by decide +kernel
theorem dL_act_236 : decode (mC iL_act) 236 = .ok (.invokestatic 8, 3) := by decide +kernel
theorem dL_act_239 : decode (mC iL_act) 239 = .ok (.invokevirtual 36, 3) := by decide +kernel
theorem dL_act_242 : decode (mC iL_act) 242 = .ok (.ireturn, 1) := by decide +kernel
theorem dL_act_243 : decode (mC iL_act) 243 = .ok (.aload_n 0, 1) := by decide +kernel
theorem dL_act_244 : decode (mC iL_act) 244 = .ok (.iload_n 2, 1) := by decide +kernel
theorem dL_act_245 : decode (mC iL_act) 245 = .ok (.bipush 6, 2) := by decide +kernel
theorem dL_act_247 : decode (mC iL_act) 247 = .ok (.invokestatic 8, 3) := by decide +kernel
theorem dL_act_250 : decode (mC iL_act) 250 = .ok (.iload_n 2, 1) := by decide +kernel
theorem dL_act_251 : decode (mC iL_act) 251 = .ok (.iconst 3, 1) := by decide +kernel
theorem dL_act_252 : decode (mC iL_act) 252 = .ok (.ishr, 1) := by decide +kernel
theorem dL_act_253 : decode (mC iL_act) 253 = .ok (.iload_n 3, 1) := by decide +kernel
theorem dL_act_254 : decode (mC iL_act) 254 = .ok (.ifCond .eq 7, 3) := by decide +kernel
theorem dL_act_257 : decode (mC iL_act) 257 = .ok (.iconst 5, 1) := by decide +kernel
theorem dL_act_258 : decode (mC iL_act) 258 = .ok (.goto 5, 3) := by decide +kernel
theorem dL_act_261 : decode (mC iL_act) 261 = .ok (.bipush 7, 2) := by decide +kernel
theorem dL_act_263 : decode (mC iL_act) 263 = .ok (.invokestatic 8, 3) := by decide +kernel
theorem dL_act_266 : decode (mC iL_act) 266 = .ok (.invokevirtual 39, 3) := by decide +kernel
theorem dL_act_269 : decode (mC iL_act) 269 = .ok (.ireturn, 1) := by decide +kernel
theorem dL_act_270 : decode (mC iL_act) 270 = .ok (.aload_n 0, 1) := by decide +kernel
theorem dL_act_271 : decode (mC iL_act) 271 = .ok (.iload_n 2, 1) := by decide +kernel
theorem dL_act_272 : decode (mC iL_act) 272 = .ok (.bipush 9, 2) := by decide +kernel
theorem dL_act_274 : decode (mC iL_act) 274 = .ok (.invokestatic 8, 3) := by decide +kernel
theorem dL_act_277 : decode (mC iL_act) 277 = .ok (.iload_n 2, 1) := by decide +kernel
theorem dL_act_278 : decode (mC iL_act) 278 = .ok (.iconst 4, 1) := by decide +kernel
theorem dL_act_279 : decode (mC iL_act) 279 = .ok (.ishr, 1) := by decide +kernel
theorem dL_act_280 : decode (mC iL_act) 280 = .ok (.iload_n 3, 1) := by decide +kernel
theorem dL_act_281 : decode (mC iL_act) 281 = .ok (.ifCond .eq 8, 3) := by decide +kernel
theorem dL_act_284 : decode (mC iL_act) 284 = .ok (.bipush 10, 2) := by decide +kernel
theorem dL_act_286 : decode (mC iL_act) 286 = .ok (.goto 5, 3) := by decide +kernel
theorem dL_act_289 : decode (mC iL_act) 289 = .ok (.bipush 100, 2) := by decide +kernel
theorem dL_act_291 : decode (mC iL_act) 291 = .ok (.invokestatic 8, 3) := by decide +kernel
theorem dL_act_294 : decode (mC iL_act) 294 = .ok (.invokevirtual 42, 3) := by decide +kernel
theorem dL_act_297 : decode (mC iL_act) 297 = .ok (.ireturn, 1) := by decide +kernel
theorem dL_act_298 : decode (mC iL_act) 298 = .ok (.aload_n 0, 1) := by decide +kernel
theorem dL_act_299 : decode (mC iL_act) 299 = .ok (.iload_n 2, 1) := by decide +kernel
theorem dL_act_300 : decode (mC iL_act) 300 = .ok (.iload_n 3, 1) := by decide +kernel
theorem dL_act_301 : decode (mC iL_act) 301 = .ok (.ifCond .eq 8, 3) := by decide +kernel
theorem dL_act_304 : decode (mC iL_act) 304 = .ok (.bipush 6, 2) := by decide +kernel
theorem dL_act_306 : decode (mC iL_act) 306 = .ok (.goto 5, 3) := by decide +kernel
theorem dL_act_309 : decode (mC iL_act) 309 = .ok (.bipush 110, 2) := by decide +kernel
theorem dL_act_311 : decode (mC iL_act) 311 = .ok (.invokestatic 8, 3) := by decide +kernel
theorem dL_act_314 : decode (mC iL_act) 314 = .ok (.invokevirtual 45, 3) := by decide +kernel
theorem dL_act_317 : decode (mC iL_act) 317 = .ok (.ireturn, 1) := by decide +kernel
theorem dL_areAlike_0 : decode (mC iL_areAlike) 0 = .ok (.aload_n 0, 1) := by decide +kernel
theorem dL_areAlike_1 : decode (mC iL_areAlike) 1 = .ok (.invokevirtual 48, 3) := by decide +kernel
theorem dL_areAlike_4 : decode (mC iL_areAlike) 4 = .ok (.aload_n 1, 1) := by decide +kernel
theorem dL_areAlike_5 : decode (mC iL_areAlike) 5 = .ok (.invokevirtual 48, 3) := by decide +kernel
theorem dL_areAlike_8 : decode (mC iL_areAlike) 8 = .ok (.if_icmp .ne 7, 3) := by decide +kernel
theorem dL_areAlike_11 : decode (mC iL_areAlike) 11 = .ok (.iconst 1, 1) := by decide +kernel
theorem dL_areAlike_12 : decode (mC iL_areAlike) 12 = .ok (.goto 4, 3) := by decide +kernel
theorem dL_areAlike_15 : decode (mC iL_areAlike) 15 = .ok (.iconst 0, 1) := by decide +kernel
theorem dL_areAlike_16 : decode (mC iL_areAlike) 16 = .ok (.istore_n 2, 1) := by decide +kernel
theorem dL_areAlike_17 : decode (mC iL_areAlike) 17 = .ok (.iconst 0, 1) := by decide +kernel
theorem dL_areAlike_18 : decode (mC iL_areAlike) 18 = .ok (.istore_n 3, 1) := by decide +kernel
theorem dL_areAlike_19 : decode (mC iL_areAlike) 19 = .ok (.iload_n 3, 1) := by decide +kernel
theorem dL_areAlike_20 : decode (mC iL_areAlike) 20 = .ok (.bipush 17, 2) := by decide +kernel
theorem dL_areAlike_22 : decode (mC iL_areAlike) 22 = .ok (.if_icmp .ge 32, 3) := by decide +kernel
theorem dL_areAlike_25 : decode (mC iL_areAlike) 25 = .ok (.iload_n 2, 1) := by decide +kernel
theorem dL_areAlike_26 : decode (mC iL_areAlike) 26 = .ok (.ifCond .eq 20, 3) := by decide +kernel
theorem dL_areAlike_29 : decode (mC iL_areAlike) 29 = .ok (.aload_n 0, 1) := by decide +kernel
theorem dL_areAlike_30 : decode (mC iL_areAlike) 30 = .ok (.iload_n 3, 1) := by decide +kernel
theorem dL_areAlike_31 : decode (mC iL_areAlike) 31 = .ok (.invokevirtual 14, 3) := by decide +kernel
theorem dL_areAlike_34 : decode (mC iL_areAlike) 34 = .ok (.aload_n 1, 1) := by decide +kernel
theorem dL_areAlike_35 : decode (mC iL_areAlike) 35 = .ok (.iload_n 3, 1) := by decide +kernel
theorem dL_areAlike_36 : decode (mC iL_areAlike) 36 = .ok (.invokevirtual 14, 3) := by decide +kernel
theorem dL_areAlike_39 : decode (mC iL_areAlike) 39 = .ok (.if_icmp .ne 7, 3) := by decide +kernel
theorem dL_areAlike_42 : decode (mC iL_areAlike) 42 = .ok (.iconst 1, 1) := by decide +kernel
theorem dL_areAlike_43 : decode (mC iL_areAlike) 43 = .ok (.goto 4, 3) := by decide +kernel
theorem dL_areAlike_46 : decode (mC iL_areAlike) 46 = .ok (.iconst 0, 1) := by decide +kernel
theorem dL_areAlike_47 : decode (mC iL_areAlike) 47 = .ok (.istore_n 2, 1) := by decide +kernel
theorem dL_areAlike_48 : decode (mC iL_areAlike) 48 = .ok (.iinc 3 1, 3) := by decide +kernel
theorem dL_areAlike_51 : decode (mC iL_areAlike) 51 = .ok (.goto (-32), 3) := by decide +kernel
theorem dL_areAlike_54 : decode (mC iL_areAlike) 54 = .ok (.iconst 0, 1) := by decide +kernel
theorem dL_areAlike_55 : decode (mC iL_areAlike) 55 = .ok (.istore_n 3, 1) := by decide +kernel
theorem dL_areAlike_56 : decode (mC iL_areAlike) 56 = .ok (.iload_n 3, 1) := by decide +kernel
theorem dL_areAlike_57 : decode (mC iL_areAlike) 57 = .ok (.bipush 11, 2) := by decide +kernel
theorem dL_areAlike_59 : decode (mC iL_areAlike) 59 = .ok (.aload_n 0, 1) := by decide +kernel
theorem dL_areAlike_60 : decode (mC iL_areAlike) 60 = .ok (.bipush 9, 2) := by decide +kernel
theorem dL_areAlike_62 : decode (mC iL_areAlike) 62 = .ok (.invokevirtual 14, 3) := by decide +kernel
theorem dL_areAlike_65 : decode (mC iL_areAlike) 65 = .ok (.imul, 1) := by decide +kernel
theorem dL_areAlike_66 : decode (mC iL_areAlike) 66 = .ok (.if_icmp .ge 46, 3) := by decide +kernel
theorem dL_areAlike_69 : decode (mC iL_areAlike) 69 = .ok (.iload_n 2, 1) := by decide +kernel
theorem dL_areAlike_70 : decode (mC iL_areAlike) 70 = .ok (.ifCond .eq 34, 3) := by decide +kernel
theorem dL_areAlike_73 : decode (mC iL_areAlike) 73 = .ok (.aload_n 0, 1) := by decide +kernel
theorem dL_areAlike_74 : decode (mC iL_areAlike) 74 = .ok (.iload_n 3, 1) := by decide +kernel
theorem dL_areAlike_75 : decode (mC iL_areAlike) 75 = .ok (.bipush 11, 2) := by decide +kernel
theorem dL_areAlike_77 : decode (mC iL_areAlike) 77 = .ok (.idiv, 1) := by decide +kernel
theorem dL_areAlike_78 : decode (mC iL_areAlike) 78 = .ok (.iload_n 3, 1) := by decide +kernel
theorem dL_areAlike_79 : decode (mC iL_areAlike) 79 = .ok (.bipush 11, 2) := by decide +kernel
theorem dL_areAlike_81 : decode (mC iL_areAlike) 81 = .ok (.irem, 1) := by decide +kernel
theorem dL_areAlike_82 : decode (mC iL_areAlike) 82 = .ok (.invokevirtual 52, 3) := by decide +kernel
theorem dL_areAlike_85 : decode (mC iL_areAlike) 85 = .ok (.aload_n 1, 1) := by decide +kernel
theorem dL_areAlike_86 : decode (mC iL_areAlike) 86 = .ok (.iload_n 3, 1) := by decide +kernel
theorem dL_areAlike_87 : decode (mC iL_areAlike) 87 = .ok (.bipush 11, 2) := by decide +kernel
theorem dL_areAlike_89 : decode (mC iL_areAlike) 89 = .ok (.idiv, 1) := by decide +kernel
theorem dL_areAlike_90 : decode (mC iL_areAlike) 90 = .ok (.iload_n 3, 1) := by decide +kernel
theorem dL_areAlike_91 : decode (mC iL_areAlike) 91 = .ok (.bipush 11, 2) := by decide +kernel
theorem dL_areAlike_93 : decode (mC iL_areAlike) 93 = .ok (.irem, 1) := by decide +kernel
theorem dL_areAlike_94 : decode (mC iL_areAlike) 94 = .ok (.invokevirtual 52, 3) := by decide +kernel
theorem dL_areAlike_97 : decode (mC iL_areAlike) 97 = .ok (.if_icmp .ne 7, 3) := by decide +kernel
theorem dL_areAlike_100 : decode (mC iL_areAlike) 100 = .ok (.iconst 1, 1) := by decide +kernel
theorem dL_areAlike_101 : decode (mC iL_areAlike) 101 = .ok (.goto 4, 3) := by decide +kernel
theorem dL_areAlike_104 : decode (mC iL_areAlike) 104 = .ok (.iconst 0, 1) := by decide +kernel
theorem dL_areAlike_105 : decode (mC iL_areAlike) 105 = .ok (.istore_n 2, 1) := by decide +kernel
theorem dL_areAlike_106 : decode (mC iL_areAlike) 106 = .ok (.iinc 3 1, 3) := by decide +kernel
theorem dL_areAlike_109 : decode (mC iL_areAlike) 109 = .ok (.goto (-53), 3) := by decide +kernel
theorem dL_areAlike_112 : decode (mC iL_areAlike) 112 = .ok (.iconst 0, 1) := by decide +kernel
theorem dL_areAlike_113 : decode (mC iL_areAlike) 113 = .ok (.istore_n 3, 1) := by decide +kernel
theorem dL_areAlike_114 : decode (mC iL_areAlike) 114 = .ok (.iload_n 3, 1) := by decide +kernel
theorem dL_areAlike_115 : decode (mC iL_areAlike) 115 = .ok (.bipush 24, 2) := by decide +kernel
theorem dL_areAlike_117 : decode (mC iL_areAlike) 117 = .ok (.if_icmp .ge 65, 3) := by decide +kernel
theorem dL_areAlike_120 : decode (mC iL_areAlike) 120 = .ok (.iload_n 2, 1) := by decide +kernel
theorem dL_areAlike_121 : decode (mC iL_areAlike) 121 = .ok (.ifCond .eq 53, 3) := by decide +kernel
theorem dL_areAlike_124 : decode (mC iL_areAlike) 124 = .ok (.aload_n 0, 1) := by decide +kernel
theorem dL_areAlike_125 : decode (mC iL_areAlike) 125 = .ok (.iload_n 3, 1) := by decide +kernel
theorem dL_areAlike_126 : decode (mC iL_areAlike) 126 = .ok (.iconst 4, 1) := by decide +kernel
theorem dL_areAlike_127 : decode (mC iL_areAlike) 127 = .ok (.idiv, 1) := by decide +kernel
theorem dL_areAlike_128 : decode (mC iL_areAlike) 128 = .ok (.iload_n 3, 1) := by decide +kernel
theorem dL_areAlike_129 : decode (mC iL_areAlike) 129 = .ok (.iconst 4, 1) := by decide +kernel
theorem dL_areAlike_130 : decode (mC iL_areAlike) 130 = .ok (.irem, 1) := by decide +kernel
theorem dL_areAlike_131 : decode (mC iL_areAlike) 131 = .ok (.invokevirtual 55, 3) := by decide +kernel
theorem dL_areAlike_134 : decode (mC iL_areAlike) 134 = .ok (.aload_n 1, 1) := by decide +kernel
theorem dL_areAlike_135 : decode (mC iL_areAlike) 135 = .ok (.iload_n 3, 1) := by decide +kernel
theorem dL_areAlike_136 : decode (mC iL_areAlike) 136 = .ok (.iconst 4, 1) := by decide +kernel
theorem dL_areAlike_137 : decode (mC iL_areAlike) 137 = .ok (.idiv, 1) := by decide +kernel
theorem dL_areAlike_138 : decode (mC iL_areAlike) 138 = .ok (.iload_n 3, 1) := by decide +kernel
theorem dL_areAlike_139 : decode (mC iL_areAlike) 139 = .ok (.iconst 4, 1) := by decide +kernel
theorem dL_areAlike_140 : decode (mC iL_areAlike) 140 = .ok (.irem, 1) := by decide +kernel
theorem dL_areAlike_141 : decode (mC iL_areAlike) 141 = .ok (.invokevirtual 55, 3) := by decide +kernel
theorem dL_areAlike_144 : decode (mC iL_areAlike) 144 = .ok (.if_icmp .ne 30, 3) := by decide +kernel
theorem dL_areAlike_147 : decode (mC iL_areAlike) 147 = .ok (.aload_n 0, 1) := by decide +kernel
theorem dL_areAlike_148 : decode (mC iL_areAlike) 148 = .ok (.iload_n 3, 1) := by decide +kernel
theorem dL_areAlike_149 : decode (mC iL_areAlike) 149 = .ok (.iconst 5, 1) := by decide +kernel
theorem dL_areAlike_150 : decode (mC iL_areAlike) 150 = .ok (.irem, 1) := by decide +kernel
theorem dL_areAlike_151 : decode (mC iL_areAlike) 151 = .ok (.iload_n 3, 1) := by decide +kernel
theorem dL_areAlike_152 : decode (mC iL_areAlike) 152 = .ok (.iconst 3, 1) := by decide +kernel
theorem dL_areAlike_153 : decode (mC iL_areAlike) 153 = .ok (.irem, 1) := by decide +kernel
theorem dL_areAlike_154 : decode (mC iL_areAlike) 154 = .ok (.invokevirtual 58, 3) := by decide +kernel
theorem dL_areAlike_157 : decode (mC iL_areAlike) 157 = .ok (.aload_n 1, 1) := by decide +kernel
theorem dL_areAlike_158 : decode (mC iL_areAlike) 158 = .ok (.iload_n 3, 1) := by decide +kernel
theorem dL_areAlike_159 : decode (mC iL_areAlike) 159 = .ok (.iconst 5, 1) := by decide +kernel
theorem dL_areAlike_160 : decode (mC iL_areAlike) 160 = .ok (.irem, 1) := by decide +kernel
theorem dL_areAlike_161 : decode (mC iL_areAlike) 161 = .ok (.iload_n 3, 1) := by decide +kernel
theorem dL_areAlike_162 : decode (mC iL_areAlike) 162 = .ok (.iconst 3, 1) := by decide +kernel
theorem dL_areAlike_163 : decode (mC iL_areAlike) 163 = .ok (.irem, 1) := by decide +kernel
theorem dL_areAlike_164 : decode (mC iL_areAlike) 164 = .ok (.invokevirtual 58, 3) := by decide +kernel
theorem dL_areAlike_167 : decode (mC iL_areAlike) 167 = .ok (.if_icmp .ne 7, 3) := by decide +kernel
theorem dL_areAlike_170 : decode (mC iL_areAlike) 170 = .ok (.iconst 1, 1) := by decide +kernel
theorem dL_areAlike_171 : decode (mC iL_areAlike) 171 = .ok (.goto 4, 3) := by decide +kernel
theorem dL_areAlike_174 : decode (mC iL_areAlike) 174 = .ok (.iconst 0, 1) := by decide +kernel
theorem dL_areAlike_175 : decode (mC iL_areAlike) 175 = .ok (.istore_n 2, 1) := by decide +kernel
theorem dL_areAlike_176 : decode (mC iL_areAlike) 176 = .ok (.iinc 3 1, 3) := by decide +kernel
theorem dL_areAlike_179 : decode (mC iL_areAlike) 179 = .ok (.goto (-65), 3) := by decide +kernel
theorem dL_areAlike_182 : decode (mC iL_areAlike) 182 = .ok (.iload_n 2, 1) := by decide +kernel
theorem dL_areAlike_183 : decode (mC iL_areAlike) 183 = .ok (.ireturn, 1) := by decide +kernel
