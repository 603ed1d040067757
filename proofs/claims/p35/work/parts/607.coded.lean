/-! decode rows of the law -/
theorem dL_refuses_0 : decode cL_refuses 0 = .ok (.aload_n 0, 1) := by decide +kernel
theorem dL_refuses_1 : decode cL_refuses 1 = .ok (.iconst 2, 1) := by decide +kernel
theorem dL_refuses_2 : decode cL_refuses 2 = .ok (.iconst 1, 1) := by decide +kernel
theorem dL_refuses_3 : decode cL_refuses 3 = .ok (.iconst 0, 1) := by decide +kernel
theorem dL_refuses_4 : decode cL_refuses 4 = .ok (.iconst 0, 1) := by decide +kernel
theorem dL_refuses_5 : decode cL_refuses 5 = .ok (.invokestatic 189, 3) := by decide +kernel
theorem dL_refuses_8 : decode cL_refuses 8 = .ok (.istore_n 2, 1) := by decide +kernel
theorem dL_refuses_9 : decode cL_refuses 9 = .ok (.aload_n 0, 1) := by decide +kernel
theorem dL_refuses_10 : decode cL_refuses 10 = .ok (.iconst 2, 1) := by decide +kernel
theorem dL_refuses_11 : decode cL_refuses 11 = .ok (.bipush 10, 2) := by decide +kernel
theorem dL_refuses_13 : decode cL_refuses 13 = .ok (.iload_n 1, 1) := by decide +kernel
theorem dL_refuses_14 : decode cL_refuses 14 = .ok (.bipush 9, 2) := by decide +kernel
theorem dL_refuses_16 : decode cL_refuses 16 = .ok (.irem, 1) := by decide +kernel
theorem dL_refuses_17 : decode cL_refuses 17 = .ok (.iadd, 1) := by decide +kernel
theorem dL_refuses_18 : decode cL_refuses 18 = .ok (.iconst 0, 1) := by decide +kernel
theorem dL_refuses_19 : decode cL_refuses 19 = .ok (.iconst 0, 1) := by decide +kernel
theorem dL_refuses_20 : decode cL_refuses 20 = .ok (.invokestatic 189, 3) := by decide +kernel
theorem dL_refuses_23 : decode cL_refuses 23 = .ok (.ldc 28, 2) := by decide +kernel
theorem dL_refuses_25 : decode cL_refuses 25 = .ok (.if_icmp .ne 183, 3) := by decide +kernel
theorem dL_refuses_28 : decode cL_refuses 28 = .ok (.aload_n 0, 1) := by decide +kernel
theorem dL_refuses_29 : decode cL_refuses 29 = .ok (.iconst 3, 1) := by decide +kernel
theorem dL_refuses_30 : decode cL_refuses 30 = .ok (.iload_n 2, 1) := by decide +kernel
theorem dL_refuses_31 : decode cL_refuses 31 = .ok (.bipush 9, 2) := by decide +kernel
theorem dL_refuses_33 : decode cL_refuses 33 = .ok (.iconst 0, 1) := by decide +kernel
theorem dL_refuses_34 : decode cL_refuses 34 = .ok (.invokestatic 189, 3) := by decide +kernel
theorem dL_refuses_37 : decode cL_refuses 37 = .ok (.ldc 15, 2) := by decide +kernel
theorem dL_refuses_39 : decode cL_refuses 39 = .ok (.if_icmp .ne 169, 3) := by decide +kernel
theorem dL_refuses_42 : decode cL_refuses 42 = .ok (.aload_n 0, 1) := by decide +kernel
theorem dL_refuses_43 : decode cL_refuses 43 = .ok (.iconst 4, 1) := by decide +kernel
theorem dL_refuses_44 : decode cL_refuses 44 = .ok (.iconst 5, 1) := by decide +kernel
theorem dL_refuses_45 : decode cL_refuses 45 = .ok (.iload_n 1, 1) := by decide +kernel
theorem dL_refuses_46 : decode cL_refuses 46 = .ok (.bipush 9, 2) := by decide +kernel
theorem dL_refuses_48 : decode cL_refuses 48 = .ok (.irem, 1) := by decide +kernel
theorem dL_refuses_49 : decode cL_refuses 49 = .ok (.iadd, 1) := by decide +kernel
theorem dL_refuses_50 : decode cL_refuses 50 = .ok (.bipush 9, 2) := by decide +kernel
theorem dL_refuses_52 : decode cL_refuses 52 = .ok (.iconst 0, 1) := by decide +kernel
theorem dL_refuses_53 : decode cL_refuses 53 = .ok (.invokestatic 189, 3) := by decide +kernel
theorem dL_refuses_56 : decode cL_refuses 56 = .ok (.ldc 15, 2) := by decide +kernel
theorem dL_refuses_58 : decode cL_refuses 58 = .ok (.if_icmp .ne 150, 3) := by decide +kernel
theorem dL_refuses_61 : decode cL_refuses 61 = .ok (.aload_n 0, 1) := by decide +kernel
theorem dL_refuses_62 : decode cL_refuses 62 = .ok (.iconst 4, 1) := by decide +kernel
theorem dL_refuses_63 : decode cL_refuses 63 = .ok (.iload_n 1, 1) := by decide +kernel
theorem dL_refuses_64 : decode cL_refuses 64 = .ok (.iconst 5, 1) := by decide +kernel
theorem dL_refuses_65 : decode cL_refuses 65 = .ok (.irem, 1) := by decide +kernel
theorem dL_refuses_66 : decode cL_refuses 66 = .ok (.bipush 7, 2) := by decide +kernel
theorem dL_refuses_68 : decode cL_refuses 68 = .ok (.iload_n 1, 1) := by decide +kernel
theorem dL_refuses_69 : decode cL_refuses 69 = .ok (.bipush 9, 2) := by decide +kernel
theorem dL_refuses_71 : decode cL_refuses 71 = .ok (.irem, 1) := by decide +kernel
theorem dL_refuses_72 : decode cL_refuses 72 = .ok (.iadd, 1) := by decide +kernel
theorem dL_refuses_73 : decode cL_refuses 73 = .ok (.iconst 0, 1) := by decide +kernel
theorem dL_refuses_74 : decode cL_refuses 74 = .ok (.invokestatic 189, 3) := by decide +kernel
theorem dL_refuses_77 : decode cL_refuses 77 = .ok (.ldc 28, 2) := by decide +kernel
theorem dL_refuses_79 : decode cL_refuses 79 = .ok (.if_icmp .ne 129, 3) := by decide +kernel
theorem dL_refuses_82 : decode cL_refuses 82 = .ok (.aload_n 0, 1) := by decide +kernel
theorem dL_refuses_83 : decode cL_refuses 83 = .ok (.iconst 0, 1) := by decide +kernel
theorem dL_refuses_84 : decode cL_refuses 84 = .ok (.iconst 5, 1) := by decide +kernel
theorem dL_refuses_85 : decode cL_refuses 85 = .ok (.iconst 0, 1) := by decide +kernel
theorem dL_refuses_86 : decode cL_refuses 86 = .ok (.iconst 0, 1) := by decide +kernel
theorem dL_refuses_87 : decode cL_refuses 87 = .ok (.invokestatic 193, 3) := by decide +kernel
theorem dL_refuses_90 : decode cL_refuses 90 = .ok (.ldc 15, 2) := by decide +kernel
theorem dL_refuses_92 : decode cL_refuses 92 = .ok (.if_icmp .ne 116, 3) := by decide +kernel
theorem dL_refuses_95 : decode cL_refuses 95 = .ok (.aload_n 0, 1) := by decide +kernel
theorem dL_refuses_96 : decode cL_refuses 96 = .ok (.iconst 0, 1) := by decide +kernel
theorem dL_refuses_97 : decode cL_refuses 97 = .ok (.iconst 0, 1) := by decide +kernel
theorem dL_refuses_98 : decode cL_refuses 98 = .ok (.iconst 3, 1) := by decide +kernel
theorem dL_refuses_99 : decode cL_refuses 99 = .ok (.iload_n 1, 1) := by decide +kernel
theorem dL_refuses_100 : decode cL_refuses 100 = .ok (.bipush 9, 2) := by decide +kernel
theorem dL_refuses_102 : decode cL_refuses 102 = .ok (.irem, 1) := by decide +kernel
theorem dL_refuses_103 : decode cL_refuses 103 = .ok (.iadd, 1) := by decide +kernel
theorem dL_refuses_104 : decode cL_refuses 104 = .ok (.iconst 0, 1) := by decide +kernel
theorem dL_refuses_105 : decode cL_refuses 105 = .ok (.invokestatic 193, 3) := by decide +kernel
theorem dL_refuses_108 : decode cL_refuses 108 = .ok (.ldc 15, 2) := by decide +kernel
theorem dL_refuses_110 : decode cL_refuses 110 = .ok (.if_icmp .ne 98, 3) := by decide +kernel
theorem dL_refuses_113 : decode cL_refuses 113 = .ok (.aload_n 0, 1) := by decide +kernel
theorem dL_refuses_114 : decode cL_refuses 114 = .ok (.iconst 0, 1) := by decide +kernel
theorem dL_refuses_115 : decode cL_refuses 115 = .ok (.iconst 0, 1) := by decide +kernel
theorem dL_refuses_116 : decode cL_refuses 116 = .ok (.iconst 0, 1) := by decide +kernel
theorem dL_refuses_117 : decode cL_refuses 117 = .ok (.iconst (-1), 1) := by decide +kernel
theorem dL_refuses_118 : decode cL_refuses 118 = .ok (.iload_n 1, 1) := by decide +kernel
theorem dL_refuses_119 : decode cL_refuses 119 = .ok (.bipush 9, 2) := by decide +kernel
theorem dL_refuses_121 : decode cL_refuses 121 = .ok (.irem, 1) := by decide +kernel
theorem dL_refuses_122 : decode cL_refuses 122 = .ok (.isub, 1) := by decide +kernel
theorem dL_refuses_123 : decode cL_refuses 123 = .ok (.invokestatic 193, 3) := by decide +kernel
theorem dL_refuses_126 : decode cL_refuses 126 = .ok (.ldc 15, 2) := by decide +kernel
theorem dL_refuses_128 : decode cL_refuses 128 = .ok (.if_icmp .ne 80, 3) := by decide +kernel
theorem dL_refuses_131 : decode cL_refuses 131 = .ok (.aload_n 0, 1) := by decide +kernel
theorem dL_refuses_132 : decode cL_refuses 132 = .ok (.iconst 5, 1) := by decide +kernel
theorem dL_refuses_133 : decode cL_refuses 133 = .ok (.iconst 5, 1) := by decide +kernel
theorem dL_refuses_134 : decode cL_refuses 134 = .ok (.iconst (-1), 1) := by decide +kernel
theorem dL_refuses_135 : decode cL_refuses 135 = .ok (.bipush 9, 2) := by decide +kernel
theorem dL_refuses_137 : decode cL_refuses 137 = .ok (.invokestatic 189, 3) := by decide +kernel
theorem dL_refuses_140 : decode cL_refuses 140 = .ok (.ldc 15, 2) := by decide +kernel
theorem dL_refuses_142 : decode cL_refuses 142 = .ok (.if_icmp .ne 66, 3) := by decide +kernel
theorem dL_refuses_145 : decode cL_refuses 145 = .ok (.aload_n 0, 1) := by decide +kernel
theorem dL_refuses_146 : decode cL_refuses 146 = .ok (.iconst 5, 1) := by decide +kernel
theorem dL_refuses_147 : decode cL_refuses 147 = .ok (.iload_n 1, 1) := by decide +kernel
theorem dL_refuses_148 : decode cL_refuses 148 = .ok (.iconst 5, 1) := by decide +kernel
theorem dL_refuses_149 : decode cL_refuses 149 = .ok (.irem, 1) := by decide +kernel
theorem dL_refuses_150 : decode cL_refuses 150 = .ok (.iconst (-1), 1) := by decide +kernel
theorem dL_refuses_151 : decode cL_refuses 151 = .ok (.iload_n 1, 1) := by decide +kernel
theorem dL_refuses_152 : decode cL_refuses 152 = .ok (.bipush 9, 2) := by decide +kernel
theorem dL_refuses_154 : decode cL_refuses 154 = .ok (.irem, 1) := by decide +kernel
theorem dL_refuses_155 : decode cL_refuses 155 = .ok (.isub, 1) := by decide +kernel
theorem dL_refuses_156 : decode cL_refuses 156 = .ok (.iconst 0, 1) := by decide +kernel
theorem dL_refuses_157 : decode cL_refuses 157 = .ok (.invokestatic 189, 3) := by decide +kernel
theorem dL_refuses_160 : decode cL_refuses 160 = .ok (.ldc 28, 2) := by decide +kernel
theorem dL_refuses_162 : decode cL_refuses 162 = .ok (.if_icmp .ne 46, 3) := by decide +kernel
theorem dL_refuses_165 : decode cL_refuses 165 = .ok (.aload_n 0, 1) := by decide +kernel
theorem dL_refuses_166 : decode cL_refuses 166 = .ok (.iconst 5, 1) := by decide +kernel
theorem dL_refuses_167 : decode cL_refuses 167 = .ok (.iload_n 1, 1) := by decide +kernel
theorem dL_refuses_168 : decode cL_refuses 168 = .ok (.iconst 5, 1) := by decide +kernel
theorem dL_refuses_169 : decode cL_refuses 169 = .ok (.irem, 1) := by decide +kernel
theorem dL_refuses_170 : decode cL_refuses 170 = .ok (.iconst 0, 1) := by decide +kernel
theorem dL_refuses_171 : decode cL_refuses 171 = .ok (.iconst 2, 1) := by decide +kernel
theorem dL_refuses_172 : decode cL_refuses 172 = .ok (.iload_n 1, 1) := by decide +kernel
theorem dL_refuses_173 : decode cL_refuses 173 = .ok (.bipush 9, 2) := by decide +kernel
theorem dL_refuses_175 : decode cL_refuses 175 = .ok (.irem, 1) := by decide +kernel
theorem dL_refuses_176 : decode cL_refuses 176 = .ok (.iadd, 1) := by decide +kernel
theorem dL_refuses_177 : decode cL_refuses 177 = .ok (.invokestatic 189, 3) := by decide +kernel
theorem dL_refuses_180 : decode cL_refuses 180 = .ok (.ldc 28, 2) := by decide +kernel
theorem dL_refuses_182 : decode cL_refuses 182 = .ok (.if_icmp .ne 26, 3) := by decide +kernel
theorem dL_refuses_185 : decode cL_refuses 185 = .ok (.aload_n 0, 1) := by decide +kernel
theorem dL_refuses_186 : decode cL_refuses 186 = .ok (.bipush 6, 2) := by decide +kernel
theorem dL_refuses_188 : decode cL_refuses 188 = .ok (.iconst 3, 1) := by decide +kernel
theorem dL_refuses_189 : decode cL_refuses 189 = .ok (.iload_n 1, 1) := by decide +kernel
theorem dL_refuses_190 : decode cL_refuses 190 = .ok (.bipush 9, 2) := by decide +kernel
theorem dL_refuses_192 : decode cL_refuses 192 = .ok (.irem, 1) := by decide +kernel
theorem dL_refuses_193 : decode cL_refuses 193 = .ok (.iadd, 1) := by decide +kernel
theorem dL_refuses_194 : decode cL_refuses 194 = .ok (.iconst 0, 1) := by decide +kernel
theorem dL_refuses_195 : decode cL_refuses 195 = .ok (.iconst 0, 1) := by decide +kernel
theorem dL_refuses_196 : decode cL_refuses 196 = .ok (.invokestatic 189, 3) := by decide +kernel
theorem dL_refuses_199 : decode cL_refuses 199 = .ok (.ldc 28, 2) := by decide +kernel
theorem dL_refuses_201 : decode cL_refuses 201 = .ok (.if_icmp .ne 7, 3) := by decide +kernel
theorem dL_refuses_204 : decode cL_refuses 204 = .ok (.iconst 1, 1) := by decide +kernel
theorem dL_refuses_205 : decode cL_refuses 205 = .ok (.goto 4, 3) := by decide +kernel
theorem dL_refuses_208 : decode cL_refuses 208 = .ok (.iconst 0, 1) := by decide +kernel
theorem dL_refuses_209 : decode cL_refuses 209 = .ok (.istore_n 3, 1) := by decide +kernel
theorem dL_refuses_210 : decode cL_refuses 210 = .ok (.iload_n 3, 1) := by decide +kernel
theorem dL_refuses_211 : decode cL_refuses 211 = .ok (.ifCond .eq 235, 3) := by decide +kernel
theorem dL_refuses_214 : decode cL_refuses 214 = .ok (.aload_n 0, 1) := by decide +kernel
theorem dL_refuses_215 : decode cL_refuses 215 = .ok (.bipush 7, 2) := by decide +kernel
theorem dL_refuses_217 : decode cL_refuses 217 = .ok (.iconst 3, 1) := by decide +kernel
theorem dL_refuses_218 : decode cL_refuses 218 = .ok (.iconst 0, 1) := by decide +kernel
theorem dL_refuses_219 : decode cL_refuses 219 = .ok (.bipush 9, 2) := by decide +kernel
theorem dL_refuses_221 : decode cL_refuses 221 = .ok (.invokestatic 189, 3) := by decide +kernel
theorem dL_refuses_224 : decode cL_refuses 224 = .ok (.ldc 15, 2) := by decide +kernel
theorem dL_refuses_226 : decode cL_refuses 226 = .ok (.if_icmp .ne 220, 3) := by decide +kernel
theorem dL_refuses_229 : decode cL_refuses 229 = .ok (.aload_n 0, 1) := by decide +kernel
theorem dL_refuses_230 : decode cL_refuses 230 = .ok (.bipush 7, 2) := by decide +kernel
theorem dL_refuses_232 : decode cL_refuses 232 = .ok (.iconst 0, 1) := by decide +kernel
theorem dL_refuses_233 : decode cL_refuses 233 = .ok (.iconst 5, 1) := by decide +kernel
theorem dL_refuses_234 : decode cL_refuses 234 = .ok (.bipush 9, 2) := by decide +kernel
theorem dL_refuses_236 : decode cL_refuses 236 = .ok (.invokestatic 189, 3) := by decide +kernel
theorem dL_refuses_239 : decode cL_refuses 239 = .ok (.ldc 15, 2) := by decide +kernel
theorem dL_refuses_241 : decode cL_refuses 241 = .ok (.if_icmp .ne 205, 3) := by decide +kernel
theorem dL_refuses_244 : decode cL_refuses 244 = .ok (.aload_n 0, 1) := by decide +kernel
theorem dL_refuses_245 : decode cL_refuses 245 = .ok (.bipush 7, 2) := by decide +kernel
theorem dL_refuses_247 : decode cL_refuses 247 = .ok (.iload_n 1, 1) := by decide +kernel
theorem dL_refuses_248 : decode cL_refuses 248 = .ok (.iconst 3, 1) := by decide +kernel
theorem dL_refuses_249 : decode cL_refuses 249 = .ok (.irem, 1) := by decide +kernel
theorem dL_refuses_250 : decode cL_refuses 250 = .ok (.iload_n 1, 1) := by decide +kernel
theorem dL_refuses_251 : decode cL_refuses 251 = .ok (.iconst 5, 1) := by decide +kernel
theorem dL_refuses_252 : decode cL_refuses 252 = .ok (.irem, 1) := by decide +kernel
theorem dL_refuses_253 : decode cL_refuses 253 = .ok (.bipush 8, 2) := by decide +kernel
theorem dL_refuses_255 : decode cL_refuses 255 = .ok (.iload_n 1, 1) := by decide +kernel
theorem dL_refuses_256 : decode cL_refuses 256 = .ok (.bipush 9, 2) := by decide +kernel
theorem dL_refuses_258 : decode cL_refuses 258 = .ok (.irem, 1) := by decide +kernel
theorem dL_refuses_259 : decode cL_refuses 259 = .ok (.iadd, 1) := by decide +kernel
theorem dL_refuses_260 : decode cL_refuses 260 = .ok (.invokestatic 189, 3) := by decide +kernel
theorem dL_refuses_263 : decode cL_refuses 263 = .ok (.ldc 28, 2) := by decide +kernel
theorem dL_refuses_265 : decode cL_refuses 265 = .ok (.if_icmp .ne 181, 3) := by decide +kernel
theorem dL_refuses_268 : decode cL_refuses 268 = .ok (.iload_n 2, 1) := by decide +kernel
theorem dL_refuses_269 : decode cL_refuses 269 = .ok (.bipush 16, 2) := by decide +kernel
theorem dL_refuses_271 : decode cL_refuses 271 = .ok (.if_icmp .lt 17, 3) := by decide +kernel
theorem dL_refuses_274 : decode cL_refuses 274 = .ok (.aload_n 0, 1) := by decide +kernel
theorem dL_refuses_275 : decode cL_refuses 275 = .ok (.bipush 7, 2) := by decide +kernel
theorem dL_refuses_277 : decode cL_refuses 277 = .ok (.iconst 0, 1) := by decide +kernel
theorem dL_refuses_278 : decode cL_refuses 278 = .ok (.iconst 0, 1) := by decide +kernel
theorem dL_refuses_279 : decode cL_refuses 279 = .ok (.iconst 0, 1) := by decide +kernel
theorem dL_refuses_280 : decode cL_refuses 280 = .ok (.invokestatic 189, 3) := by decide +kernel
theorem dL_refuses_283 : decode cL_refuses 283 = .ok (.ldc 21, 2) := by decide +kernel
theorem dL_refuses_285 : decode cL_refuses 285 = .ok (.if_icmp .ne 161, 3) := by decide +kernel
theorem dL_refuses_288 : decode cL_refuses 288 = .ok (.aload_n 0, 1) := by decide +kernel
theorem dL_refuses_289 : decode cL_refuses 289 = .ok (.bipush 8, 2) := by decide +kernel
theorem dL_refuses_291 : decode cL_refuses 291 = .ok (.iload_n 2, 1) := by decide +kernel
theorem dL_refuses_292 : decode cL_refuses 292 = .ok (.iconst 0, 1) := by decide +kernel
theorem dL_refuses_293 : decode cL_refuses 293 = .ok (.iconst 0, 1) := by decide +kernel
theorem dL_refuses_294 : decode cL_refuses 294 = .ok (.invokestatic 189, 3) := by decide +kernel
theorem dL_refuses_297 : decode cL_refuses 297 = .ok (.ldc 15, 2) := by decide +kernel
theorem dL_refuses_299 : decode cL_refuses 299 = .ok (.if_icmp .ne 147, 3) := by decide +kernel
theorem dL_refuses_302 : decode cL_refuses 302 = .ok (.aload_n 0, 1) := by decide +kernel
theorem dL_refuses_303 : decode cL_refuses 303 = .ok (.bipush 9, 2) := by decide +kernel
theorem dL_refuses_305 : decode cL_refuses 305 = .ok (.iload_n 2, 1) := by decide +kernel
theorem dL_refuses_306 : decode cL_refuses 306 = .ok (.iload_n 1, 1) := by decide +kernel
theorem dL_refuses_307 : decode cL_refuses 307 = .ok (.bipush 9, 2) := by decide +kernel
theorem dL_refuses_309 : decode cL_refuses 309 = .ok (.irem, 1) := by decide +kernel
theorem dL_refuses_310 : decode cL_refuses 310 = .ok (.iadd, 1) := by decide +kernel
theorem dL_refuses_311 : decode cL_refuses 311 = .ok (.iconst 0, 1) := by decide +kernel
theorem dL_refuses_312 : decode cL_refuses 312 = .ok (.iconst 0, 1) := by decide +kernel
theorem dL_refuses_313 : decode cL_refuses 313 = .ok (.invokestatic 189, 3) := by decide +kernel
theorem dL_refuses_316 : decode cL_refuses 316 = .ok (.ldc 15, 2) := by decide +kernel
theorem dL_refuses_318 : decode cL_refuses 318 = .ok (.if_icmp .ne 128, 3) := by decide +kernel
theorem dL_refuses_321 : decode cL_refuses 321 = .ok (.aload_n 0, 1) := by decide +kernel
theorem dL_refuses_322 : decode cL_refuses 322 = .ok (.bipush 10, 2) := by decide +kernel
theorem dL_refuses_324 : decode cL_refuses 324 = .ok (.iconst 0, 1) := by decide +kernel
theorem dL_refuses_325 : decode cL_refuses 325 = .ok (.iload_n 2, 1) := by decide +kernel
theorem dL_refuses_326 : decode cL_refuses 326 = .ok (.iconst 0, 1) := by decide +kernel
theorem dL_refuses_327 : decode cL_refuses 327 = .ok (.invokestatic 189, 3) := by decide +kernel
theorem dL_refuses_330 : decode cL_refuses 330 = .ok (.ldc 15, 2) := by decide +kernel
theorem dL_refuses_332 : decode cL_refuses 332 = .ok (.if_icmp .ne 114, 3) := by decide +kernel
theorem dL_refuses_335 : decode cL_refuses 335 = .ok (.aload_n 0, 1) := by decide +kernel
theorem dL_refuses_336 : decode cL_refuses 336 = .ok (.bipush 11, 2) := by decide +kernel
theorem dL_refuses_338 : decode cL_refuses 338 = .ok (.iconst 5, 1) := by decide +kernel
theorem dL_refuses_339 : decode cL_refuses 339 = .ok (.iconst 0, 1) := by decide +kernel
theorem dL_refuses_340 : decode cL_refuses 340 = .ok (.iconst 0, 1) := by decide +kernel
theorem dL_refuses_341 : decode cL_refuses 341 = .ok (.invokestatic 189, 3) := by decide +kernel
theorem dL_refuses_344 : decode cL_refuses 344 = .ok (.ldc 15, 2) := by decide +kernel
theorem dL_refuses_346 : decode cL_refuses 346 = .ok (.if_icmp .ne 100, 3) := by decide +kernel
theorem dL_refuses_349 : decode cL_refuses 349 = .ok (.aload_n 0, 1) := by decide +kernel
theorem dL_refuses_350 : decode cL_refuses 350 = .ok (.bipush 11, 2) := by decide +kernel
theorem dL_refuses_352 : decode cL_refuses 352 = .ok (.iconst 0, 1) := by decide +kernel
theorem dL_refuses_353 : decode cL_refuses 353 = .ok (.iload_n 2, 1) := by decide +kernel
theorem dL_refuses_354 : decode cL_refuses 354 = .ok (.iconst 0, 1) := by decide +kernel
theorem dL_refuses_355 : decode cL_refuses 355 = .ok (.invokestatic 189, 3) := by decide +kernel
theorem dL_refuses_358 : decode cL_refuses 358 = .ok (.ldc 15, 2) := by decide +kernel
theorem dL_refuses_360 : decode cL_refuses 360 = .ok (.if_icmp .ne 86, 3) := by decide +kernel
theorem dL_refuses_363 : decode cL_refuses 363 = .ok (.aload_n 0, 1) := by decide +kernel
theorem dL_refuses_364 : decode cL_refuses 364 = .ok (.bipush 12, 2) := by decide +kernel
theorem dL_refuses_366 : decode cL_refuses 366 = .ok (.iconst (-1), 1) := by decide +kernel
theorem dL_refuses_367 : decode cL_refuses 367 = .ok (.iload_n 1, 1) := by decide +kernel
theorem dL_refuses_368 : decode cL_refuses 368 = .ok (.bipush 9, 2) := by decide +kernel
theorem dL_refuses_370 : decode cL_refuses 370 = .ok (.irem, 1) := by decide +kernel
theorem dL_refuses_371 : decode cL_refuses 371 = .ok (.isub, 1) := by decide +kernel
theorem dL_refuses_372 : decode cL_refuses 372 = .ok (.iconst 0, 1) := by decide +kernel
theorem dL_refuses_373 : decode cL_refuses 373 = .ok (.iconst 0, 1) := by decide +kernel
theorem dL_refuses_374 : decode cL_refuses 374 = .ok (.invokestatic 189, 3) := by decide +kernel
theorem dL_refuses_377 : decode cL_refuses 377 = .ok (.ldc 15, 2) := by decide +kernel
theorem dL_refuses_379 : decode cL_refuses 379 = .ok (.if_icmp .ne 67, 3) := by decide +kernel
theorem dL_refuses_382 : decode cL_refuses 382 = .ok (.aload_n 0, 1) := by decide +kernel
theorem dL_refuses_383 : decode cL_refuses 383 = .ok (.bipush 13, 2) := by decide +kernel
theorem dL_refuses_385 : decode cL_refuses 385 = .ok (.iconst 0, 1) := by decide +kernel
theorem dL_refuses_386 : decode cL_refuses 386 = .ok (.iload_n 2, 1) := by decide +kernel
theorem dL_refuses_387 : decode cL_refuses 387 = .ok (.iconst 0, 1) := by decide +kernel
theorem dL_refuses_388 : decode cL_refuses 388 = .ok (.invokestatic 189, 3) := by decide +kernel
theorem dL_refuses_391 : decode cL_refuses 391 = .ok (.ldc 15, 2) := by decide +kernel
theorem dL_refuses_393 : decode cL_refuses 393 = .ok (.if_icmp .ne 53, 3) := by decide +kernel
theorem dL_refuses_396 : decode cL_refuses 396 = .ok (.aload_n 0, 1) := by decide +kernel
theorem dL_refuses_397 : decode cL_refuses 397 = .ok (.iconst 0, 1) := by decide +kernel
theorem dL_refuses_398 : decode cL_refuses 398 = .ok (.iconst 0, 1) := by decide +kernel
theorem dL_refuses_399 : decode cL_refuses 399 = .ok (.iconst 3, 1) := by decide +kernel
theorem dL_refuses_400 : decode cL_refuses 400 = .ok (.iconst 0, 1) := by decide +kernel
theorem dL_refuses_401 : decode cL_refuses 401 = .ok (.invokestatic 196, 3) := by decide +kernel
theorem dL_refuses_404 : decode cL_refuses 404 = .ok (.ldc 15, 2) := by decide +kernel
theorem dL_refuses_406 : decode cL_refuses 406 = .ok (.if_icmp .ne 40, 3) := by decide +kernel
theorem dL_refuses_409 : decode cL_refuses 409 = .ok (.aload_n 0, 1) := by decide +kernel
theorem dL_refuses_410 : decode cL_refuses 410 = .ok (.iload_n 1, 1) := by decide +kernel
theorem dL_refuses_411 : decode cL_refuses 411 = .ok (.iconst 5, 1) := by decide +kernel
theorem dL_refuses_412 : decode cL_refuses 412 = .ok (.irem, 1) := by decide +kernel
theorem dL_refuses_413 : decode cL_refuses 413 = .ok (.iload_n 1, 1) := by decide +kernel
theorem dL_refuses_414 : decode cL_refuses 414 = .ok (.iconst 5, 1) := by decide +kernel
theorem dL_refuses_415 : decode cL_refuses 415 = .ok (.irem, 1) := by decide +kernel
theorem dL_refuses_416 : decode cL_refuses 416 = .ok (.iload_n 1, 1) := by decide +kernel
theorem dL_refuses_417 : decode cL_refuses 417 = .ok (.iconst 3, 1) := by decide +kernel
theorem dL_refuses_418 : decode cL_refuses 418 = .ok (.irem, 1) := by decide +kernel
theorem dL_refuses_419 : decode cL_refuses 419 = .ok (.iconst 0, 1) := by decide +kernel
theorem dL_refuses_420 : decode cL_refuses 420 = .ok (.invokestatic 196, 3) := by decide +kernel
theorem dL_refuses_423 : decode cL_refuses 423 = .ok (.ldc 21, 2) := by decide +kernel
theorem dL_refuses_425 : decode cL_refuses 425 = .ok (.if_icmp .ne 21, 3) := by decide +kernel
theorem dL_refuses_428 : decode cL_refuses 428 = .ok (.aload_n 0, 1) := by decide +kernel
theorem dL_refuses_429 : decode cL_refuses 429 = .ok (.bipush 14, 2) := by decide +kernel
theorem dL_refuses_431 : decode cL_refuses 431 = .ok (.iload_n 2, 1) := by decide +kernel
theorem dL_refuses_432 : decode cL_refuses 432 = .ok (.iconst 0, 1) := by decide +kernel
theorem dL_refuses_433 : decode cL_refuses 433 = .ok (.iconst 0, 1) := by decide +kernel
theorem dL_refuses_434 : decode cL_refuses 434 = .ok (.invokestatic 189, 3) := by decide +kernel
theorem dL_refuses_437 : decode cL_refuses 437 = .ok (.ldc 15, 2) := by decide +kernel
theorem dL_refuses_439 : decode cL_refuses 439 = .ok (.if_icmp .ne 7, 3) := by decide +kernel
theorem dL_refuses_442 : decode cL_refuses 442 = .ok (.iconst 1, 1) := by decide +kernel
theorem dL_refuses_443 : decode cL_refuses 443 = .ok (.goto 4, 3) := by decide +kernel
theorem dL_refuses_446 : decode cL_refuses 446 = .ok (.iconst 0, 1) := by decide +kernel
theorem dL_refuses_447 : decode cL_refuses 447 = .ok (.istore_n 3, 1) := by decide +kernel
theorem dL_refuses_448 : decode cL_refuses 448 = .ok (.iload_n 3, 1) := by decide +kernel
theorem dL_refuses_449 : decode cL_refuses 449 = .ok (.ifCond .eq 231, 3) := by decide +kernel
theorem dL_refuses_452 : decode cL_refuses 452 = .ok (.aload_n 0, 1) := by decide +kernel
theorem dL_refuses_453 : decode cL_refuses 453 = .ok (.bipush 15, 2) := by decide +kernel
theorem dL_refuses_455 : decode cL_refuses 455 = .ok (.iconst 0, 1) := by decide +kernel
theorem dL_refuses_456 : decode cL_refuses 456 = .ok (.iconst 0, 1) := by decide +kernel
theorem dL_refuses_457 : decode cL_refuses 457 = .ok (.iconst 0, 1) := by decide +kernel
theorem dL_refuses_458 : decode cL_refuses 458 = .ok (.invokestatic 189, 3) := by decide +kernel
theorem dL_refuses_461 : decode cL_refuses 461 = .ok (.ldc 28, 2) := by decide +kernel
theorem dL_refuses_463 : decode cL_refuses 463 = .ok (.if_icmp .ne 217, 3) := by decide +kernel
theorem dL_refuses_466 : decode cL_refuses 466 = .ok (.aload_n 0, 1) := by decide +kernel
theorem dL_refuses_467 : decode cL_refuses 467 = .ok (.bipush 15, 2) := by decide +kernel
theorem dL_refuses_469 : decode cL_refuses 469 = .ok (.bipush 100, 2) := by decide +kernel
theorem dL_refuses_471 : decode cL_refuses 471 = .ok (.iload_n 1, 1) := by decide +kernel
theorem dL_refuses_472 : decode cL_refuses 472 = .ok (.bipush 9, 2) := by decide +kernel
theorem dL_refuses_474 : decode cL_refuses 474 = .ok (.irem, 1) := by decide +kernel
theorem dL_refuses_475 : decode cL_refuses 475 = .ok (.iadd, 1) := by decide +kernel
theorem dL_refuses_476 : decode cL_refuses 476 = .ok (.iconst 0, 1) := by decide +kernel
theorem dL_refuses_477 : decode cL_refuses 477 = .ok (.iconst 0, 1) := by decide +kernel
theorem dL_refuses_478 : decode cL_refuses 478 = .ok (.invokestatic 189, 3) := by decide +kernel
theorem dL_refuses_481 : decode cL_refuses 481 = .ok (.ldc 28, 2) := by decide +kernel
theorem dL_refuses_483 : decode cL_refuses 483 = .ok (.if_icmp .ne 197, 3) := by decide +kernel
theorem dL_refuses_486 : decode cL_refuses 486 = .ok (.aload_n 0, 1) := by decide +kernel
theorem dL_refuses_487 : decode cL_refuses 487 = .ok (.bipush 16, 2) := by decide +kernel
theorem dL_refuses_489 : decode cL_refuses 489 = .ok (.iconst 0, 1) := by decide +kernel
theorem dL_refuses_490 : decode cL_refuses 490 = .ok (.bipush 100, 2) := by decide +kernel
theorem dL_refuses_492 : decode cL_refuses 492 = .ok (.iload_n 1, 1) := by decide +kernel
theorem dL_refuses_493 : decode cL_refuses 493 = .ok (.bipush 9, 2) := by decide +kernel
theorem dL_refuses_495 : decode cL_refuses 495 = .ok (.irem, 1) := by decide +kernel
theorem dL_refuses_496 : decode cL_refuses 496 = .ok (.iadd, 1) := by decide +kernel
theorem dL_refuses_497 : decode cL_refuses 497 = .ok (.iconst 0, 1) := by decide +kernel
theorem dL_refuses_498 : decode cL_refuses 498 = .ok (.invokestatic 189, 3) := by decide +kernel
theorem dL_refuses_501 : decode cL_refuses 501 = .ok (.ldc 28, 2) := by decide +kernel
theorem dL_refuses_503 : decode cL_refuses 503 = .ok (.if_icmp .ne 177, 3) := by decide +kernel
theorem dL_refuses_506 : decode cL_refuses 506 = .ok (.aload_n 0, 1) := by decide +kernel
theorem dL_refuses_507 : decode cL_refuses 507 = .ok (.bipush 16, 2) := by decide +kernel
theorem dL_refuses_509 : decode cL_refuses 509 = .ok (.iconst 1, 1) := by decide +kernel
theorem dL_refuses_510 : decode cL_refuses 510 = .ok (.iload_n 1, 1) := by decide +kernel
theorem dL_refuses_511 : decode cL_refuses 511 = .ok (.iconst 2, 1) := by decide +kernel
theorem dL_refuses_512 : decode cL_refuses 512 = .ok (.irem, 1) := by decide +kernel
theorem dL_refuses_513 : decode cL_refuses 513 = .ok (.iadd, 1) := by decide +kernel
theorem dL_refuses_514 : decode cL_refuses 514 = .ok (.sipush 1000, 3) := by decide +kernel
theorem dL_refuses_517 : decode cL_refuses 517 = .ok (.iload_n 1, 1) := by decide +kernel
theorem dL_refuses_518 : decode cL_refuses 518 = .ok (.bipush 9, 2) := by decide +kernel
theorem dL_refuses_520 : decode cL_refuses 520 = .ok (.irem, 1) := by decide +kernel
theorem dL_refuses_521 : decode cL_refuses 521 = .ok (.iadd, 1) := by decide +kernel
theorem dL_refuses_522 : decode cL_refuses 522 = .ok (.iconst 0, 1) := by decide +kernel
theorem dL_refuses_523 : decode cL_refuses 523 = .ok (.invokestatic 189, 3) := by decide +kernel
theorem dL_refuses_526 : decode cL_refuses 526 = .ok (.ldc 28, 2) := by decide +kernel
theorem dL_refuses_528 : decode cL_refuses 528 = .ok (.if_icmp .ne 152, 3) := by decide +kernel
theorem dL_refuses_531 : decode cL_refuses 531 = .ok (.aload_n 0, 1) := by decide +kernel
theorem dL_refuses_532 : decode cL_refuses 532 = .ok (.bipush 16, 2) := by decide +kernel
theorem dL_refuses_534 : decode cL_refuses 534 = .ok (.iconst 3, 1) := by decide +kernel
theorem dL_refuses_535 : decode cL_refuses 535 = .ok (.iconst 0, 1) := by decide +kernel
theorem dL_refuses_536 : decode cL_refuses 536 = .ok (.iconst 0, 1) := by decide +kernel
theorem dL_refuses_537 : decode cL_refuses 537 = .ok (.invokestatic 189, 3) := by decide +kernel
theorem dL_refuses_540 : decode cL_refuses 540 = .ok (.ldc 28, 2) := by decide +kernel
theorem dL_refuses_542 : decode cL_refuses 542 = .ok (.if_icmp .ne 138, 3) := by decide +kernel
theorem dL_refuses_545 : decode cL_refuses 545 = .ok (.aload_n 0, 1) := by decide +kernel
theorem dL_refuses_546 : decode cL_refuses 546 = .ok (.bipush 18, 2) := by decide +kernel
theorem dL_refuses_548 : decode cL_refuses 548 = .ok (.iconst 5, 1) := by decide +kernel
theorem dL_refuses_549 : decode cL_refuses 549 = .ok (.iconst 0, 1) := by decide +kernel
theorem dL_refuses_550 : decode cL_refuses 550 = .ok (.iconst 0, 1) := by decide +kernel
theorem dL_refuses_551 : decode cL_refuses 551 = .ok (.invokestatic 189, 3) := by decide +kernel
theorem dL_refuses_554 : decode cL_refuses 554 = .ok (.ldc 15, 2) := by decide +kernel
theorem dL_refuses_556 : decode cL_refuses 556 = .ok (.if_icmp .ne 124, 3) := by decide +kernel
theorem dL_refuses_559 : decode cL_refuses 559 = .ok (.aload_n 0, 1) := by decide +kernel
theorem dL_refuses_560 : decode cL_refuses 560 = .ok (.bipush 19, 2) := by decide +kernel
theorem dL_refuses_562 : decode cL_refuses 562 = .ok (.iconst 0, 1) := by decide +kernel
theorem dL_refuses_563 : decode cL_refuses 563 = .ok (.iconst 3, 1) := by decide +kernel
theorem dL_refuses_564 : decode cL_refuses 564 = .ok (.iconst 0, 1) := by decide +kernel
theorem dL_refuses_565 : decode cL_refuses 565 = .ok (.invokestatic 189, 3) := by decide +kernel
theorem dL_refuses_568 : decode cL_refuses 568 = .ok (.ldc 15, 2) := by decide +kernel
theorem dL_refuses_570 : decode cL_refuses 570 = .ok (.if_icmp .ne 110, 3) := by decide +kernel
theorem dL_refuses_573 : decode cL_refuses 573 = .ok (.aload_n 0, 1) := by decide +kernel
theorem dL_refuses_574 : decode cL_refuses 574 = .ok (.bipush 20, 2) := by decide +kernel
theorem dL_refuses_576 : decode cL_refuses 576 = .ok (.iconst 5, 1) := by decide +kernel
theorem dL_refuses_577 : decode cL_refuses 577 = .ok (.iconst 0, 1) := by decide +kernel
theorem dL_refuses_578 : decode cL_refuses 578 = .ok (.iconst 0, 1) := by decide +kernel
theorem dL_refuses_579 : decode cL_refuses 579 = .ok (.invokestatic 189, 3) := by decide +kernel
theorem dL_refuses_582 : decode cL_refuses 582 = .ok (.ldc 15, 2) := by decide +kernel
theorem dL_refuses_584 : decode cL_refuses 584 = .ok (.if_icmp .ne 96, 3) := by decide +kernel
theorem dL_refuses_587 : decode cL_refuses 587 = .ok (.aload_n 0, 1) := by decide +kernel
theorem dL_refuses_588 : decode cL_refuses 588 = .ok (.bipush 20, 2) := by decide +kernel
theorem dL_refuses_590 : decode cL_refuses 590 = .ok (.iload_n 1, 1) := by decide +kernel
theorem dL_refuses_591 : decode cL_refuses 591 = .ok (.iconst 5, 1) := by decide +kernel
theorem dL_refuses_592 : decode cL_refuses 592 = .ok (.irem, 1) := by decide +kernel
theorem dL_refuses_593 : decode cL_refuses 593 = .ok (.bipush 100, 2) := by decide +kernel
theorem dL_refuses_595 : decode cL_refuses 595 = .ok (.iload_n 1, 1) := by decide +kernel
theorem dL_refuses_596 : decode cL_refuses 596 = .ok (.bipush 9, 2) := by decide +kernel
theorem dL_refuses_598 : decode cL_refuses 598 = .ok (.irem, 1) := by decide +kernel
theorem dL_refuses_599 : decode cL_refuses 599 = .ok (.iadd, 1) := by decide +kernel
theorem dL_refuses_600 : decode cL_refuses 600 = .ok (.iconst 0, 1) := by decide +kernel
theorem dL_refuses_601 : decode cL_refuses 601 = .ok (.invokestatic 189, 3) := by decide +kernel
theorem dL_refuses_604 : decode cL_refuses 604 = .ok (.ldc 28, 2) := by decide +kernel
theorem dL_refuses_606 : decode cL_refuses 606 = .ok (.if_icmp .ne 74, 3) := by decide +kernel
theorem dL_refuses_609 : decode cL_refuses 609 = .ok (.aload_n 0, 1) := by decide +kernel
theorem dL_refuses_610 : decode cL_refuses 610 = .ok (.bipush 21, 2) := by decide +kernel
theorem dL_refuses_612 : decode cL_refuses 612 = .ok (.iconst 0, 1) := by decide +kernel
theorem dL_refuses_613 : decode cL_refuses 613 = .ok (.iconst (-1), 1) := by decide +kernel
theorem dL_refuses_614 : decode cL_refuses 614 = .ok (.iload_n 1, 1) := by decide +kernel
theorem dL_refuses_615 : decode cL_refuses 615 = .ok (.bipush 9, 2) := by decide +kernel
theorem dL_refuses_617 : decode cL_refuses 617 = .ok (.irem, 1) := by decide +kernel
theorem dL_refuses_618 : decode cL_refuses 618 = .ok (.isub, 1) := by decide +kernel
theorem dL_refuses_619 : decode cL_refuses 619 = .ok (.iconst 0, 1) := by decide +kernel
theorem dL_refuses_620 : decode cL_refuses 620 = .ok (.invokestatic 189, 3) := by decide +kernel
theorem dL_refuses_623 : decode cL_refuses 623 = .ok (.ldc 15, 2) := by decide +kernel
theorem dL_refuses_625 : decode cL_refuses 625 = .ok (.if_icmp .ne 55, 3) := by decide +kernel
theorem dL_refuses_628 : decode cL_refuses 628 = .ok (.aload_n 0, 1) := by decide +kernel
theorem dL_refuses_629 : decode cL_refuses 629 = .ok (.bipush 22, 2) := by decide +kernel
theorem dL_refuses_631 : decode cL_refuses 631 = .ok (.iconst 2, 1) := by decide +kernel
theorem dL_refuses_632 : decode cL_refuses 632 = .ok (.iconst 0, 1) := by decide +kernel
theorem dL_refuses_633 : decode cL_refuses 633 = .ok (.iconst 0, 1) := by decide +kernel
theorem dL_refuses_634 : decode cL_refuses 634 = .ok (.invokestatic 189, 3) := by decide +kernel
theorem dL_refuses_637 : decode cL_refuses 637 = .ok (.ldc 15, 2) := by decide +kernel
theorem dL_refuses_639 : decode cL_refuses 639 = .ok (.if_icmp .ne 41, 3) := by decide +kernel
theorem dL_refuses_642 : decode cL_refuses 642 = .ok (.aload_n 0, 1) := by decide +kernel
theorem dL_refuses_643 : decode cL_refuses 643 = .ok (.bipush 23, 2) := by decide +kernel
theorem dL_refuses_645 : decode cL_refuses 645 = .ok (.iconst (-1), 1) := by decide +kernel
theorem dL_refuses_646 : decode cL_refuses 646 = .ok (.iconst 0, 1) := by decide +kernel
theorem dL_refuses_647 : decode cL_refuses 647 = .ok (.iconst 0, 1) := by decide +kernel
theorem dL_refuses_648 : decode cL_refuses 648 = .ok (.invokestatic 189, 3) := by decide +kernel
theorem dL_refuses_651 : decode cL_refuses 651 = .ok (.ldc 15, 2) := by decide +kernel
theorem dL_refuses_653 : decode cL_refuses 653 = .ok (.if_icmp .ne 27, 3) := by decide +kernel
theorem dL_refuses_656 : decode cL_refuses 656 = .ok (.aload_n 0, 1) := by decide +kernel
theorem dL_refuses_657 : decode cL_refuses 657 = .ok (.iconst 0, 1) := by decide +kernel
theorem dL_refuses_658 : decode cL_refuses 658 = .ok (.sipush 256, 3) := by decide +kernel
theorem dL_refuses_661 : decode cL_refuses 661 = .ok (.iload_n 1, 1) := by decide +kernel
theorem dL_refuses_662 : decode cL_refuses 662 = .ok (.bipush 9, 2) := by decide +kernel
theorem dL_refuses_664 : decode cL_refuses 664 = .ok (.irem, 1) := by decide +kernel
theorem dL_refuses_665 : decode cL_refuses 665 = .ok (.iadd, 1) := by decide +kernel
theorem dL_refuses_666 : decode cL_refuses 666 = .ok (.iconst 0, 1) := by decide +kernel
theorem dL_refuses_667 : decode cL_refuses 667 = .ok (.iconst 0, 1) := by decide +kernel
theorem dL_refuses_668 : decode cL_refuses 668 = .ok (.invokestatic 189, 3) := by decide +kernel
theorem dL_refuses_671 : decode cL_refuses 671 = .ok (.ldc 28, 2) := by decide +kernel
theorem dL_refuses_673 : decode cL_refuses 673 = .ok (.if_icmp .ne 7, 3) := by decide +kernel
theorem dL_refuses_676 : decode cL_refuses 676 = .ok (.iconst 1, 1) := by decide +kernel
theorem dL_refuses_677 : decode cL_refuses 677 = .ok (.goto 4, 3) := by decide +kernel
theorem dL_refuses_680 : decode cL_refuses 680 = .ok (.iconst 0, 1) := by decide +kernel
theorem dL_refuses_681 : decode cL_refuses 681 = .ok (.istore_n 3, 1) := by decide +kernel
theorem dL_refuses_682 : decode cL_refuses 682 = .ok (.iload_n 2, 1) := by decide +kernel
theorem dL_refuses_683 : decode cL_refuses 683 = .ok (.ifCond .le 320, 3) := by decide +kernel
theorem dL_refuses_686 : decode cL_refuses 686 = .ok (.iload_n 1, 1) := by decide +kernel
theorem dL_refuses_687 : decode cL_refuses 687 = .ok (.iload_n 2, 1) := by decide +kernel
theorem dL_refuses_688 : decode cL_refuses 688 = .ok (.irem, 1) := by decide +kernel
theorem dL_refuses_689 : decode cL_refuses 689 = .ok (.istore 4, 2) := by decide +kernel
theorem dL_refuses_691 : decode cL_refuses 691 = .ok (.aload_n 0, 1) := by decide +kernel
theorem dL_refuses_692 : decode cL_refuses 692 = .ok (.iconst 3, 1) := by decide +kernel
theorem dL_refuses_693 : decode cL_refuses 693 = .ok (.iload 4, 2) := by decide +kernel
theorem dL_refuses_695 : decode cL_refuses 695 = .ok (.iconst 1, 1) := by decide +kernel
theorem dL_refuses_696 : decode cL_refuses 696 = .ok (.iconst 0, 1) := by decide +kernel
theorem dL_refuses_697 : decode cL_refuses 697 = .ok (.invokestatic 189, 3) := by decide +kernel
theorem dL_refuses_700 : decode cL_refuses 700 = .ok (.istore 5, 2) := by decide +kernel
theorem dL_refuses_702 : decode cL_refuses 702 = .ok (.aload_n 0, 1) := by decide +kernel
theorem dL_refuses_703 : decode cL_refuses 703 = .ok (.iconst 3, 1) := by decide +kernel
theorem dL_refuses_704 : decode cL_refuses 704 = .ok (.iload 4, 2) := by decide +kernel
theorem dL_refuses_706 : decode cL_refuses 706 = .ok (.iconst 3, 1) := by decide +kernel
theorem dL_refuses_707 : decode cL_refuses 707 = .ok (.iconst 0, 1) := by decide +kernel
theorem dL_refuses_708 : decode cL_refuses 708 = .ok (.invokestatic 189, 3) := by decide +kernel
theorem dL_refuses_711 : decode cL_refuses 711 = .ok (.istore 6, 2) := by decide +kernel
theorem dL_refuses_713 : decode cL_refuses 713 = .ok (.iload 5, 2) := by decide +kernel
theorem dL_refuses_715 : decode cL_refuses 715 = .ok (.aload_n 0, 1) := by decide +kernel
theorem dL_refuses_716 : decode cL_refuses 716 = .ok (.iconst 3, 1) := by decide +kernel
theorem dL_refuses_717 : decode cL_refuses 717 = .ok (.iload 4, 2) := by decide +kernel
theorem dL_refuses_719 : decode cL_refuses 719 = .ok (.iconst 2, 1) := by decide +kernel
theorem dL_refuses_720 : decode cL_refuses 720 = .ok (.iconst 0, 1) := by decide +kernel
theorem dL_refuses_721 : decode cL_refuses 721 = .ok (.invokestatic 189, 3) := by decide +kernel
theorem dL_refuses_724 : decode cL_refuses 724 = .ok (.if_icmp .ne 7, 3) := by decide +kernel
theorem dL_refuses_727 : decode cL_refuses 727 = .ok (.iconst 1, 1) := by decide +kernel
theorem dL_refuses_728 : decode cL_refuses 728 = .ok (.goto 4, 3) := by decide +kernel
theorem dL_refuses_731 : decode cL_refuses 731 = .ok (.iconst 0, 1) := by decide +kernel
theorem dL_refuses_732 : decode cL_refuses 732 = .ok (.istore 7, 2) := by decide +kernel
theorem dL_refuses_734 : decode cL_refuses 734 = .ok (.iload_n 3, 1) := by decide +kernel
theorem dL_refuses_735 : decode cL_refuses 735 = .ok (.ifCond .eq 266, 3) := by decide +kernel
theorem dL_refuses_738 : decode cL_refuses 738 = .ok (.aload_n 0, 1) := by decide +kernel
theorem dL_refuses_739 : decode cL_refuses 739 = .ok (.iconst 3, 1) := by decide +kernel
theorem dL_refuses_740 : decode cL_refuses 740 = .ok (.iload 4, 2) := by decide +kernel
theorem dL_refuses_742 : decode cL_refuses 742 = .ok (.bipush 6, 2) := by decide +kernel
theorem dL_refuses_744 : decode cL_refuses 744 = .ok (.iload_n 1, 1) := by decide +kernel
theorem dL_refuses_745 : decode cL_refuses 745 = .ok (.bipush 9, 2) := by decide +kernel
theorem dL_refuses_747 : decode cL_refuses 747 = .ok (.irem, 1) := by decide +kernel
theorem dL_refuses_748 : decode cL_refuses 748 = .ok (.iadd, 1) := by decide +kernel
theorem dL_refuses_749 : decode cL_refuses 749 = .ok (.iconst 0, 1) := by decide +kernel
theorem dL_refuses_750 : decode cL_refuses 750 = .ok (.invokestatic 189, 3) := by decide +kernel
theorem dL_refuses_753 : decode cL_refuses 753 = .ok (.ldc 28, 2) := by decide +kernel
theorem dL_refuses_755 : decode cL_refuses 755 = .ok (.if_icmp .ne 246, 3) := by decide +kernel
theorem dL_refuses_758 : decode cL_refuses 758 = .ok (.aload_n 0, 1) := by decide +kernel
theorem dL_refuses_759 : decode cL_refuses 759 = .ok (.bipush 8, 2) := by decide +kernel
theorem dL_refuses_761 : decode cL_refuses 761 = .ok (.iload 4, 2) := by decide +kernel
theorem dL_refuses_763 : decode cL_refuses 763 = .ok (.iconst 5, 1) := by decide +kernel
theorem dL_refuses_764 : decode cL_refuses 764 = .ok (.iconst 0, 1) := by decide +kernel
theorem dL_refuses_765 : decode cL_refuses 765 = .ok (.invokestatic 189, 3) := by decide +kernel
theorem dL_refuses_768 : decode cL_refuses 768 = .ok (.ldc 15, 2) := by decide +kernel
theorem dL_refuses_770 : decode cL_refuses 770 = .ok (.if_icmp .ne 231, 3) := by decide +kernel
theorem dL_refuses_773 : decode cL_refuses 773 = .ok (.aload_n 0, 1) := by decide +kernel
theorem dL_refuses_774 : decode cL_refuses 774 = .ok (.bipush 8, 2) := by decide +kernel
theorem dL_refuses_776 : decode cL_refuses 776 = .ok (.iload 4, 2) := by decide +kernel
theorem dL_refuses_778 : decode cL_refuses 778 = .ok (.iload_n 1, 1) := by decide +kernel
theorem dL_refuses_779 : decode cL_refuses 779 = .ok (.iconst 5, 1) := by decide +kernel
theorem dL_refuses_780 : decode cL_refuses 780 = .ok (.irem, 1) := by decide +kernel
theorem dL_refuses_781 : decode cL_refuses 781 = .ok (.bipush 31, 2) := by decide +kernel
theorem dL_refuses_783 : decode cL_refuses 783 = .ok (.iload_n 1, 1) := by decide +kernel
theorem dL_refuses_784 : decode cL_refuses 784 = .ok (.bipush 9, 2) := by decide +kernel
theorem dL_refuses_786 : decode cL_refuses 786 = .ok (.irem, 1) := by decide +kernel
theorem dL_refuses_787 : decode cL_refuses 787 = .ok (.iadd, 1) := by decide +kernel
theorem dL_refuses_788 : decode cL_refuses 788 = .ok (.invokestatic 189, 3) := by decide +kernel
theorem dL_refuses_791 : decode cL_refuses 791 = .ok (.ldc 28, 2) := by decide +kernel
theorem dL_refuses_793 : decode cL_refuses 793 = .ok (.if_icmp .ne 208, 3) := by decide +kernel
theorem dL_refuses_796 : decode cL_refuses 796 = .ok (.aload_n 0, 1) := by decide +kernel
theorem dL_refuses_797 : decode cL_refuses 797 = .ok (.bipush 8, 2) := by decide +kernel
theorem dL_refuses_799 : decode cL_refuses 799 = .ok (.iload 4, 2) := by decide +kernel
theorem dL_refuses_801 : decode cL_refuses 801 = .ok (.iload 5, 2) := by decide +kernel
theorem dL_refuses_803 : decode cL_refuses 803 = .ok (.iconst 5, 1) := by decide +kernel
theorem dL_refuses_804 : decode cL_refuses 804 = .ok (.invokestatic 189, 3) := by decide +kernel
theorem dL_refuses_807 : decode cL_refuses 807 = .ok (.ldc 21, 2) := by decide +kernel
theorem dL_refuses_809 : decode cL_refuses 809 = .ok (.if_icmp .ne 192, 3) := by decide +kernel
theorem dL_refuses_812 : decode cL_refuses 812 = .ok (.iload 7, 2) := by decide +kernel
theorem dL_refuses_814 : decode cL_refuses 814 = .ok (.ifCond .eq 21, 3) := by decide +kernel
theorem dL_refuses_817 : decode cL_refuses 817 = .ok (.aload_n 0, 1) := by decide +kernel
theorem dL_refuses_818 : decode cL_refuses 818 = .ok (.bipush 9, 2) := by decide +kernel
theorem dL_refuses_820 : decode cL_refuses 820 = .ok (.iload 4, 2) := by decide +kernel
theorem dL_refuses_822 : decode cL_refuses 822 = .ok (.iconst 0, 1) := by decide +kernel
theorem dL_refuses_823 : decode cL_refuses 823 = .ok (.iconst 0, 1) := by decide +kernel
theorem dL_refuses_824 : decode cL_refuses 824 = .ok (.invokestatic 189, 3) := by decide +kernel
theorem dL_refuses_827 : decode cL_refuses 827 = .ok (.ldc 21, 2) := by decide +kernel
theorem dL_refuses_829 : decode cL_refuses 829 = .ok (.if_icmp .ne 172, 3) := by decide +kernel
theorem dL_refuses_832 : decode cL_refuses 832 = .ok (.goto 35, 3) := by decide +kernel
theorem dL_refuses_835 : decode cL_refuses 835 = .ok (.aload_n 0, 1) := by decide +kernel
theorem dL_refuses_836 : decode cL_refuses 836 = .ok (.bipush 8, 2) := by decide +kernel
theorem dL_refuses_838 : decode cL_refuses 838 = .ok (.iload 4, 2) := by decide +kernel
theorem dL_refuses_840 : decode cL_refuses 840 = .ok (.iload_n 1, 1) := by decide +kernel
theorem dL_refuses_841 : decode cL_refuses 841 = .ok (.iconst 5, 1) := by decide +kernel
theorem dL_refuses_842 : decode cL_refuses 842 = .ok (.irem, 1) := by decide +kernel
theorem dL_refuses_843 : decode cL_refuses 843 = .ok (.iconst 5, 1) := by decide +kernel
theorem dL_refuses_844 : decode cL_refuses 844 = .ok (.invokestatic 189, 3) := by decide +kernel
theorem dL_refuses_847 : decode cL_refuses 847 = .ok (.ldc 21, 2) := by decide +kernel
theorem dL_refuses_849 : decode cL_refuses 849 = .ok (.if_icmp .ne 152, 3) := by decide +kernel
theorem dL_refuses_852 : decode cL_refuses 852 = .ok (.aload_n 0, 1) := by decide +kernel
theorem dL_refuses_853 : decode cL_refuses 853 = .ok (.bipush 12, 2) := by decide +kernel
theorem dL_refuses_855 : decode cL_refuses 855 = .ok (.iload 4, 2) := by decide +kernel
theorem dL_refuses_857 : decode cL_refuses 857 = .ok (.iconst 0, 1) := by decide +kernel
theorem dL_refuses_858 : decode cL_refuses 858 = .ok (.iconst 0, 1) := by decide +kernel
theorem dL_refuses_859 : decode cL_refuses 859 = .ok (.invokestatic 189, 3) := by decide +kernel
theorem dL_refuses_862 : decode cL_refuses 862 = .ok (.ldc 21, 2) := by decide +kernel
theorem dL_refuses_864 : decode cL_refuses 864 = .ok (.if_icmp .ne 137, 3) := by decide +kernel
theorem dL_refuses_867 : decode cL_refuses 867 = .ok (.aload_n 0, 1) := by decide +kernel
theorem dL_refuses_868 : decode cL_refuses 868 = .ok (.bipush 10, 2) := by decide +kernel
theorem dL_refuses_870 : decode cL_refuses 870 = .ok (.iload 4, 2) := by decide +kernel
theorem dL_refuses_872 : decode cL_refuses 872 = .ok (.iload 4, 2) := by decide +kernel
theorem dL_refuses_874 : decode cL_refuses 874 = .ok (.iconst 0, 1) := by decide +kernel
theorem dL_refuses_875 : decode cL_refuses 875 = .ok (.invokestatic 189, 3) := by decide +kernel
theorem dL_refuses_878 : decode cL_refuses 878 = .ok (.ldc 21, 2) := by decide +kernel
theorem dL_refuses_880 : decode cL_refuses 880 = .ok (.if_icmp .ne 121, 3) := by decide +kernel
theorem dL_refuses_883 : decode cL_refuses 883 = .ok (.aload_n 0, 1) := by decide +kernel
theorem dL_refuses_884 : decode cL_refuses 884 = .ok (.bipush 11, 2) := by decide +kernel
theorem dL_refuses_886 : decode cL_refuses 886 = .ok (.iconst 4, 1) := by decide +kernel
theorem dL_refuses_887 : decode cL_refuses 887 = .ok (.iload 4, 2) := by decide +kernel
theorem dL_refuses_889 : decode cL_refuses 889 = .ok (.iconst 5, 1) := by decide +kernel
theorem dL_refuses_890 : decode cL_refuses 890 = .ok (.invokestatic 189, 3) := by decide +kernel
theorem dL_refuses_893 : decode cL_refuses 893 = .ok (.ldc 21, 2) := by decide +kernel
theorem dL_refuses_895 : decode cL_refuses 895 = .ok (.if_icmp .ne 106, 3) := by decide +kernel
theorem dL_refuses_898 : decode cL_refuses 898 = .ok (.aload_n 0, 1) := by decide +kernel
theorem dL_refuses_899 : decode cL_refuses 899 = .ok (.bipush 11, 2) := by decide +kernel
theorem dL_refuses_901 : decode cL_refuses 901 = .ok (.iload_n 1, 1) := by decide +kernel
theorem dL_refuses_902 : decode cL_refuses 902 = .ok (.iconst 5, 1) := by decide +kernel
theorem dL_refuses_903 : decode cL_refuses 903 = .ok (.irem, 1) := by decide +kernel
theorem dL_refuses_904 : decode cL_refuses 904 = .ok (.iload 4, 2) := by decide +kernel
theorem dL_refuses_906 : decode cL_refuses 906 = .ok (.iconst 0, 1) := by decide +kernel
theorem dL_refuses_907 : decode cL_refuses 907 = .ok (.invokestatic 189, 3) := by decide +kernel
theorem dL_refuses_910 : decode cL_refuses 910 = .ok (.ldc 28, 2) := by decide +kernel
theorem dL_refuses_912 : decode cL_refuses 912 = .ok (.if_icmp .ne 89, 3) := by decide +kernel
theorem dL_refuses_915 : decode cL_refuses 915 = .ok (.aload_n 0, 1) := by decide +kernel
theorem dL_refuses_916 : decode cL_refuses 916 = .ok (.bipush 13, 2) := by decide +kernel
theorem dL_refuses_918 : decode cL_refuses 918 = .ok (.iload 4, 2) := by decide +kernel
theorem dL_refuses_920 : decode cL_refuses 920 = .ok (.iload 4, 2) := by decide +kernel
theorem dL_refuses_922 : decode cL_refuses 922 = .ok (.iload_n 1, 1) := by decide +kernel
theorem dL_refuses_923 : decode cL_refuses 923 = .ok (.iconst 3, 1) := by decide +kernel
theorem dL_refuses_924 : decode cL_refuses 924 = .ok (.irem, 1) := by decide +kernel
theorem dL_refuses_925 : decode cL_refuses 925 = .ok (.invokestatic 189, 3) := by decide +kernel
theorem dL_refuses_928 : decode cL_refuses 928 = .ok (.ldc 21, 2) := by decide +kernel
theorem dL_refuses_930 : decode cL_refuses 930 = .ok (.if_icmp .ne 71, 3) := by decide +kernel
theorem dL_refuses_933 : decode cL_refuses 933 = .ok (.aload_n 0, 1) := by decide +kernel
theorem dL_refuses_934 : decode cL_refuses 934 = .ok (.bipush 13, 2) := by decide +kernel
theorem dL_refuses_936 : decode cL_refuses 936 = .ok (.iload 4, 2) := by decide +kernel
theorem dL_refuses_938 : decode cL_refuses 938 = .ok (.iload 4, 2) := by decide +kernel
theorem dL_refuses_940 : decode cL_refuses 940 = .ok (.iconst 3, 1) := by decide +kernel
theorem dL_refuses_941 : decode cL_refuses 941 = .ok (.iload_n 1, 1) := by decide +kernel
theorem dL_refuses_942 : decode cL_refuses 942 = .ok (.bipush 9, 2) := by decide +kernel
theorem dL_refuses_944 : decode cL_refuses 944 = .ok (.irem, 1) := by decide +kernel
theorem dL_refuses_945 : decode cL_refuses 945 = .ok (.iadd, 1) := by decide +kernel
theorem dL_refuses_946 : decode cL_refuses 946 = .ok (.invokestatic 189, 3) := by decide +kernel
theorem dL_refuses_949 : decode cL_refuses 949 = .ok (.ldc 15, 2) := by decide +kernel
theorem dL_refuses_951 : decode cL_refuses 951 = .ok (.if_icmp .ne 50, 3) := by decide +kernel
theorem dL_refuses_954 : decode cL_refuses 954 = .ok (.aload_n 0, 1) := by decide +kernel
theorem dL_refuses_955 : decode cL_refuses 955 = .ok (.bipush 14, 2) := by decide +kernel
theorem dL_refuses_957 : decode cL_refuses 957 = .ok (.iload 4, 2) := by decide +kernel
theorem dL_refuses_959 : decode cL_refuses 959 = .ok (.iconst 3, 1) := by decide +kernel
theorem dL_refuses_960 : decode cL_refuses 960 = .ok (.iconst 0, 1) := by decide +kernel
theorem dL_refuses_961 : decode cL_refuses 961 = .ok (.invokestatic 189, 3) := by decide +kernel
theorem dL_refuses_964 : decode cL_refuses 964 = .ok (.ldc 15, 2) := by decide +kernel
theorem dL_refuses_966 : decode cL_refuses 966 = .ok (.if_icmp .ne 35, 3) := by decide +kernel
theorem dL_refuses_969 : decode cL_refuses 969 = .ok (.iload 6, 2) := by decide +kernel
theorem dL_refuses_971 : decode cL_refuses 971 = .ok (.iload_n 1, 1) := by decide +kernel
theorem dL_refuses_972 : decode cL_refuses 972 = .ok (.iconst 3, 1) := by decide +kernel
theorem dL_refuses_973 : decode cL_refuses 973 = .ok (.irem, 1) := by decide +kernel
theorem dL_refuses_974 : decode cL_refuses 974 = .ok (.ishr, 1) := by decide +kernel
theorem dL_refuses_975 : decode cL_refuses 975 = .ok (.iconst 1, 1) := by decide +kernel
theorem dL_refuses_976 : decode cL_refuses 976 = .ok (.iand, 1) := by decide +kernel
theorem dL_refuses_977 : decode cL_refuses 977 = .ok (.ifCond .eq 20, 3) := by decide +kernel
theorem dL_refuses_980 : decode cL_refuses 980 = .ok (.aload_n 0, 1) := by decide +kernel
theorem dL_refuses_981 : decode cL_refuses 981 = .ok (.bipush 14, 2) := by decide +kernel
theorem dL_refuses_983 : decode cL_refuses 983 = .ok (.iload 4, 2) := by decide +kernel
theorem dL_refuses_985 : decode cL_refuses 985 = .ok (.iload_n 1, 1) := by decide +kernel
theorem dL_refuses_986 : decode cL_refuses 986 = .ok (.iconst 3, 1) := by decide +kernel
theorem dL_refuses_987 : decode cL_refuses 987 = .ok (.irem, 1) := by decide +kernel
theorem dL_refuses_988 : decode cL_refuses 988 = .ok (.iconst 0, 1) := by decide +kernel
theorem dL_refuses_989 : decode cL_refuses 989 = .ok (.invokestatic 189, 3) := by decide +kernel
theorem dL_refuses_992 : decode cL_refuses 992 = .ok (.ldc 21, 2) := by decide +kernel
theorem dL_refuses_994 : decode cL_refuses 994 = .ok (.if_icmp .ne 7, 3) := by decide +kernel
theorem dL_refuses_997 : decode cL_refuses 997 = .ok (.iconst 1, 1) := by decide +kernel
theorem dL_refuses_998 : decode cL_refuses 998 = .ok (.goto 4, 3) := by decide +kernel
theorem dL_refuses_1001 : decode cL_refuses 1001 = .ok (.iconst 0, 1) := by decide +kernel
theorem dL_refuses_1002 : decode cL_refuses 1002 = .ok (.istore_n 3, 1) := by decide +kernel
theorem dL_refuses_1003 : decode cL_refuses 1003 = .ok (.iload_n 3, 1) := by decide +kernel
theorem dL_refuses_1004 : decode cL_refuses 1004 = .ok (.ifCond .eq 84, 3) := by decide +kernel
theorem dL_refuses_1007 : decode cL_refuses 1007 = .ok (.aload_n 0, 1) := by decide +kernel
theorem dL_refuses_1008 : decode cL_refuses 1008 = .ok (.iconst 4, 1) := by decide +kernel
theorem dL_refuses_1009 : decode cL_refuses 1009 = .ok (.lconst 0, 1) := by decide +kernel
theorem dL_refuses_1010 : decode cL_refuses 1010 = .ok (.invokestatic 199, 3) := by decide +kernel
theorem dL_refuses_1013 : decode cL_refuses 1013 = .ok (.ldc 28, 2) := by decide +kernel
theorem dL_refuses_1015 : decode cL_refuses 1015 = .ok (.if_icmp .ne 73, 3) := by decide +kernel
theorem dL_refuses_1018 : decode cL_refuses 1018 = .ok (.aload_n 0, 1) := by decide +kernel
theorem dL_refuses_1019 : decode cL_refuses 1019 = .ok (.iconst 1, 1) := by decide +kernel
theorem dL_refuses_1020 : decode cL_refuses 1020 = .ok (.ldc2_w 203, 3) := by decide +kernel
theorem dL_refuses_1023 : decode cL_refuses 1023 = .ok (.iload_n 1, 1) := by decide +kernel
theorem dL_refuses_1024 : decode cL_refuses 1024 = .ok (.i2l, 1) := by decide +kernel
theorem dL_refuses_1025 : decode cL_refuses 1025 = .ok (.ladd, 1) := by decide +kernel
theorem dL_refuses_1026 : decode cL_refuses 1026 = .ok (.invokestatic 199, 3) := by decide +kernel
theorem dL_refuses_1029 : decode cL_refuses 1029 = .ok (.ldc 28, 2) := by decide +kernel
theorem dL_refuses_1031 : decode cL_refuses 1031 = .ok (.if_icmp .ne 57, 3) := by decide +kernel
theorem dL_refuses_1034 : decode cL_refuses 1034 = .ok (.aload_n 0, 1) := by decide +kernel
theorem dL_refuses_1035 : decode cL_refuses 1035 = .ok (.iconst 2, 1) := by decide +kernel
theorem dL_refuses_1036 : decode cL_refuses 1036 = .ok (.ldc2_w 205, 3) := by decide +kernel
theorem dL_refuses_1039 : decode cL_refuses 1039 = .ok (.iload_n 1, 1) := by decide +kernel
theorem dL_refuses_1040 : decode cL_refuses 1040 = .ok (.i2l, 1) := by decide +kernel
theorem dL_refuses_1041 : decode cL_refuses 1041 = .ok (.lsub, 1) := by decide +kernel
theorem dL_refuses_1042 : decode cL_refuses 1042 = .ok (.invokestatic 199, 3) := by decide +kernel
theorem dL_refuses_1045 : decode cL_refuses 1045 = .ok (.ldc 28, 2) := by decide +kernel
theorem dL_refuses_1047 : decode cL_refuses 1047 = .ok (.if_icmp .ne 41, 3) := by decide +kernel
theorem dL_refuses_1050 : decode cL_refuses 1050 = .ok (.aload_n 0, 1) := by decide +kernel
theorem dL_refuses_1051 : decode cL_refuses 1051 = .ok (.iload_n 1, 1) := by decide +kernel
theorem dL_refuses_1052 : decode cL_refuses 1052 = .ok (.i2l, 1) := by decide +kernel
theorem dL_refuses_1053 : decode cL_refuses 1053 = .ok (.bipush 100, 2) := by decide +kernel
theorem dL_refuses_1055 : decode cL_refuses 1055 = .ok (.invokestatic 207, 3) := by decide +kernel
theorem dL_refuses_1058 : decode cL_refuses 1058 = .ok (.ldc 28, 2) := by decide +kernel
theorem dL_refuses_1060 : decode cL_refuses 1060 = .ok (.if_icmp .ne 28, 3) := by decide +kernel
theorem dL_refuses_1063 : decode cL_refuses 1063 = .ok (.aload_n 0, 1) := by decide +kernel
theorem dL_refuses_1064 : decode cL_refuses 1064 = .ok (.invokevirtual 211, 3) := by decide +kernel
theorem dL_refuses_1067 : decode cL_refuses 1067 = .ok (.iconst (-1), 1) := by decide +kernel
theorem dL_refuses_1068 : decode cL_refuses 1068 = .ok (.if_icmp .eq 16, 3) := by decide +kernel
theorem dL_refuses_1071 : decode cL_refuses 1071 = .ok (.aload_n 0, 1) := by decide +kernel
theorem dL_refuses_1072 : decode cL_refuses 1072 = .ok (.iconst 1, 1) := by decide +kernel
theorem dL_refuses_1073 : decode cL_refuses 1073 = .ok (.iconst 0, 1) := by decide +kernel
theorem dL_refuses_1074 : decode cL_refuses 1074 = .ok (.iconst 0, 1) := by decide +kernel
theorem dL_refuses_1075 : decode cL_refuses 1075 = .ok (.iconst 0, 1) := by decide +kernel
theorem dL_refuses_1076 : decode cL_refuses 1076 = .ok (.invokestatic 189, 3) := by decide +kernel
theorem dL_refuses_1079 : decode cL_refuses 1079 = .ok (.ldc 21, 2) := by decide +kernel
theorem dL_refuses_1081 : decode cL_refuses 1081 = .ok (.if_icmp .ne 7, 3) := by decide +kernel
theorem dL_refuses_1084 : decode cL_refuses 1084 = .ok (.iconst 1, 1) := by decide +kernel
theorem dL_refuses_1085 : decode cL_refuses 1085 = .ok (.goto 4, 3) := by decide +kernel
theorem dL_refuses_1088 : decode cL_refuses 1088 = .ok (.iconst 0, 1) := by decide +kernel
theorem dL_refuses_1089 : decode cL_refuses 1089 = .ok (.ireturn, 1) := by decide +kernel
