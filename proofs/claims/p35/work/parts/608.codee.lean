/-! decode rows of the law -/
theorem dL_alike_0 : decode cL_alike 0 = .ok (.aload_n 0, 1) := by decide +kernel
theorem dL_alike_1 : decode cL_alike 1 = .ok (.invokevirtual 211, 3) := by decide +kernel
theorem dL_alike_4 : decode cL_alike 4 = .ok (.aload_n 1, 1) := by decide +kernel
theorem dL_alike_5 : decode cL_alike 5 = .ok (.invokevirtual 211, 3) := by decide +kernel
theorem dL_alike_8 : decode cL_alike 8 = .ok (.if_icmp .ne 29, 3) := by decide +kernel
theorem dL_alike_11 : decode cL_alike 11 = .ok (.aload_n 0, 1) := by decide +kernel
theorem dL_alike_12 : decode cL_alike 12 = .ok (.invokevirtual 214, 3) := by decide +kernel
theorem dL_alike_15 : decode cL_alike 15 = .ok (.aload_n 1, 1) := by decide +kernel
theorem dL_alike_16 : decode cL_alike 16 = .ok (.invokevirtual 214, 3) := by decide +kernel
theorem dL_alike_19 : decode cL_alike 19 = .ok (.if_icmp .ne 18, 3) := by decide +kernel
theorem dL_alike_22 : decode cL_alike 22 = .ok (.aload_n 0, 1) := by decide +kernel
theorem dL_alike_23 : decode cL_alike 23 = .ok (.invokevirtual 217, 3) := by decide +kernel
theorem dL_alike_26 : decode cL_alike 26 = .ok (.aload_n 1, 1) := by decide +kernel
theorem dL_alike_27 : decode cL_alike 27 = .ok (.invokevirtual 217, 3) := by decide +kernel
theorem dL_alike_30 : decode cL_alike 30 = .ok (.if_icmp .ne 7, 3) := by decide +kernel
theorem dL_alike_33 : decode cL_alike 33 = .ok (.iconst 1, 1) := by decide +kernel
theorem dL_alike_34 : decode cL_alike 34 = .ok (.goto 4, 3) := by decide +kernel
theorem dL_alike_37 : decode cL_alike 37 = .ok (.iconst 0, 1) := by decide +kernel
theorem dL_alike_38 : decode cL_alike 38 = .ok (.istore_n 3, 1) := by decide +kernel
theorem dL_alike_39 : decode cL_alike 39 = .ok (.iconst 0, 1) := by decide +kernel
theorem dL_alike_40 : decode cL_alike 40 = .ok (.istore 4, 2) := by decide +kernel
theorem dL_alike_42 : decode cL_alike 42 = .ok (.iload 4, 2) := by decide +kernel
theorem dL_alike_44 : decode cL_alike 44 = .ok (.bipush 10, 2) := by decide +kernel
theorem dL_alike_46 : decode cL_alike 46 = .ok (.if_icmp .ge 63, 3) := by decide +kernel
theorem dL_alike_49 : decode cL_alike 49 = .ok (.iload_n 3, 1) := by decide +kernel
theorem dL_alike_50 : decode cL_alike 50 = .ok (.ifCond .eq 59, 3) := by decide +kernel
theorem dL_alike_53 : decode cL_alike 53 = .ok (.aload_n 0, 1) := by decide +kernel
theorem dL_alike_54 : decode cL_alike 54 = .ok (.iconst 2, 1) := by decide +kernel
theorem dL_alike_55 : decode cL_alike 55 = .ok (.iload 4, 2) := by decide +kernel
theorem dL_alike_57 : decode cL_alike 57 = .ok (.iconst 0, 1) := by decide +kernel
theorem dL_alike_58 : decode cL_alike 58 = .ok (.iconst 0, 1) := by decide +kernel
theorem dL_alike_59 : decode cL_alike 59 = .ok (.invokestatic 189, 3) := by decide +kernel
theorem dL_alike_62 : decode cL_alike 62 = .ok (.aload_n 1, 1) := by decide +kernel
theorem dL_alike_63 : decode cL_alike 63 = .ok (.iconst 2, 1) := by decide +kernel
theorem dL_alike_64 : decode cL_alike 64 = .ok (.iload 4, 2) := by decide +kernel
theorem dL_alike_66 : decode cL_alike 66 = .ok (.iconst 0, 1) := by decide +kernel
theorem dL_alike_67 : decode cL_alike 67 = .ok (.iconst 0, 1) := by decide +kernel
theorem dL_alike_68 : decode cL_alike 68 = .ok (.invokestatic 189, 3) := by decide +kernel
theorem dL_alike_71 : decode cL_alike 71 = .ok (.if_icmp .ne 30, 3) := by decide +kernel
theorem dL_alike_74 : decode cL_alike 74 = .ok (.aload_n 0, 1) := by decide +kernel
theorem dL_alike_75 : decode cL_alike 75 = .ok (.bipush 6, 2) := by decide +kernel
theorem dL_alike_77 : decode cL_alike 77 = .ok (.iload 4, 2) := by decide +kernel
theorem dL_alike_79 : decode cL_alike 79 = .ok (.iconst 0, 1) := by decide +kernel
theorem dL_alike_80 : decode cL_alike 80 = .ok (.iconst 0, 1) := by decide +kernel
theorem dL_alike_81 : decode cL_alike 81 = .ok (.invokestatic 189, 3) := by decide +kernel
theorem dL_alike_84 : decode cL_alike 84 = .ok (.aload_n 1, 1) := by decide +kernel
theorem dL_alike_85 : decode cL_alike 85 = .ok (.bipush 6, 2) := by decide +kernel
theorem dL_alike_87 : decode cL_alike 87 = .ok (.iload 4, 2) := by decide +kernel
theorem dL_alike_89 : decode cL_alike 89 = .ok (.iconst 0, 1) := by decide +kernel
theorem dL_alike_90 : decode cL_alike 90 = .ok (.iconst 0, 1) := by decide +kernel
theorem dL_alike_91 : decode cL_alike 91 = .ok (.invokestatic 189, 3) := by decide +kernel
theorem dL_alike_94 : decode cL_alike 94 = .ok (.if_icmp .ne 7, 3) := by decide +kernel
theorem dL_alike_97 : decode cL_alike 97 = .ok (.iconst 1, 1) := by decide +kernel
theorem dL_alike_98 : decode cL_alike 98 = .ok (.goto 4, 3) := by decide +kernel
theorem dL_alike_101 : decode cL_alike 101 = .ok (.iconst 0, 1) := by decide +kernel
theorem dL_alike_102 : decode cL_alike 102 = .ok (.istore_n 3, 1) := by decide +kernel
theorem dL_alike_103 : decode cL_alike 103 = .ok (.iinc 4 1, 3) := by decide +kernel
theorem dL_alike_106 : decode cL_alike 106 = .ok (.goto (-64), 3) := by decide +kernel
theorem dL_alike_109 : decode cL_alike 109 = .ok (.aload_n 0, 1) := by decide +kernel
theorem dL_alike_110 : decode cL_alike 110 = .ok (.iconst 2, 1) := by decide +kernel
theorem dL_alike_111 : decode cL_alike 111 = .ok (.iconst 1, 1) := by decide +kernel
theorem dL_alike_112 : decode cL_alike 112 = .ok (.iconst 0, 1) := by decide +kernel
theorem dL_alike_113 : decode cL_alike 113 = .ok (.iconst 0, 1) := by decide +kernel
theorem dL_alike_114 : decode cL_alike 114 = .ok (.invokestatic 189, 3) := by decide +kernel
theorem dL_alike_117 : decode cL_alike 117 = .ok (.istore 4, 2) := by decide +kernel
theorem dL_alike_119 : decode cL_alike 119 = .ok (.iconst 0, 1) := by decide +kernel
theorem dL_alike_120 : decode cL_alike 120 = .ok (.istore 5, 2) := by decide +kernel
theorem dL_alike_122 : decode cL_alike 122 = .ok (.iload 5, 2) := by decide +kernel
theorem dL_alike_124 : decode cL_alike 124 = .ok (.iload 4, 2) := by decide +kernel
theorem dL_alike_126 : decode cL_alike 126 = .ok (.if_icmp .ge 67, 3) := by decide +kernel
theorem dL_alike_129 : decode cL_alike 129 = .ok (.iload_n 3, 1) := by decide +kernel
theorem dL_alike_130 : decode cL_alike 130 = .ok (.ifCond .eq 63, 3) := by decide +kernel
theorem dL_alike_133 : decode cL_alike 133 = .ok (.aload_n 0, 1) := by decide +kernel
theorem dL_alike_134 : decode cL_alike 134 = .ok (.iconst 3, 1) := by decide +kernel
theorem dL_alike_135 : decode cL_alike 135 = .ok (.iload 5, 2) := by decide +kernel
theorem dL_alike_137 : decode cL_alike 137 = .ok (.iload_n 2, 1) := by decide +kernel
theorem dL_alike_138 : decode cL_alike 138 = .ok (.bipush 6, 2) := by decide +kernel
theorem dL_alike_140 : decode cL_alike 140 = .ok (.irem, 1) := by decide +kernel
theorem dL_alike_141 : decode cL_alike 141 = .ok (.iconst 0, 1) := by decide +kernel
theorem dL_alike_142 : decode cL_alike 142 = .ok (.invokestatic 189, 3) := by decide +kernel
theorem dL_alike_145 : decode cL_alike 145 = .ok (.aload_n 1, 1) := by decide +kernel
theorem dL_alike_146 : decode cL_alike 146 = .ok (.iconst 3, 1) := by decide +kernel
theorem dL_alike_147 : decode cL_alike 147 = .ok (.iload 5, 2) := by decide +kernel
theorem dL_alike_149 : decode cL_alike 149 = .ok (.iload_n 2, 1) := by decide +kernel
theorem dL_alike_150 : decode cL_alike 150 = .ok (.bipush 6, 2) := by decide +kernel
theorem dL_alike_152 : decode cL_alike 152 = .ok (.irem, 1) := by decide +kernel
theorem dL_alike_153 : decode cL_alike 153 = .ok (.iconst 0, 1) := by decide +kernel
theorem dL_alike_154 : decode cL_alike 154 = .ok (.invokestatic 189, 3) := by decide +kernel
theorem dL_alike_157 : decode cL_alike 157 = .ok (.if_icmp .ne 28, 3) := by decide +kernel
theorem dL_alike_160 : decode cL_alike 160 = .ok (.aload_n 0, 1) := by decide +kernel
theorem dL_alike_161 : decode cL_alike 161 = .ok (.iconst 3, 1) := by decide +kernel
theorem dL_alike_162 : decode cL_alike 162 = .ok (.iload 5, 2) := by decide +kernel
theorem dL_alike_164 : decode cL_alike 164 = .ok (.iconst 3, 1) := by decide +kernel
theorem dL_alike_165 : decode cL_alike 165 = .ok (.iconst 0, 1) := by decide +kernel
theorem dL_alike_166 : decode cL_alike 166 = .ok (.invokestatic 189, 3) := by decide +kernel
theorem dL_alike_169 : decode cL_alike 169 = .ok (.aload_n 1, 1) := by decide +kernel
theorem dL_alike_170 : decode cL_alike 170 = .ok (.iconst 3, 1) := by decide +kernel
theorem dL_alike_171 : decode cL_alike 171 = .ok (.iload 5, 2) := by decide +kernel
theorem dL_alike_173 : decode cL_alike 173 = .ok (.iconst 3, 1) := by decide +kernel
theorem dL_alike_174 : decode cL_alike 174 = .ok (.iconst 0, 1) := by decide +kernel
theorem dL_alike_175 : decode cL_alike 175 = .ok (.invokestatic 189, 3) := by decide +kernel
theorem dL_alike_178 : decode cL_alike 178 = .ok (.if_icmp .ne 7, 3) := by decide +kernel
theorem dL_alike_181 : decode cL_alike 181 = .ok (.iconst 1, 1) := by decide +kernel
theorem dL_alike_182 : decode cL_alike 182 = .ok (.goto 4, 3) := by decide +kernel
theorem dL_alike_185 : decode cL_alike 185 = .ok (.iconst 0, 1) := by decide +kernel
theorem dL_alike_186 : decode cL_alike 186 = .ok (.istore_n 3, 1) := by decide +kernel
theorem dL_alike_187 : decode cL_alike 187 = .ok (.iinc 5 1, 3) := by decide +kernel
theorem dL_alike_190 : decode cL_alike 190 = .ok (.goto (-68), 3) := by decide +kernel
theorem dL_alike_193 : decode cL_alike 193 = .ok (.iconst 0, 1) := by decide +kernel
theorem dL_alike_194 : decode cL_alike 194 = .ok (.istore 5, 2) := by decide +kernel
theorem dL_alike_196 : decode cL_alike 196 = .ok (.iload 5, 2) := by decide +kernel
theorem dL_alike_198 : decode cL_alike 198 = .ok (.iconst 5, 1) := by decide +kernel
theorem dL_alike_199 : decode cL_alike 199 = .ok (.if_icmp .ge 153, 3) := by decide +kernel
theorem dL_alike_202 : decode cL_alike 202 = .ok (.iload_n 3, 1) := by decide +kernel
theorem dL_alike_203 : decode cL_alike 203 = .ok (.ifCond .eq 149, 3) := by decide +kernel
theorem dL_alike_206 : decode cL_alike 206 = .ok (.aload_n 0, 1) := by decide +kernel
theorem dL_alike_207 : decode cL_alike 207 = .ok (.iconst 4, 1) := by decide +kernel
theorem dL_alike_208 : decode cL_alike 208 = .ok (.iload 5, 2) := by decide +kernel
theorem dL_alike_210 : decode cL_alike 210 = .ok (.iload_n 2, 1) := by decide +kernel
theorem dL_alike_211 : decode cL_alike 211 = .ok (.bipush 7, 2) := by decide +kernel
theorem dL_alike_213 : decode cL_alike 213 = .ok (.irem, 1) := by decide +kernel
theorem dL_alike_214 : decode cL_alike 214 = .ok (.iconst 0, 1) := by decide +kernel
theorem dL_alike_215 : decode cL_alike 215 = .ok (.invokestatic 189, 3) := by decide +kernel
theorem dL_alike_218 : decode cL_alike 218 = .ok (.aload_n 1, 1) := by decide +kernel
theorem dL_alike_219 : decode cL_alike 219 = .ok (.iconst 4, 1) := by decide +kernel
theorem dL_alike_220 : decode cL_alike 220 = .ok (.iload 5, 2) := by decide +kernel
theorem dL_alike_222 : decode cL_alike 222 = .ok (.iload_n 2, 1) := by decide +kernel
theorem dL_alike_223 : decode cL_alike 223 = .ok (.bipush 7, 2) := by decide +kernel
theorem dL_alike_225 : decode cL_alike 225 = .ok (.irem, 1) := by decide +kernel
theorem dL_alike_226 : decode cL_alike 226 = .ok (.iconst 0, 1) := by decide +kernel
theorem dL_alike_227 : decode cL_alike 227 = .ok (.invokestatic 189, 3) := by decide +kernel
theorem dL_alike_230 : decode cL_alike 230 = .ok (.if_icmp .ne 114, 3) := by decide +kernel
theorem dL_alike_233 : decode cL_alike 233 = .ok (.aload_n 0, 1) := by decide +kernel
theorem dL_alike_234 : decode cL_alike 234 = .ok (.iconst 5, 1) := by decide +kernel
theorem dL_alike_235 : decode cL_alike 235 = .ok (.iload 5, 2) := by decide +kernel
theorem dL_alike_237 : decode cL_alike 237 = .ok (.iload_n 2, 1) := by decide +kernel
theorem dL_alike_238 : decode cL_alike 238 = .ok (.iconst 3, 1) := by decide +kernel
theorem dL_alike_239 : decode cL_alike 239 = .ok (.irem, 1) := by decide +kernel
theorem dL_alike_240 : decode cL_alike 240 = .ok (.iload_n 2, 1) := by decide +kernel
theorem dL_alike_241 : decode cL_alike 241 = .ok (.iconst 4, 1) := by decide +kernel
theorem dL_alike_242 : decode cL_alike 242 = .ok (.idiv, 1) := by decide +kernel
theorem dL_alike_243 : decode cL_alike 243 = .ok (.iconst 2, 1) := by decide +kernel
theorem dL_alike_244 : decode cL_alike 244 = .ok (.irem, 1) := by decide +kernel
theorem dL_alike_245 : decode cL_alike 245 = .ok (.invokestatic 189, 3) := by decide +kernel
theorem dL_alike_248 : decode cL_alike 248 = .ok (.aload_n 1, 1) := by decide +kernel
theorem dL_alike_249 : decode cL_alike 249 = .ok (.iconst 5, 1) := by decide +kernel
theorem dL_alike_250 : decode cL_alike 250 = .ok (.iload 5, 2) := by decide +kernel
theorem dL_alike_252 : decode cL_alike 252 = .ok (.iload_n 2, 1) := by decide +kernel
theorem dL_alike_253 : decode cL_alike 253 = .ok (.iconst 3, 1) := by decide +kernel
theorem dL_alike_254 : decode cL_alike 254 = .ok (.irem, 1) := by decide +kernel
theorem dL_alike_255 : decode cL_alike 255 = .ok (.iload_n 2, 1) := by decide +kernel
theorem dL_alike_256 : decode cL_alike 256 = .ok (.iconst 4, 1) := by decide +kernel
theorem dL_alike_257 : decode cL_alike 257 = .ok (.idiv, 1) := by decide +kernel
theorem dL_alike_258 : decode cL_alike 258 = .ok (.iconst 2, 1) := by decide +kernel
theorem dL_alike_259 : decode cL_alike 259 = .ok (.irem, 1) := by decide +kernel
theorem dL_alike_260 : decode cL_alike 260 = .ok (.invokestatic 189, 3) := by decide +kernel
theorem dL_alike_263 : decode cL_alike 263 = .ok (.if_icmp .ne 81, 3) := by decide +kernel
theorem dL_alike_266 : decode cL_alike 266 = .ok (.aload_n 0, 1) := by decide +kernel
theorem dL_alike_267 : decode cL_alike 267 = .ok (.iload 5, 2) := by decide +kernel
theorem dL_alike_269 : decode cL_alike 269 = .ok (.iload_n 2, 1) := by decide +kernel
theorem dL_alike_270 : decode cL_alike 270 = .ok (.iconst 5, 1) := by decide +kernel
theorem dL_alike_271 : decode cL_alike 271 = .ok (.irem, 1) := by decide +kernel
theorem dL_alike_272 : decode cL_alike 272 = .ok (.iload_n 2, 1) := by decide +kernel
theorem dL_alike_273 : decode cL_alike 273 = .ok (.bipush 8, 2) := by decide +kernel
theorem dL_alike_275 : decode cL_alike 275 = .ok (.idiv, 1) := by decide +kernel
theorem dL_alike_276 : decode cL_alike 276 = .ok (.iconst 3, 1) := by decide +kernel
theorem dL_alike_277 : decode cL_alike 277 = .ok (.irem, 1) := by decide +kernel
theorem dL_alike_278 : decode cL_alike 278 = .ok (.iload_n 2, 1) := by decide +kernel
theorem dL_alike_279 : decode cL_alike 279 = .ok (.bipush 32, 2) := by decide +kernel
theorem dL_alike_281 : decode cL_alike 281 = .ok (.idiv, 1) := by decide +kernel
theorem dL_alike_282 : decode cL_alike 282 = .ok (.iconst 3, 1) := by decide +kernel
theorem dL_alike_283 : decode cL_alike 283 = .ok (.irem, 1) := by decide +kernel
theorem dL_alike_284 : decode cL_alike 284 = .ok (.invokestatic 193, 3) := by decide +kernel
theorem dL_alike_287 : decode cL_alike 287 = .ok (.aload_n 1, 1) := by decide +kernel
theorem dL_alike_288 : decode cL_alike 288 = .ok (.iload 5, 2) := by decide +kernel
theorem dL_alike_290 : decode cL_alike 290 = .ok (.iload_n 2, 1) := by decide +kernel
theorem dL_alike_291 : decode cL_alike 291 = .ok (.iconst 5, 1) := by decide +kernel
theorem dL_alike_292 : decode cL_alike 292 = .ok (.irem, 1) := by decide +kernel
theorem dL_alike_293 : decode cL_alike 293 = .ok (.iload_n 2, 1) := by decide +kernel
theorem dL_alike_294 : decode cL_alike 294 = .ok (.bipush 8, 2) := by decide +kernel
theorem dL_alike_296 : decode cL_alike 296 = .ok (.idiv, 1) := by decide +kernel
theorem dL_alike_297 : decode cL_alike 297 = .ok (.iconst 3, 1) := by decide +kernel
theorem dL_alike_298 : decode cL_alike 298 = .ok (.irem, 1) := by decide +kernel
theorem dL_alike_299 : decode cL_alike 299 = .ok (.iload_n 2, 1) := by decide +kernel
theorem dL_alike_300 : decode cL_alike 300 = .ok (.bipush 32, 2) := by decide +kernel
theorem dL_alike_302 : decode cL_alike 302 = .ok (.idiv, 1) := by decide +kernel
theorem dL_alike_303 : decode cL_alike 303 = .ok (.iconst 3, 1) := by decide +kernel
theorem dL_alike_304 : decode cL_alike 304 = .ok (.irem, 1) := by decide +kernel
theorem dL_alike_305 : decode cL_alike 305 = .ok (.invokestatic 193, 3) := by decide +kernel
theorem dL_alike_308 : decode cL_alike 308 = .ok (.if_icmp .ne 36, 3) := by decide +kernel
theorem dL_alike_311 : decode cL_alike 311 = .ok (.aload_n 0, 1) := by decide +kernel
theorem dL_alike_312 : decode cL_alike 312 = .ok (.bipush 20, 2) := by decide +kernel
theorem dL_alike_314 : decode cL_alike 314 = .ok (.iload 5, 2) := by decide +kernel
theorem dL_alike_316 : decode cL_alike 316 = .ok (.iload_n 2, 1) := by decide +kernel
theorem dL_alike_317 : decode cL_alike 317 = .ok (.bipush 100, 2) := by decide +kernel
theorem dL_alike_319 : decode cL_alike 319 = .ok (.irem, 1) := by decide +kernel
theorem dL_alike_320 : decode cL_alike 320 = .ok (.iconst 0, 1) := by decide +kernel
theorem dL_alike_321 : decode cL_alike 321 = .ok (.invokestatic 189, 3) := by decide +kernel
theorem dL_alike_324 : decode cL_alike 324 = .ok (.aload_n 1, 1) := by decide +kernel
theorem dL_alike_325 : decode cL_alike 325 = .ok (.bipush 20, 2) := by decide +kernel
theorem dL_alike_327 : decode cL_alike 327 = .ok (.iload 5, 2) := by decide +kernel
theorem dL_alike_329 : decode cL_alike 329 = .ok (.iload_n 2, 1) := by decide +kernel
theorem dL_alike_330 : decode cL_alike 330 = .ok (.bipush 100, 2) := by decide +kernel
theorem dL_alike_332 : decode cL_alike 332 = .ok (.irem, 1) := by decide +kernel
theorem dL_alike_333 : decode cL_alike 333 = .ok (.iconst 0, 1) := by decide +kernel
theorem dL_alike_334 : decode cL_alike 334 = .ok (.invokestatic 189, 3) := by decide +kernel
theorem dL_alike_337 : decode cL_alike 337 = .ok (.if_icmp .ne 7, 3) := by decide +kernel
theorem dL_alike_340 : decode cL_alike 340 = .ok (.iconst 1, 1) := by decide +kernel
theorem dL_alike_341 : decode cL_alike 341 = .ok (.goto 4, 3) := by decide +kernel
theorem dL_alike_344 : decode cL_alike 344 = .ok (.iconst 0, 1) := by decide +kernel
theorem dL_alike_345 : decode cL_alike 345 = .ok (.istore_n 3, 1) := by decide +kernel
theorem dL_alike_346 : decode cL_alike 346 = .ok (.iinc 5 1, 3) := by decide +kernel
theorem dL_alike_349 : decode cL_alike 349 = .ok (.goto (-153), 3) := by decide +kernel
theorem dL_alike_352 : decode cL_alike 352 = .ok (.iload_n 3, 1) := by decide +kernel
theorem dL_alike_353 : decode cL_alike 353 = .ok (.ifCond .eq 112, 3) := by decide +kernel
theorem dL_alike_356 : decode cL_alike 356 = .ok (.aload_n 0, 1) := by decide +kernel
theorem dL_alike_357 : decode cL_alike 357 = .ok (.bipush 18, 2) := by decide +kernel
theorem dL_alike_359 : decode cL_alike 359 = .ok (.iload_n 2, 1) := by decide +kernel
theorem dL_alike_360 : decode cL_alike 360 = .ok (.iconst 5, 1) := by decide +kernel
theorem dL_alike_361 : decode cL_alike 361 = .ok (.irem, 1) := by decide +kernel
theorem dL_alike_362 : decode cL_alike 362 = .ok (.iload_n 2, 1) := by decide +kernel
theorem dL_alike_363 : decode cL_alike 363 = .ok (.bipush 8, 2) := by decide +kernel
theorem dL_alike_365 : decode cL_alike 365 = .ok (.idiv, 1) := by decide +kernel
theorem dL_alike_366 : decode cL_alike 366 = .ok (.iconst 3, 1) := by decide +kernel
theorem dL_alike_367 : decode cL_alike 367 = .ok (.irem, 1) := by decide +kernel
theorem dL_alike_368 : decode cL_alike 368 = .ok (.iconst 0, 1) := by decide +kernel
theorem dL_alike_369 : decode cL_alike 369 = .ok (.invokestatic 189, 3) := by decide +kernel
theorem dL_alike_372 : decode cL_alike 372 = .ok (.aload_n 1, 1) := by decide +kernel
theorem dL_alike_373 : decode cL_alike 373 = .ok (.bipush 18, 2) := by decide +kernel
theorem dL_alike_375 : decode cL_alike 375 = .ok (.iload_n 2, 1) := by decide +kernel
theorem dL_alike_376 : decode cL_alike 376 = .ok (.iconst 5, 1) := by decide +kernel
theorem dL_alike_377 : decode cL_alike 377 = .ok (.irem, 1) := by decide +kernel
theorem dL_alike_378 : decode cL_alike 378 = .ok (.iload_n 2, 1) := by decide +kernel
theorem dL_alike_379 : decode cL_alike 379 = .ok (.bipush 8, 2) := by decide +kernel
theorem dL_alike_381 : decode cL_alike 381 = .ok (.idiv, 1) := by decide +kernel
theorem dL_alike_382 : decode cL_alike 382 = .ok (.iconst 3, 1) := by decide +kernel
theorem dL_alike_383 : decode cL_alike 383 = .ok (.irem, 1) := by decide +kernel
theorem dL_alike_384 : decode cL_alike 384 = .ok (.iconst 0, 1) := by decide +kernel
theorem dL_alike_385 : decode cL_alike 385 = .ok (.invokestatic 189, 3) := by decide +kernel
theorem dL_alike_388 : decode cL_alike 388 = .ok (.if_icmp .ne 77, 3) := by decide +kernel
theorem dL_alike_391 : decode cL_alike 391 = .ok (.aload_n 0, 1) := by decide +kernel
theorem dL_alike_392 : decode cL_alike 392 = .ok (.bipush 19, 2) := by decide +kernel
theorem dL_alike_394 : decode cL_alike 394 = .ok (.iload_n 2, 1) := by decide +kernel
theorem dL_alike_395 : decode cL_alike 395 = .ok (.iconst 5, 1) := by decide +kernel
theorem dL_alike_396 : decode cL_alike 396 = .ok (.irem, 1) := by decide +kernel
theorem dL_alike_397 : decode cL_alike 397 = .ok (.iload_n 2, 1) := by decide +kernel
theorem dL_alike_398 : decode cL_alike 398 = .ok (.bipush 8, 2) := by decide +kernel
theorem dL_alike_400 : decode cL_alike 400 = .ok (.idiv, 1) := by decide +kernel
theorem dL_alike_401 : decode cL_alike 401 = .ok (.iconst 3, 1) := by decide +kernel
theorem dL_alike_402 : decode cL_alike 402 = .ok (.irem, 1) := by decide +kernel
theorem dL_alike_403 : decode cL_alike 403 = .ok (.iconst 0, 1) := by decide +kernel
theorem dL_alike_404 : decode cL_alike 404 = .ok (.invokestatic 189, 3) := by decide +kernel
theorem dL_alike_407 : decode cL_alike 407 = .ok (.aload_n 1, 1) := by decide +kernel
theorem dL_alike_408 : decode cL_alike 408 = .ok (.bipush 19, 2) := by decide +kernel
theorem dL_alike_410 : decode cL_alike 410 = .ok (.iload_n 2, 1) := by decide +kernel
theorem dL_alike_411 : decode cL_alike 411 = .ok (.iconst 5, 1) := by decide +kernel
theorem dL_alike_412 : decode cL_alike 412 = .ok (.irem, 1) := by decide +kernel
theorem dL_alike_413 : decode cL_alike 413 = .ok (.iload_n 2, 1) := by decide +kernel
theorem dL_alike_414 : decode cL_alike 414 = .ok (.bipush 8, 2) := by decide +kernel
theorem dL_alike_416 : decode cL_alike 416 = .ok (.idiv, 1) := by decide +kernel
theorem dL_alike_417 : decode cL_alike 417 = .ok (.iconst 3, 1) := by decide +kernel
theorem dL_alike_418 : decode cL_alike 418 = .ok (.irem, 1) := by decide +kernel
theorem dL_alike_419 : decode cL_alike 419 = .ok (.iconst 0, 1) := by decide +kernel
theorem dL_alike_420 : decode cL_alike 420 = .ok (.invokestatic 189, 3) := by decide +kernel
theorem dL_alike_423 : decode cL_alike 423 = .ok (.if_icmp .ne 42, 3) := by decide +kernel
theorem dL_alike_426 : decode cL_alike 426 = .ok (.aload_n 0, 1) := by decide +kernel
theorem dL_alike_427 : decode cL_alike 427 = .ok (.bipush 21, 2) := by decide +kernel
theorem dL_alike_429 : decode cL_alike 429 = .ok (.iload_n 2, 1) := by decide +kernel
theorem dL_alike_430 : decode cL_alike 430 = .ok (.iconst 5, 1) := by decide +kernel
theorem dL_alike_431 : decode cL_alike 431 = .ok (.irem, 1) := by decide +kernel
theorem dL_alike_432 : decode cL_alike 432 = .ok (.iload_n 2, 1) := by decide +kernel
theorem dL_alike_433 : decode cL_alike 433 = .ok (.bipush 8, 2) := by decide +kernel
theorem dL_alike_435 : decode cL_alike 435 = .ok (.idiv, 1) := by decide +kernel
theorem dL_alike_436 : decode cL_alike 436 = .ok (.iconst 3, 1) := by decide +kernel
theorem dL_alike_437 : decode cL_alike 437 = .ok (.irem, 1) := by decide +kernel
theorem dL_alike_438 : decode cL_alike 438 = .ok (.iconst 0, 1) := by decide +kernel
theorem dL_alike_439 : decode cL_alike 439 = .ok (.invokestatic 189, 3) := by decide +kernel
theorem dL_alike_442 : decode cL_alike 442 = .ok (.aload_n 1, 1) := by decide +kernel
theorem dL_alike_443 : decode cL_alike 443 = .ok (.bipush 21, 2) := by decide +kernel
theorem dL_alike_445 : decode cL_alike 445 = .ok (.iload_n 2, 1) := by decide +kernel
theorem dL_alike_446 : decode cL_alike 446 = .ok (.iconst 5, 1) := by decide +kernel
theorem dL_alike_447 : decode cL_alike 447 = .ok (.irem, 1) := by decide +kernel
theorem dL_alike_448 : decode cL_alike 448 = .ok (.iload_n 2, 1) := by decide +kernel
theorem dL_alike_449 : decode cL_alike 449 = .ok (.bipush 8, 2) := by decide +kernel
theorem dL_alike_451 : decode cL_alike 451 = .ok (.idiv, 1) := by decide +kernel
theorem dL_alike_452 : decode cL_alike 452 = .ok (.iconst 3, 1) := by decide +kernel
theorem dL_alike_453 : decode cL_alike 453 = .ok (.irem, 1) := by decide +kernel
theorem dL_alike_454 : decode cL_alike 454 = .ok (.iconst 0, 1) := by decide +kernel
theorem dL_alike_455 : decode cL_alike 455 = .ok (.invokestatic 189, 3) := by decide +kernel
theorem dL_alike_458 : decode cL_alike 458 = .ok (.if_icmp .ne 7, 3) := by decide +kernel
theorem dL_alike_461 : decode cL_alike 461 = .ok (.iconst 1, 1) := by decide +kernel
theorem dL_alike_462 : decode cL_alike 462 = .ok (.goto 4, 3) := by decide +kernel
theorem dL_alike_465 : decode cL_alike 465 = .ok (.iconst 0, 1) := by decide +kernel
theorem dL_alike_466 : decode cL_alike 466 = .ok (.ireturn, 1) := by decide +kernel
theorem dL_law_0 : decode cL_law 0 = .ok (.new 8, 3) := by decide +kernel
theorem dL_law_3 : decode cL_law 3 = .ok (.dup, 1) := by decide +kernel
theorem dL_law_4 : decode cL_law 4 = .ok (.invokespecial 223, 3) := by decide +kernel
theorem dL_law_7 : decode cL_law 7 = .ok (.astore_n 1, 1) := by decide +kernel
theorem dL_law_8 : decode cL_law 8 = .ok (.new 8, 3) := by decide +kernel
theorem dL_law_11 : decode cL_law 11 = .ok (.dup, 1) := by decide +kernel
theorem dL_law_12 : decode cL_law 12 = .ok (.invokespecial 223, 3) := by decide +kernel
theorem dL_law_15 : decode cL_law 15 = .ok (.astore_n 2, 1) := by decide +kernel
theorem dL_law_16 : decode cL_law 16 = .ok (.iconst 1, 1) := by decide +kernel
theorem dL_law_17 : decode cL_law 17 = .ok (.istore_n 3, 1) := by decide +kernel
theorem dL_law_18 : decode cL_law 18 = .ok (.iconst 0, 1) := by decide +kernel
theorem dL_law_19 : decode cL_law 19 = .ok (.istore 4, 2) := by decide +kernel
theorem dL_law_21 : decode cL_law 21 = .ok (.iload 4, 2) := by decide +kernel
theorem dL_law_23 : decode cL_law 23 = .ok (.bipush 30, 2) := by decide +kernel
theorem dL_law_25 : decode cL_law 25 = .ok (.if_icmp .ge 217, 3) := by decide +kernel
theorem dL_law_28 : decode cL_law 28 = .ok (.iload_n 3, 1) := by decide +kernel
theorem dL_law_29 : decode cL_law 29 = .ok (.ifCond .eq 213, 3) := by decide +kernel
theorem dL_law_32 : decode cL_law 32 = .ok (.aload_n 0, 1) := by decide +kernel
theorem dL_law_33 : decode cL_law 33 = .ok (.iconst 2, 1) := by decide +kernel
theorem dL_law_34 : decode cL_law 34 = .ok (.iload 4, 2) := by decide +kernel
theorem dL_law_36 : decode cL_law 36 = .ok (.imul, 1) := by decide +kernel
theorem dL_law_37 : decode cL_law 37 = .ok (.invokestatic 224, 3) := by decide +kernel
theorem dL_law_40 : decode cL_law 40 = .ok (.istore 5, 2) := by decide +kernel
theorem dL_law_42 : decode cL_law 42 = .ok (.aload_n 0, 1) := by decide +kernel
theorem dL_law_43 : decode cL_law 43 = .ok (.iconst 2, 1) := by decide +kernel
theorem dL_law_44 : decode cL_law 44 = .ok (.iload 4, 2) := by decide +kernel
theorem dL_law_46 : decode cL_law 46 = .ok (.imul, 1) := by decide +kernel
theorem dL_law_47 : decode cL_law 47 = .ok (.iconst 1, 1) := by decide +kernel
theorem dL_law_48 : decode cL_law 48 = .ok (.iadd, 1) := by decide +kernel
theorem dL_law_49 : decode cL_law 49 = .ok (.invokestatic 224, 3) := by decide +kernel
theorem dL_law_52 : decode cL_law 52 = .ok (.istore 6, 2) := by decide +kernel
theorem dL_law_54 : decode cL_law 54 = .ok (.aload_n 1, 1) := by decide +kernel
theorem dL_law_55 : decode cL_law 55 = .ok (.iload 5, 2) := by decide +kernel
theorem dL_law_57 : decode cL_law 57 = .ok (.invokestatic 228, 3) := by decide +kernel
theorem dL_law_60 : decode cL_law 60 = .ok (.ifCond .eq 45, 3) := by decide +kernel
theorem dL_law_63 : decode cL_law 63 = .ok (.aload_n 1, 1) := by decide +kernel
theorem dL_law_64 : decode cL_law 64 = .ok (.iload 5, 2) := by decide +kernel
theorem dL_law_66 : decode cL_law 66 = .ok (.iload 6, 2) := by decide +kernel
theorem dL_law_68 : decode cL_law 68 = .ok (.invokestatic 232, 3) := by decide +kernel
theorem dL_law_71 : decode cL_law 71 = .ok (.aload_n 2, 1) := by decide +kernel
theorem dL_law_72 : decode cL_law 72 = .ok (.iload 5, 2) := by decide +kernel
theorem dL_law_74 : decode cL_law 74 = .ok (.iload 6, 2) := by decide +kernel
theorem dL_law_76 : decode cL_law 76 = .ok (.invokestatic 232, 3) := by decide +kernel
theorem dL_law_79 : decode cL_law 79 = .ok (.if_icmp .ne 26, 3) := by decide +kernel
theorem dL_law_82 : decode cL_law 82 = .ok (.aload_n 1, 1) := by decide +kernel
theorem dL_law_83 : decode cL_law 83 = .ok (.iload 6, 2) := by decide +kernel
theorem dL_law_85 : decode cL_law 85 = .ok (.invokestatic 228, 3) := by decide +kernel
theorem dL_law_88 : decode cL_law 88 = .ok (.ifCond .eq 17, 3) := by decide +kernel
theorem dL_law_91 : decode cL_law 91 = .ok (.aload_n 1, 1) := by decide +kernel
theorem dL_law_92 : decode cL_law 92 = .ok (.aload_n 2, 1) := by decide +kernel
theorem dL_law_93 : decode cL_law 93 = .ok (.iload 5, 2) := by decide +kernel
theorem dL_law_95 : decode cL_law 95 = .ok (.invokestatic 235, 3) := by decide +kernel
theorem dL_law_98 : decode cL_law 98 = .ok (.ifCond .eq 7, 3) := by decide +kernel
theorem dL_law_101 : decode cL_law 101 = .ok (.iconst 1, 1) := by decide +kernel
theorem dL_law_102 : decode cL_law 102 = .ok (.goto 4, 3) := by decide +kernel
theorem dL_law_105 : decode cL_law 105 = .ok (.iconst 0, 1) := by decide +kernel
theorem dL_law_106 : decode cL_law 106 = .ok (.istore_n 3, 1) := by decide +kernel
theorem dL_law_107 : decode cL_law 107 = .ok (.iload 4, 2) := by decide +kernel
theorem dL_law_109 : decode cL_law 109 = .ok (.iconst 5, 1) := by decide +kernel
theorem dL_law_110 : decode cL_law 110 = .ok (.irem, 1) := by decide +kernel
theorem dL_law_111 : decode cL_law 111 = .ok (.iconst 4, 1) := by decide +kernel
theorem dL_law_112 : decode cL_law 112 = .ok (.if_icmp .ne 124, 3) := by decide +kernel
theorem dL_law_115 : decode cL_law 115 = .ok (.iload_n 3, 1) := by decide +kernel
theorem dL_law_116 : decode cL_law 116 = .ok (.ifCond .eq 120, 3) := by decide +kernel
theorem dL_law_119 : decode cL_law 119 = .ok (.aload_n 1, 1) := by decide +kernel
theorem dL_law_120 : decode cL_law 120 = .ok (.iload 6, 2) := by decide +kernel
theorem dL_law_122 : decode cL_law 122 = .ok (.invokestatic 239, 3) := by decide +kernel
theorem dL_law_125 : decode cL_law 125 = .ok (.ifCond .eq 16, 3) := by decide +kernel
theorem dL_law_128 : decode cL_law 128 = .ok (.aload_n 2, 1) := by decide +kernel
theorem dL_law_129 : decode cL_law 129 = .ok (.iload 6, 2) := by decide +kernel
theorem dL_law_131 : decode cL_law 131 = .ok (.invokestatic 239, 3) := by decide +kernel
theorem dL_law_134 : decode cL_law 134 = .ok (.ifCond .eq 7, 3) := by decide +kernel
theorem dL_law_137 : decode cL_law 137 = .ok (.iconst 1, 1) := by decide +kernel
theorem dL_law_138 : decode cL_law 138 = .ok (.goto 4, 3) := by decide +kernel
theorem dL_law_141 : decode cL_law 141 = .ok (.iconst 0, 1) := by decide +kernel
theorem dL_law_142 : decode cL_law 142 = .ok (.istore_n 3, 1) := by decide +kernel
theorem dL_law_143 : decode cL_law 143 = .ok (.iload 5, 2) := by decide +kernel
theorem dL_law_145 : decode cL_law 145 = .ok (.i2l, 1) := by decide +kernel
theorem dL_law_146 : decode cL_law 146 = .ok (.ldc2_w 242, 3) := by decide +kernel
theorem dL_law_149 : decode cL_law 149 = .ok (.lmul, 1) := by decide +kernel
theorem dL_law_150 : decode cL_law 150 = .ok (.ldc2_w 244, 3) := by decide +kernel
theorem dL_law_153 : decode cL_law 153 = .ok (.lsub, 1) := by decide +kernel
theorem dL_law_154 : decode cL_law 154 = .ok (.lstore 7, 2) := by decide +kernel
theorem dL_law_156 : decode cL_law 156 = .ok (.aload_n 1, 1) := by decide +kernel
theorem dL_law_157 : decode cL_law 157 = .ok (.lload 7, 2) := by decide +kernel
theorem dL_law_159 : decode cL_law 159 = .ok (.iconst 1, 1) := by decide +kernel
theorem dL_law_160 : decode cL_law 160 = .ok (.iload 6, 2) := by decide +kernel
theorem dL_law_162 : decode cL_law 162 = .ok (.bipush 40, 2) := by decide +kernel
theorem dL_law_164 : decode cL_law 164 = .ok (.irem, 1) := by decide +kernel
theorem dL_law_165 : decode cL_law 165 = .ok (.iadd, 1) := by decide +kernel
theorem dL_law_166 : decode cL_law 166 = .ok (.invokestatic 207, 3) := by decide +kernel
theorem dL_law_169 : decode cL_law 169 = .ok (.istore 9, 2) := by decide +kernel
theorem dL_law_171 : decode cL_law 171 = .ok (.iload_n 3, 1) := by decide +kernel
theorem dL_law_172 : decode cL_law 172 = .ok (.ifCond .eq 62, 3) := by decide +kernel
theorem dL_law_175 : decode cL_law 175 = .ok (.iload 9, 2) := by decide +kernel
theorem dL_law_177 : decode cL_law 177 = .ok (.aload_n 2, 1) := by decide +kernel
theorem dL_law_178 : decode cL_law 178 = .ok (.lload 7, 2) := by decide +kernel
theorem dL_law_180 : decode cL_law 180 = .ok (.iconst 1, 1) := by decide +kernel
theorem dL_law_181 : decode cL_law 181 = .ok (.iload 6, 2) := by decide +kernel
theorem dL_law_183 : decode cL_law 183 = .ok (.bipush 40, 2) := by decide +kernel
theorem dL_law_185 : decode cL_law 185 = .ok (.irem, 1) := by decide +kernel
theorem dL_law_186 : decode cL_law 186 = .ok (.iadd, 1) := by decide +kernel
theorem dL_law_187 : decode cL_law 187 = .ok (.invokestatic 207, 3) := by decide +kernel
theorem dL_law_190 : decode cL_law 190 = .ok (.if_icmp .ne 44, 3) := by decide +kernel
theorem dL_law_193 : decode cL_law 193 = .ok (.aload_n 1, 1) := by decide +kernel
theorem dL_law_194 : decode cL_law 194 = .ok (.iconst 2, 1) := by decide +kernel
theorem dL_law_195 : decode cL_law 195 = .ok (.iload 6, 2) := by decide +kernel
theorem dL_law_197 : decode cL_law 197 = .ok (.i2l, 1) := by decide +kernel
theorem dL_law_198 : decode cL_law 198 = .ok (.ldc2_w 246, 3) := by decide +kernel
theorem dL_law_201 : decode cL_law 201 = .ok (.lmul, 1) := by decide +kernel
theorem dL_law_202 : decode cL_law 202 = .ok (.invokestatic 199, 3) := by decide +kernel
theorem dL_law_205 : decode cL_law 205 = .ok (.aload_n 2, 1) := by decide +kernel
theorem dL_law_206 : decode cL_law 206 = .ok (.iconst 2, 1) := by decide +kernel
theorem dL_law_207 : decode cL_law 207 = .ok (.iload 6, 2) := by decide +kernel
theorem dL_law_209 : decode cL_law 209 = .ok (.i2l, 1) := by decide +kernel
theorem dL_law_210 : decode cL_law 210 = .ok (.ldc2_w 246, 3) := by decide +kernel
theorem dL_law_213 : decode cL_law 213 = .ok (.lmul, 1) := by decide +kernel
theorem dL_law_214 : decode cL_law 214 = .ok (.invokestatic 199, 3) := by decide +kernel
theorem dL_law_217 : decode cL_law 217 = .ok (.if_icmp .ne 17, 3) := by decide +kernel
theorem dL_law_220 : decode cL_law 220 = .ok (.aload_n 1, 1) := by decide +kernel
theorem dL_law_221 : decode cL_law 221 = .ok (.aload_n 2, 1) := by decide +kernel
theorem dL_law_222 : decode cL_law 222 = .ok (.iload 6, 2) := by decide +kernel
theorem dL_law_224 : decode cL_law 224 = .ok (.invokestatic 235, 3) := by decide +kernel
theorem dL_law_227 : decode cL_law 227 = .ok (.ifCond .eq 7, 3) := by decide +kernel
theorem dL_law_230 : decode cL_law 230 = .ok (.iconst 1, 1) := by decide +kernel
theorem dL_law_231 : decode cL_law 231 = .ok (.goto 4, 3) := by decide +kernel
theorem dL_law_234 : decode cL_law 234 = .ok (.iconst 0, 1) := by decide +kernel
theorem dL_law_235 : decode cL_law 235 = .ok (.istore_n 3, 1) := by decide +kernel
theorem dL_law_236 : decode cL_law 236 = .ok (.iinc 4 1, 3) := by decide +kernel
theorem dL_law_239 : decode cL_law 239 = .ok (.goto (-218), 3) := by decide +kernel
theorem dL_law_242 : decode cL_law 242 = .ok (.iload_n 3, 1) := by decide +kernel
theorem dL_law_243 : decode cL_law 243 = .ok (.ireturn, 1) := by decide +kernel
