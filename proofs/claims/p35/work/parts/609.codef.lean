/-! decode rows of the law -/
theorem dL_holds_0 : decode cL_holds 0 = .ok (.aload_n 0, 1) := by decide +kernel
theorem dL_holds_1 : decode cL_holds 1 = .ok (.iconst 2, 1) := by decide +kernel
theorem dL_holds_2 : decode cL_holds 2 = .ok (.iconst 1, 1) := by decide +kernel
theorem dL_holds_3 : decode cL_holds 3 = .ok (.iconst 0, 1) := by decide +kernel
theorem dL_holds_4 : decode cL_holds 4 = .ok (.iconst 0, 1) := by decide +kernel
theorem dL_holds_5 : decode cL_holds 5 = .ok (.invokestatic 189, 3) := by decide +kernel
theorem dL_holds_8 : decode cL_holds 8 = .ok (.istore_n 2, 1) := by decide +kernel
theorem dL_holds_9 : decode cL_holds 9 = .ok (.aload_n 0, 1) := by decide +kernel
theorem dL_holds_10 : decode cL_holds 10 = .ok (.iconst 2, 1) := by decide +kernel
theorem dL_holds_11 : decode cL_holds 11 = .ok (.bipush 9, 2) := by decide +kernel
theorem dL_holds_13 : decode cL_holds 13 = .ok (.iconst 0, 1) := by decide +kernel
theorem dL_holds_14 : decode cL_holds 14 = .ok (.iconst 0, 1) := by decide +kernel
theorem dL_holds_15 : decode cL_holds 15 = .ok (.invokestatic 189, 3) := by decide +kernel
theorem dL_holds_18 : decode cL_holds 18 = .ok (.istore_n 3, 1) := by decide +kernel
theorem dL_holds_19 : decode cL_holds 19 = .ok (.iconst 0, 1) := by decide +kernel
theorem dL_holds_20 : decode cL_holds 20 = .ok (.istore 4, 2) := by decide +kernel
theorem dL_holds_22 : decode cL_holds 22 = .ok (.iconst 0, 1) := by decide +kernel
theorem dL_holds_23 : decode cL_holds 23 = .ok (.istore 5, 2) := by decide +kernel
theorem dL_holds_25 : decode cL_holds 25 = .ok (.iconst 0, 1) := by decide +kernel
theorem dL_holds_26 : decode cL_holds 26 = .ok (.istore 6, 2) := by decide +kernel
theorem dL_holds_28 : decode cL_holds 28 = .ok (.iconst 0, 1) := by decide +kernel
theorem dL_holds_29 : decode cL_holds 29 = .ok (.istore 7, 2) := by decide +kernel
theorem dL_holds_31 : decode cL_holds 31 = .ok (.iconst 0, 1) := by decide +kernel
theorem dL_holds_32 : decode cL_holds 32 = .ok (.istore 8, 2) := by decide +kernel
theorem dL_holds_34 : decode cL_holds 34 = .ok (.iconst 0, 1) := by decide +kernel
theorem dL_holds_35 : decode cL_holds 35 = .ok (.istore 9, 2) := by decide +kernel
theorem dL_holds_37 : decode cL_holds 37 = .ok (.iconst 0, 1) := by decide +kernel
theorem dL_holds_38 : decode cL_holds 38 = .ok (.istore 10, 2) := by decide +kernel
theorem dL_holds_40 : decode cL_holds 40 = .ok (.iconst 1, 1) := by decide +kernel
theorem dL_holds_41 : decode cL_holds 41 = .ok (.istore 11, 2) := by decide +kernel
theorem dL_holds_43 : decode cL_holds 43 = .ok (.iconst 0, 1) := by decide +kernel
theorem dL_holds_44 : decode cL_holds 44 = .ok (.istore 12, 2) := by decide +kernel
theorem dL_holds_46 : decode cL_holds 46 = .ok (.iload 12, 2) := by decide +kernel
theorem dL_holds_48 : decode cL_holds 48 = .ok (.iconst 5, 1) := by decide +kernel
theorem dL_holds_49 : decode cL_holds 49 = .ok (.if_icmp .ge 215, 3) := by decide +kernel
theorem dL_holds_52 : decode cL_holds 52 = .ok (.iload 11, 2) := by decide +kernel
theorem dL_holds_54 : decode cL_holds 54 = .ok (.ifCond .eq 210, 3) := by decide +kernel
theorem dL_holds_57 : decode cL_holds 57 = .ok (.iload_n 3, 1) := by decide +kernel
theorem dL_holds_58 : decode cL_holds 58 = .ok (.aload_n 0, 1) := by decide +kernel
theorem dL_holds_59 : decode cL_holds 59 = .ok (.iconst 4, 1) := by decide +kernel
theorem dL_holds_60 : decode cL_holds 60 = .ok (.iload 12, 2) := by decide +kernel
theorem dL_holds_62 : decode cL_holds 62 = .ok (.iconst 0, 1) := by decide +kernel
theorem dL_holds_63 : decode cL_holds 63 = .ok (.iconst 0, 1) := by decide +kernel
theorem dL_holds_64 : decode cL_holds 64 = .ok (.invokestatic 189, 3) := by decide +kernel
theorem dL_holds_67 : decode cL_holds 67 = .ok (.iadd, 1) := by decide +kernel
theorem dL_holds_68 : decode cL_holds 68 = .ok (.istore_n 3, 1) := by decide +kernel
theorem dL_holds_69 : decode cL_holds 69 = .ok (.iload 4, 2) := by decide +kernel
theorem dL_holds_71 : decode cL_holds 71 = .ok (.aload_n 0, 1) := by decide +kernel
theorem dL_holds_72 : decode cL_holds 72 = .ok (.iconst 4, 1) := by decide +kernel
theorem dL_holds_73 : decode cL_holds 73 = .ok (.iload 12, 2) := by decide +kernel
theorem dL_holds_75 : decode cL_holds 75 = .ok (.iconst 1, 1) := by decide +kernel
theorem dL_holds_76 : decode cL_holds 76 = .ok (.iconst 0, 1) := by decide +kernel
theorem dL_holds_77 : decode cL_holds 77 = .ok (.invokestatic 189, 3) := by decide +kernel
theorem dL_holds_80 : decode cL_holds 80 = .ok (.iadd, 1) := by decide +kernel
theorem dL_holds_81 : decode cL_holds 81 = .ok (.istore 4, 2) := by decide +kernel
theorem dL_holds_83 : decode cL_holds 83 = .ok (.iload 5, 2) := by decide +kernel
theorem dL_holds_85 : decode cL_holds 85 = .ok (.aload_n 0, 1) := by decide +kernel
theorem dL_holds_86 : decode cL_holds 86 = .ok (.iconst 4, 1) := by decide +kernel
theorem dL_holds_87 : decode cL_holds 87 = .ok (.iload 12, 2) := by decide +kernel
theorem dL_holds_89 : decode cL_holds 89 = .ok (.iconst 2, 1) := by decide +kernel
theorem dL_holds_90 : decode cL_holds 90 = .ok (.iconst 0, 1) := by decide +kernel
theorem dL_holds_91 : decode cL_holds 91 = .ok (.invokestatic 189, 3) := by decide +kernel
theorem dL_holds_94 : decode cL_holds 94 = .ok (.iadd, 1) := by decide +kernel
theorem dL_holds_95 : decode cL_holds 95 = .ok (.istore 5, 2) := by decide +kernel
theorem dL_holds_97 : decode cL_holds 97 = .ok (.iload 6, 2) := by decide +kernel
theorem dL_holds_99 : decode cL_holds 99 = .ok (.aload_n 0, 1) := by decide +kernel
theorem dL_holds_100 : decode cL_holds 100 = .ok (.iconst 4, 1) := by decide +kernel
theorem dL_holds_101 : decode cL_holds 101 = .ok (.iload 12, 2) := by decide +kernel
theorem dL_holds_103 : decode cL_holds 103 = .ok (.iconst 3, 1) := by decide +kernel
theorem dL_holds_104 : decode cL_holds 104 = .ok (.iconst 0, 1) := by decide +kernel
theorem dL_holds_105 : decode cL_holds 105 = .ok (.invokestatic 189, 3) := by decide +kernel
theorem dL_holds_108 : decode cL_holds 108 = .ok (.iadd, 1) := by decide +kernel
theorem dL_holds_109 : decode cL_holds 109 = .ok (.istore 6, 2) := by decide +kernel
theorem dL_holds_111 : decode cL_holds 111 = .ok (.iload 10, 2) := by decide +kernel
theorem dL_holds_113 : decode cL_holds 113 = .ok (.aload_n 0, 1) := by decide +kernel
theorem dL_holds_114 : decode cL_holds 114 = .ok (.iconst 4, 1) := by decide +kernel
theorem dL_holds_115 : decode cL_holds 115 = .ok (.iload 12, 2) := by decide +kernel
theorem dL_holds_117 : decode cL_holds 117 = .ok (.iconst 4, 1) := by decide +kernel
theorem dL_holds_118 : decode cL_holds 118 = .ok (.iconst 0, 1) := by decide +kernel
theorem dL_holds_119 : decode cL_holds 119 = .ok (.invokestatic 189, 3) := by decide +kernel
theorem dL_holds_122 : decode cL_holds 122 = .ok (.iadd, 1) := by decide +kernel
theorem dL_holds_123 : decode cL_holds 123 = .ok (.istore 10, 2) := by decide +kernel
theorem dL_holds_125 : decode cL_holds 125 = .ok (.iload 8, 2) := by decide +kernel
theorem dL_holds_127 : decode cL_holds 127 = .ok (.aload_n 0, 1) := by decide +kernel
theorem dL_holds_128 : decode cL_holds 128 = .ok (.iconst 4, 1) := by decide +kernel
theorem dL_holds_129 : decode cL_holds 129 = .ok (.iload 12, 2) := by decide +kernel
theorem dL_holds_131 : decode cL_holds 131 = .ok (.iconst 5, 1) := by decide +kernel
theorem dL_holds_132 : decode cL_holds 132 = .ok (.iconst 0, 1) := by decide +kernel
theorem dL_holds_133 : decode cL_holds 133 = .ok (.invokestatic 189, 3) := by decide +kernel
theorem dL_holds_136 : decode cL_holds 136 = .ok (.iadd, 1) := by decide +kernel
theorem dL_holds_137 : decode cL_holds 137 = .ok (.istore 8, 2) := by decide +kernel
theorem dL_holds_139 : decode cL_holds 139 = .ok (.iload 9, 2) := by decide +kernel
theorem dL_holds_141 : decode cL_holds 141 = .ok (.aload_n 0, 1) := by decide +kernel
theorem dL_holds_142 : decode cL_holds 142 = .ok (.iconst 4, 1) := by decide +kernel
theorem dL_holds_143 : decode cL_holds 143 = .ok (.iload 12, 2) := by decide +kernel
theorem dL_holds_145 : decode cL_holds 145 = .ok (.bipush 6, 2) := by decide +kernel
theorem dL_holds_147 : decode cL_holds 147 = .ok (.iconst 0, 1) := by decide +kernel
theorem dL_holds_148 : decode cL_holds 148 = .ok (.invokestatic 189, 3) := by decide +kernel
theorem dL_holds_151 : decode cL_holds 151 = .ok (.iadd, 1) := by decide +kernel
theorem dL_holds_152 : decode cL_holds 152 = .ok (.istore 9, 2) := by decide +kernel
theorem dL_holds_154 : decode cL_holds 154 = .ok (.iload 7, 2) := by decide +kernel
theorem dL_holds_156 : decode cL_holds 156 = .ok (.aload_n 0, 1) := by decide +kernel
theorem dL_holds_157 : decode cL_holds 157 = .ok (.bipush 20, 2) := by decide +kernel
theorem dL_holds_159 : decode cL_holds 159 = .ok (.iload 12, 2) := by decide +kernel
theorem dL_holds_161 : decode cL_holds 161 = .ok (.iload_n 1, 1) := by decide +kernel
theorem dL_holds_162 : decode cL_holds 162 = .ok (.bipush 100, 2) := by decide +kernel
theorem dL_holds_164 : decode cL_holds 164 = .ok (.irem, 1) := by decide +kernel
theorem dL_holds_165 : decode cL_holds 165 = .ok (.iconst 0, 1) := by decide +kernel
theorem dL_holds_166 : decode cL_holds 166 = .ok (.invokestatic 189, 3) := by decide +kernel
theorem dL_holds_169 : decode cL_holds 169 = .ok (.iadd, 1) := by decide +kernel
theorem dL_holds_170 : decode cL_holds 170 = .ok (.istore 7, 2) := by decide +kernel
theorem dL_holds_172 : decode cL_holds 172 = .ok (.iconst 0, 1) := by decide +kernel
theorem dL_holds_173 : decode cL_holds 173 = .ok (.istore 13, 2) := by decide +kernel
theorem dL_holds_175 : decode cL_holds 175 = .ok (.iload 13, 2) := by decide +kernel
theorem dL_holds_177 : decode cL_holds 177 = .ok (.bipush 45, 2) := by decide +kernel
theorem dL_holds_179 : decode cL_holds 179 = .ok (.if_icmp .ge 79, 3) := by decide +kernel
theorem dL_holds_182 : decode cL_holds 182 = .ok (.iload 11, 2) := by decide +kernel
theorem dL_holds_184 : decode cL_holds 184 = .ok (.ifCond .eq 74, 3) := by decide +kernel
theorem dL_holds_187 : decode cL_holds 187 = .ok (.aload_n 0, 1) := by decide +kernel
theorem dL_holds_188 : decode cL_holds 188 = .ok (.iload 12, 2) := by decide +kernel
theorem dL_holds_190 : decode cL_holds 190 = .ok (.iload 13, 2) := by decide +kernel
theorem dL_holds_192 : decode cL_holds 192 = .ok (.bipush 9, 2) := by decide +kernel
theorem dL_holds_194 : decode cL_holds 194 = .ok (.idiv, 1) := by decide +kernel
theorem dL_holds_195 : decode cL_holds 195 = .ok (.iload 13, 2) := by decide +kernel
theorem dL_holds_197 : decode cL_holds 197 = .ok (.iconst 3, 1) := by decide +kernel
theorem dL_holds_198 : decode cL_holds 198 = .ok (.idiv, 1) := by decide +kernel
theorem dL_holds_199 : decode cL_holds 199 = .ok (.iconst 3, 1) := by decide +kernel
theorem dL_holds_200 : decode cL_holds 200 = .ok (.irem, 1) := by decide +kernel
theorem dL_holds_201 : decode cL_holds 201 = .ok (.iload 13, 2) := by decide +kernel
theorem dL_holds_203 : decode cL_holds 203 = .ok (.iconst 3, 1) := by decide +kernel
theorem dL_holds_204 : decode cL_holds 204 = .ok (.irem, 1) := by decide +kernel
theorem dL_holds_205 : decode cL_holds 205 = .ok (.invokestatic 193, 3) := by decide +kernel
theorem dL_holds_208 : decode cL_holds 208 = .ok (.ifCond .eq 37, 3) := by decide +kernel
theorem dL_holds_211 : decode cL_holds 211 = .ok (.iload 12, 2) := by decide +kernel
theorem dL_holds_213 : decode cL_holds 213 = .ok (.iload 13, 2) := by decide +kernel
theorem dL_holds_215 : decode cL_holds 215 = .ok (.bipush 9, 2) := by decide +kernel
theorem dL_holds_217 : decode cL_holds 217 = .ok (.idiv, 1) := by decide +kernel
theorem dL_holds_218 : decode cL_holds 218 = .ok (.if_icmp .eq 31, 3) := by decide +kernel
theorem dL_holds_221 : decode cL_holds 221 = .ok (.aload_n 0, 1) := by decide +kernel
theorem dL_holds_222 : decode cL_holds 222 = .ok (.iload 13, 2) := by decide +kernel
theorem dL_holds_224 : decode cL_holds 224 = .ok (.bipush 9, 2) := by decide +kernel
theorem dL_holds_226 : decode cL_holds 226 = .ok (.idiv, 1) := by decide +kernel
theorem dL_holds_227 : decode cL_holds 227 = .ok (.iload 12, 2) := by decide +kernel
theorem dL_holds_229 : decode cL_holds 229 = .ok (.iload 13, 2) := by decide +kernel
theorem dL_holds_231 : decode cL_holds 231 = .ok (.iconst 3, 1) := by decide +kernel
theorem dL_holds_232 : decode cL_holds 232 = .ok (.idiv, 1) := by decide +kernel
theorem dL_holds_233 : decode cL_holds 233 = .ok (.iconst 3, 1) := by decide +kernel
theorem dL_holds_234 : decode cL_holds 234 = .ok (.irem, 1) := by decide +kernel
theorem dL_holds_235 : decode cL_holds 235 = .ok (.iload 13, 2) := by decide +kernel
theorem dL_holds_237 : decode cL_holds 237 = .ok (.iconst 3, 1) := by decide +kernel
theorem dL_holds_238 : decode cL_holds 238 = .ok (.irem, 1) := by decide +kernel
theorem dL_holds_239 : decode cL_holds 239 = .ok (.invokestatic 193, 3) := by decide +kernel
theorem dL_holds_242 : decode cL_holds 242 = .ok (.ifCond .ne 7, 3) := by decide +kernel
theorem dL_holds_245 : decode cL_holds 245 = .ok (.iconst 1, 1) := by decide +kernel
theorem dL_holds_246 : decode cL_holds 246 = .ok (.goto 4, 3) := by decide +kernel
theorem dL_holds_249 : decode cL_holds 249 = .ok (.iconst 0, 1) := by decide +kernel
theorem dL_holds_250 : decode cL_holds 250 = .ok (.istore 11, 2) := by decide +kernel
theorem dL_holds_252 : decode cL_holds 252 = .ok (.iinc 13 1, 3) := by decide +kernel
theorem dL_holds_255 : decode cL_holds 255 = .ok (.goto (-80), 3) := by decide +kernel
theorem dL_holds_258 : decode cL_holds 258 = .ok (.iinc 12 1, 3) := by decide +kernel
theorem dL_holds_261 : decode cL_holds 261 = .ok (.goto (-215), 3) := by decide +kernel
theorem dL_holds_264 : decode cL_holds 264 = .ok (.iload 11, 2) := by decide +kernel
theorem dL_holds_266 : decode cL_holds 266 = .ok (.ifCond .eq 112, 3) := by decide +kernel
theorem dL_holds_269 : decode cL_holds 269 = .ok (.iload_n 3, 1) := by decide +kernel
theorem dL_holds_270 : decode cL_holds 270 = .ok (.ifCond .ne 108, 3) := by decide +kernel
theorem dL_holds_273 : decode cL_holds 273 = .ok (.iload 4, 2) := by decide +kernel
theorem dL_holds_275 : decode cL_holds 275 = .ok (.iload_n 2, 1) := by decide +kernel
theorem dL_holds_276 : decode cL_holds 276 = .ok (.if_icmp .ne 102, 3) := by decide +kernel
theorem dL_holds_279 : decode cL_holds 279 = .ok (.iload 5, 2) := by decide +kernel
theorem dL_holds_281 : decode cL_holds 281 = .ok (.iload_n 2, 1) := by decide +kernel
theorem dL_holds_282 : decode cL_holds 282 = .ok (.if_icmp .ne 96, 3) := by decide +kernel
theorem dL_holds_285 : decode cL_holds 285 = .ok (.iload 6, 2) := by decide +kernel
theorem dL_holds_287 : decode cL_holds 287 = .ok (.aload_n 0, 1) := by decide +kernel
theorem dL_holds_288 : decode cL_holds 288 = .ok (.iconst 2, 1) := by decide +kernel
theorem dL_holds_289 : decode cL_holds 289 = .ok (.iconst 3, 1) := by decide +kernel
theorem dL_holds_290 : decode cL_holds 290 = .ok (.iconst 0, 1) := by decide +kernel
theorem dL_holds_291 : decode cL_holds 291 = .ok (.iconst 0, 1) := by decide +kernel
theorem dL_holds_292 : decode cL_holds 292 = .ok (.invokestatic 189, 3) := by decide +kernel
theorem dL_holds_295 : decode cL_holds 295 = .ok (.if_icmp .ne 83, 3) := by decide +kernel
theorem dL_holds_298 : decode cL_holds 298 = .ok (.iload 7, 2) := by decide +kernel
theorem dL_holds_300 : decode cL_holds 300 = .ok (.ifCond .ne 78, 3) := by decide +kernel
theorem dL_holds_303 : decode cL_holds 303 = .ok (.iload 8, 2) := by decide +kernel
theorem dL_holds_305 : decode cL_holds 305 = .ok (.iload 9, 2) := by decide +kernel
theorem dL_holds_307 : decode cL_holds 307 = .ok (.if_icmp .ne 71, 3) := by decide +kernel
theorem dL_holds_310 : decode cL_holds 310 = .ok (.iload 8, 2) := by decide +kernel
theorem dL_holds_312 : decode cL_holds 312 = .ok (.aload_n 0, 1) := by decide +kernel
theorem dL_holds_313 : decode cL_holds 313 = .ok (.iconst 2, 1) := by decide +kernel
theorem dL_holds_314 : decode cL_holds 314 = .ok (.bipush 6, 2) := by decide +kernel
theorem dL_holds_316 : decode cL_holds 316 = .ok (.iconst 0, 1) := by decide +kernel
theorem dL_holds_317 : decode cL_holds 317 = .ok (.iconst 0, 1) := by decide +kernel
theorem dL_holds_318 : decode cL_holds 318 = .ok (.invokestatic 189, 3) := by decide +kernel
theorem dL_holds_321 : decode cL_holds 321 = .ok (.if_icmp .ne 57, 3) := by decide +kernel
theorem dL_holds_324 : decode cL_holds 324 = .ok (.iload 10, 2) := by decide +kernel
theorem dL_holds_326 : decode cL_holds 326 = .ok (.aload_n 0, 1) := by decide +kernel
theorem dL_holds_327 : decode cL_holds 327 = .ok (.iconst 2, 1) := by decide +kernel
theorem dL_holds_328 : decode cL_holds 328 = .ok (.iconst 5, 1) := by decide +kernel
theorem dL_holds_329 : decode cL_holds 329 = .ok (.iconst 0, 1) := by decide +kernel
theorem dL_holds_330 : decode cL_holds 330 = .ok (.iconst 0, 1) := by decide +kernel
theorem dL_holds_331 : decode cL_holds 331 = .ok (.invokestatic 189, 3) := by decide +kernel
theorem dL_holds_334 : decode cL_holds 334 = .ok (.if_icmp .ne 44, 3) := by decide +kernel
theorem dL_holds_337 : decode cL_holds 337 = .ok (.aload_n 0, 1) := by decide +kernel
theorem dL_holds_338 : decode cL_holds 338 = .ok (.iconst 4, 1) := by decide +kernel
theorem dL_holds_339 : decode cL_holds 339 = .ok (.iconst 4, 1) := by decide +kernel
theorem dL_holds_340 : decode cL_holds 340 = .ok (.iconst 4, 1) := by decide +kernel
theorem dL_holds_341 : decode cL_holds 341 = .ok (.iconst 0, 1) := by decide +kernel
theorem dL_holds_342 : decode cL_holds 342 = .ok (.invokestatic 189, 3) := by decide +kernel
theorem dL_holds_345 : decode cL_holds 345 = .ok (.ifCond .ne 33, 3) := by decide +kernel
theorem dL_holds_348 : decode cL_holds 348 = .ok (.aload_n 0, 1) := by decide +kernel
theorem dL_holds_349 : decode cL_holds 349 = .ok (.invokevirtual 214, 3) := by decide +kernel
theorem dL_holds_352 : decode cL_holds 352 = .ok (.iconst (-1), 1) := by decide +kernel
theorem dL_holds_353 : decode cL_holds 353 = .ok (.if_icmp .ne 7, 3) := by decide +kernel
theorem dL_holds_356 : decode cL_holds 356 = .ok (.iconst 1, 1) := by decide +kernel
theorem dL_holds_357 : decode cL_holds 357 = .ok (.goto 4, 3) := by decide +kernel
theorem dL_holds_360 : decode cL_holds 360 = .ok (.iconst 0, 1) := by decide +kernel
theorem dL_holds_361 : decode cL_holds 361 = .ok (.iload 6, 2) := by decide +kernel
theorem dL_holds_363 : decode cL_holds 363 = .ok (.ifCond .ne 7, 3) := by decide +kernel
theorem dL_holds_366 : decode cL_holds 366 = .ok (.iconst 1, 1) := by decide +kernel
theorem dL_holds_367 : decode cL_holds 367 = .ok (.goto 4, 3) := by decide +kernel
theorem dL_holds_370 : decode cL_holds 370 = .ok (.iconst 0, 1) := by decide +kernel
theorem dL_holds_371 : decode cL_holds 371 = .ok (.if_icmp .ne 7, 3) := by decide +kernel
theorem dL_holds_374 : decode cL_holds 374 = .ok (.iconst 1, 1) := by decide +kernel
theorem dL_holds_375 : decode cL_holds 375 = .ok (.goto 4, 3) := by decide +kernel
theorem dL_holds_378 : decode cL_holds 378 = .ok (.iconst 0, 1) := by decide +kernel
theorem dL_holds_379 : decode cL_holds 379 = .ok (.istore 11, 2) := by decide +kernel
theorem dL_holds_381 : decode cL_holds 381 = .ok (.iload_n 1, 1) := by decide +kernel
theorem dL_holds_382 : decode cL_holds 382 = .ok (.iconst 5, 1) := by decide +kernel
theorem dL_holds_383 : decode cL_holds 383 = .ok (.irem, 1) := by decide +kernel
theorem dL_holds_384 : decode cL_holds 384 = .ok (.istore 12, 2) := by decide +kernel
theorem dL_holds_386 : decode cL_holds 386 = .ok (.iload_n 1, 1) := by decide +kernel
theorem dL_holds_387 : decode cL_holds 387 = .ok (.bipush 8, 2) := by decide +kernel
theorem dL_holds_389 : decode cL_holds 389 = .ok (.idiv, 1) := by decide +kernel
theorem dL_holds_390 : decode cL_holds 390 = .ok (.iconst 3, 1) := by decide +kernel
theorem dL_holds_391 : decode cL_holds 391 = .ok (.irem, 1) := by decide +kernel
theorem dL_holds_392 : decode cL_holds 392 = .ok (.istore 13, 2) := by decide +kernel
theorem dL_holds_394 : decode cL_holds 394 = .ok (.aload_n 0, 1) := by decide +kernel
theorem dL_holds_395 : decode cL_holds 395 = .ok (.bipush 18, 2) := by decide +kernel
theorem dL_holds_397 : decode cL_holds 397 = .ok (.iload 12, 2) := by decide +kernel
theorem dL_holds_399 : decode cL_holds 399 = .ok (.iload 13, 2) := by decide +kernel
theorem dL_holds_401 : decode cL_holds 401 = .ok (.iconst 0, 1) := by decide +kernel
theorem dL_holds_402 : decode cL_holds 402 = .ok (.invokestatic 189, 3) := by decide +kernel
theorem dL_holds_405 : decode cL_holds 405 = .ok (.istore 14, 2) := by decide +kernel
theorem dL_holds_407 : decode cL_holds 407 = .ok (.aload_n 0, 1) := by decide +kernel
theorem dL_holds_408 : decode cL_holds 408 = .ok (.bipush 19, 2) := by decide +kernel
theorem dL_holds_410 : decode cL_holds 410 = .ok (.iload 12, 2) := by decide +kernel
theorem dL_holds_412 : decode cL_holds 412 = .ok (.iload 13, 2) := by decide +kernel
theorem dL_holds_414 : decode cL_holds 414 = .ok (.iconst 0, 1) := by decide +kernel
theorem dL_holds_415 : decode cL_holds 415 = .ok (.invokestatic 189, 3) := by decide +kernel
theorem dL_holds_418 : decode cL_holds 418 = .ok (.istore 15, 2) := by decide +kernel
theorem dL_holds_420 : decode cL_holds 420 = .ok (.iconst 0, 1) := by decide +kernel
theorem dL_holds_421 : decode cL_holds 421 = .ok (.istore 16, 2) := by decide +kernel
theorem dL_holds_423 : decode cL_holds 423 = .ok (.iconst 0, 1) := by decide +kernel
theorem dL_holds_424 : decode cL_holds 424 = .ok (.istore 17, 2) := by decide +kernel
theorem dL_holds_426 : decode cL_holds 426 = .ok (.iload 17, 2) := by decide +kernel
theorem dL_holds_428 : decode cL_holds 428 = .ok (.iload_n 2, 1) := by decide +kernel
theorem dL_holds_429 : decode cL_holds 429 = .ok (.if_icmp .ge 61, 3) := by decide +kernel
theorem dL_holds_432 : decode cL_holds 432 = .ok (.iload 16, 2) := by decide +kernel
theorem dL_holds_434 : decode cL_holds 434 = .ok (.aload_n 0, 1) := by decide +kernel
theorem dL_holds_435 : decode cL_holds 435 = .ok (.iconst 3, 1) := by decide +kernel
theorem dL_holds_436 : decode cL_holds 436 = .ok (.iload 17, 2) := by decide +kernel
theorem dL_holds_438 : decode cL_holds 438 = .ok (.iconst 0, 1) := by decide +kernel
theorem dL_holds_439 : decode cL_holds 439 = .ok (.iconst 0, 1) := by decide +kernel
theorem dL_holds_440 : decode cL_holds 440 = .ok (.invokestatic 189, 3) := by decide +kernel
theorem dL_holds_443 : decode cL_holds 443 = .ok (.iload 13, 2) := by decide +kernel
theorem dL_holds_445 : decode cL_holds 445 = .ok (.if_icmp .ne 35, 3) := by decide +kernel
theorem dL_holds_448 : decode cL_holds 448 = .ok (.aload_n 0, 1) := by decide +kernel
theorem dL_holds_449 : decode cL_holds 449 = .ok (.iconst 3, 1) := by decide +kernel
theorem dL_holds_450 : decode cL_holds 450 = .ok (.iload 17, 2) := by decide +kernel
theorem dL_holds_452 : decode cL_holds 452 = .ok (.iconst 2, 1) := by decide +kernel
theorem dL_holds_453 : decode cL_holds 453 = .ok (.iconst 0, 1) := by decide +kernel
theorem dL_holds_454 : decode cL_holds 454 = .ok (.invokestatic 189, 3) := by decide +kernel
theorem dL_holds_457 : decode cL_holds 457 = .ok (.iload 12, 2) := by decide +kernel
theorem dL_holds_459 : decode cL_holds 459 = .ok (.if_icmp .ne 21, 3) := by decide +kernel
theorem dL_holds_462 : decode cL_holds 462 = .ok (.aload_n 0, 1) := by decide +kernel
theorem dL_holds_463 : decode cL_holds 463 = .ok (.iconst 3, 1) := by decide +kernel
theorem dL_holds_464 : decode cL_holds 464 = .ok (.iload 17, 2) := by decide +kernel
theorem dL_holds_466 : decode cL_holds 466 = .ok (.iconst 3, 1) := by decide +kernel
theorem dL_holds_467 : decode cL_holds 467 = .ok (.iconst 0, 1) := by decide +kernel
theorem dL_holds_468 : decode cL_holds 468 = .ok (.invokestatic 189, 3) := by decide +kernel
theorem dL_holds_471 : decode cL_holds 471 = .ok (.bipush 7, 2) := by decide +kernel
theorem dL_holds_473 : decode cL_holds 473 = .ok (.if_icmp .ne 7, 3) := by decide +kernel
theorem dL_holds_476 : decode cL_holds 476 = .ok (.iconst 1, 1) := by decide +kernel
theorem dL_holds_477 : decode cL_holds 477 = .ok (.goto 4, 3) := by decide +kernel
theorem dL_holds_480 : decode cL_holds 480 = .ok (.iconst 0, 1) := by decide +kernel
theorem dL_holds_481 : decode cL_holds 481 = .ok (.iadd, 1) := by decide +kernel
theorem dL_holds_482 : decode cL_holds 482 = .ok (.istore 16, 2) := by decide +kernel
theorem dL_holds_484 : decode cL_holds 484 = .ok (.iinc 17 1, 3) := by decide +kernel
theorem dL_holds_487 : decode cL_holds 487 = .ok (.goto (-61), 3) := by decide +kernel
theorem dL_holds_490 : decode cL_holds 490 = .ok (.iload 11, 2) := by decide +kernel
theorem dL_holds_492 : decode cL_holds 492 = .ok (.ifCond .eq 47, 3) := by decide +kernel
theorem dL_holds_495 : decode cL_holds 495 = .ok (.iload 14, 2) := by decide +kernel
theorem dL_holds_497 : decode cL_holds 497 = .ok (.iload 16, 2) := by decide +kernel
theorem dL_holds_499 : decode cL_holds 499 = .ok (.if_icmp .lt 40, 3) := by decide +kernel
theorem dL_holds_502 : decode cL_holds 502 = .ok (.iload 15, 2) := by decide +kernel
theorem dL_holds_504 : decode cL_holds 504 = .ok (.iconst 3, 1) := by decide +kernel
theorem dL_holds_505 : decode cL_holds 505 = .ok (.iload 14, 2) := by decide +kernel
theorem dL_holds_507 : decode cL_holds 507 = .ok (.imul, 1) := by decide +kernel
theorem dL_holds_508 : decode cL_holds 508 = .ok (.if_icmp .gt 31, 3) := by decide +kernel
theorem dL_holds_511 : decode cL_holds 511 = .ok (.iload 15, 2) := by decide +kernel
theorem dL_holds_513 : decode cL_holds 513 = .ok (.ifCond .gt 10, 3) := by decide +kernel
theorem dL_holds_516 : decode cL_holds 516 = .ok (.iload 14, 2) := by decide +kernel
theorem dL_holds_518 : decode cL_holds 518 = .ok (.iload 16, 2) := by decide +kernel
theorem dL_holds_520 : decode cL_holds 520 = .ok (.if_icmp .ne 19, 3) := by decide +kernel
theorem dL_holds_523 : decode cL_holds 523 = .ok (.iload 14, 2) := by decide +kernel
theorem dL_holds_525 : decode cL_holds 525 = .ok (.iload 16, 2) := by decide +kernel
theorem dL_holds_527 : decode cL_holds 527 = .ok (.if_icmp .gt 8, 3) := by decide +kernel
theorem dL_holds_530 : decode cL_holds 530 = .ok (.iload 15, 2) := by decide +kernel
theorem dL_holds_532 : decode cL_holds 532 = .ok (.ifCond .ne 7, 3) := by decide +kernel
theorem dL_holds_535 : decode cL_holds 535 = .ok (.iconst 1, 1) := by decide +kernel
theorem dL_holds_536 : decode cL_holds 536 = .ok (.goto 4, 3) := by decide +kernel
theorem dL_holds_539 : decode cL_holds 539 = .ok (.iconst 0, 1) := by decide +kernel
theorem dL_holds_540 : decode cL_holds 540 = .ok (.istore 11, 2) := by decide +kernel
theorem dL_holds_542 : decode cL_holds 542 = .ok (.iconst 0, 1) := by decide +kernel
theorem dL_holds_543 : decode cL_holds 543 = .ok (.istore 17, 2) := by decide +kernel
theorem dL_holds_545 : decode cL_holds 545 = .ok (.iconst 0, 1) := by decide +kernel
theorem dL_holds_546 : decode cL_holds 546 = .ok (.istore 18, 2) := by decide +kernel
theorem dL_holds_548 : decode cL_holds 548 = .ok (.iload 18, 2) := by decide +kernel
theorem dL_holds_550 : decode cL_holds 550 = .ok (.bipush 12, 2) := by decide +kernel
theorem dL_holds_552 : decode cL_holds 552 = .ok (.if_icmp .ge 409, 3) := by decide +kernel
theorem dL_holds_555 : decode cL_holds 555 = .ok (.iload 15, 2) := by decide +kernel
theorem dL_holds_557 : decode cL_holds 557 = .ok (.ifCond .le 404, 3) := by decide +kernel
theorem dL_holds_560 : decode cL_holds 560 = .ok (.iload 15, 2) := by decide +kernel
theorem dL_holds_562 : decode cL_holds 562 = .ok (.bipush 12, 2) := by decide +kernel
theorem dL_holds_564 : decode cL_holds 564 = .ok (.if_icmp .gt 397, 3) := by decide +kernel
theorem dL_holds_567 : decode cL_holds 567 = .ok (.iload 17, 2) := by decide +kernel
theorem dL_holds_569 : decode cL_holds 569 = .ok (.iload 15, 2) := by decide +kernel
theorem dL_holds_571 : decode cL_holds 571 = .ok (.if_icmp .ge 390, 3) := by decide +kernel
theorem dL_holds_574 : decode cL_holds 574 = .ok (.iload 11, 2) := by decide +kernel
theorem dL_holds_576 : decode cL_holds 576 = .ok (.ifCond .eq 385, 3) := by decide +kernel
theorem dL_holds_579 : decode cL_holds 579 = .ok (.iconst (-1), 1) := by decide +kernel
theorem dL_holds_580 : decode cL_holds 580 = .ok (.istore 19, 2) := by decide +kernel
theorem dL_holds_582 : decode cL_holds 582 = .ok (.iconst 4, 1) := by decide +kernel
theorem dL_holds_583 : decode cL_holds 583 = .ok (.istore 20, 2) := by decide +kernel
theorem dL_holds_585 : decode cL_holds 585 = .ok (.iconst 0, 1) := by decide +kernel
theorem dL_holds_586 : decode cL_holds 586 = .ok (.istore 21, 2) := by decide +kernel
theorem dL_holds_588 : decode cL_holds 588 = .ok (.iload 21, 2) := by decide +kernel
theorem dL_holds_590 : decode cL_holds 590 = .ok (.iload_n 2, 1) := by decide +kernel
theorem dL_holds_591 : decode cL_holds 591 = .ok (.if_icmp .ge 117, 3) := by decide +kernel
theorem dL_holds_594 : decode cL_holds 594 = .ok (.aload_n 0, 1) := by decide +kernel
theorem dL_holds_595 : decode cL_holds 595 = .ok (.iconst 3, 1) := by decide +kernel
theorem dL_holds_596 : decode cL_holds 596 = .ok (.iload 21, 2) := by decide +kernel
theorem dL_holds_598 : decode cL_holds 598 = .ok (.iconst 3, 1) := by decide +kernel
theorem dL_holds_599 : decode cL_holds 599 = .ok (.iconst 0, 1) := by decide +kernel
theorem dL_holds_600 : decode cL_holds 600 = .ok (.invokestatic 189, 3) := by decide +kernel
theorem dL_holds_603 : decode cL_holds 603 = .ok (.istore 22, 2) := by decide +kernel
theorem dL_holds_605 : decode cL_holds 605 = .ok (.iconst 3, 1) := by decide +kernel
theorem dL_holds_606 : decode cL_holds 606 = .ok (.iload 22, 2) := by decide +kernel
theorem dL_holds_608 : decode cL_holds 608 = .ok (.iconst 1, 1) := by decide +kernel
theorem dL_holds_609 : decode cL_holds 609 = .ok (.iand, 1) := by decide +kernel
theorem dL_holds_610 : decode cL_holds 610 = .ok (.isub, 1) := by decide +kernel
theorem dL_holds_611 : decode cL_holds 611 = .ok (.iload 22, 2) := by decide +kernel
theorem dL_holds_613 : decode cL_holds 613 = .ok (.iconst 1, 1) := by decide +kernel
theorem dL_holds_614 : decode cL_holds 614 = .ok (.ishr, 1) := by decide +kernel
theorem dL_holds_615 : decode cL_holds 615 = .ok (.iconst 1, 1) := by decide +kernel
theorem dL_holds_616 : decode cL_holds 616 = .ok (.iand, 1) := by decide +kernel
theorem dL_holds_617 : decode cL_holds 617 = .ok (.isub, 1) := by decide +kernel
theorem dL_holds_618 : decode cL_holds 618 = .ok (.iload 22, 2) := by decide +kernel
theorem dL_holds_620 : decode cL_holds 620 = .ok (.iconst 2, 1) := by decide +kernel
theorem dL_holds_621 : decode cL_holds 621 = .ok (.ishr, 1) := by decide +kernel
theorem dL_holds_622 : decode cL_holds 622 = .ok (.iconst 1, 1) := by decide +kernel
theorem dL_holds_623 : decode cL_holds 623 = .ok (.iand, 1) := by decide +kernel
theorem dL_holds_624 : decode cL_holds 624 = .ok (.isub, 1) := by decide +kernel
theorem dL_holds_625 : decode cL_holds 625 = .ok (.istore 23, 2) := by decide +kernel
theorem dL_holds_627 : decode cL_holds 627 = .ok (.aload_n 0, 1) := by decide +kernel
theorem dL_holds_628 : decode cL_holds 628 = .ok (.iconst 3, 1) := by decide +kernel
theorem dL_holds_629 : decode cL_holds 629 = .ok (.iload 21, 2) := by decide +kernel
theorem dL_holds_631 : decode cL_holds 631 = .ok (.iconst 0, 1) := by decide +kernel
theorem dL_holds_632 : decode cL_holds 632 = .ok (.iconst 0, 1) := by decide +kernel
theorem dL_holds_633 : decode cL_holds 633 = .ok (.invokestatic 189, 3) := by decide +kernel
theorem dL_holds_636 : decode cL_holds 636 = .ok (.iload 13, 2) := by decide +kernel
theorem dL_holds_638 : decode cL_holds 638 = .ok (.if_icmp .ne 33, 3) := by decide +kernel
theorem dL_holds_641 : decode cL_holds 641 = .ok (.aload_n 0, 1) := by decide +kernel
theorem dL_holds_642 : decode cL_holds 642 = .ok (.iconst 3, 1) := by decide +kernel
theorem dL_holds_643 : decode cL_holds 643 = .ok (.iload 21, 2) := by decide +kernel
theorem dL_holds_645 : decode cL_holds 645 = .ok (.iconst 2, 1) := by decide +kernel
theorem dL_holds_646 : decode cL_holds 646 = .ok (.iconst 0, 1) := by decide +kernel
theorem dL_holds_647 : decode cL_holds 647 = .ok (.invokestatic 189, 3) := by decide +kernel
theorem dL_holds_650 : decode cL_holds 650 = .ok (.iload 12, 2) := by decide +kernel
theorem dL_holds_652 : decode cL_holds 652 = .ok (.if_icmp .ne 19, 3) := by decide +kernel
theorem dL_holds_655 : decode cL_holds 655 = .ok (.iload 23, 2) := by decide +kernel
theorem dL_holds_657 : decode cL_holds 657 = .ok (.ifCond .le 14, 3) := by decide +kernel
theorem dL_holds_660 : decode cL_holds 660 = .ok (.iload 23, 2) := by decide +kernel
theorem dL_holds_662 : decode cL_holds 662 = .ok (.iload 20, 2) := by decide +kernel
theorem dL_holds_664 : decode cL_holds 664 = .ok (.if_icmp .ge 7, 3) := by decide +kernel
theorem dL_holds_667 : decode cL_holds 667 = .ok (.iconst 1, 1) := by decide +kernel
theorem dL_holds_668 : decode cL_holds 668 = .ok (.goto 4, 3) := by decide +kernel
theorem dL_holds_671 : decode cL_holds 671 = .ok (.iconst 0, 1) := by decide +kernel
theorem dL_holds_672 : decode cL_holds 672 = .ok (.istore 24, 2) := by decide +kernel
theorem dL_holds_674 : decode cL_holds 674 = .ok (.iload 24, 2) := by decide +kernel
theorem dL_holds_676 : decode cL_holds 676 = .ok (.ifCond .eq 8, 3) := by decide +kernel
theorem dL_holds_679 : decode cL_holds 679 = .ok (.iload 21, 2) := by decide +kernel
theorem dL_holds_681 : decode cL_holds 681 = .ok (.goto 5, 3) := by decide +kernel
theorem dL_holds_684 : decode cL_holds 684 = .ok (.iload 19, 2) := by decide +kernel
theorem dL_holds_686 : decode cL_holds 686 = .ok (.istore 19, 2) := by decide +kernel
theorem dL_holds_688 : decode cL_holds 688 = .ok (.iload 24, 2) := by decide +kernel
theorem dL_holds_690 : decode cL_holds 690 = .ok (.ifCond .eq 8, 3) := by decide +kernel
theorem dL_holds_693 : decode cL_holds 693 = .ok (.iload 23, 2) := by decide +kernel
theorem dL_holds_695 : decode cL_holds 695 = .ok (.goto 5, 3) := by decide +kernel
theorem dL_holds_698 : decode cL_holds 698 = .ok (.iload 20, 2) := by decide +kernel
theorem dL_holds_700 : decode cL_holds 700 = .ok (.istore 20, 2) := by decide +kernel
theorem dL_holds_702 : decode cL_holds 702 = .ok (.iinc 21 1, 3) := by decide +kernel
theorem dL_holds_705 : decode cL_holds 705 = .ok (.goto (-117), 3) := by decide +kernel
theorem dL_holds_708 : decode cL_holds 708 = .ok (.iload 19, 2) := by decide +kernel
theorem dL_holds_710 : decode cL_holds 710 = .ok (.ifCond .ge 7, 3) := by decide +kernel
theorem dL_holds_713 : decode cL_holds 713 = .ok (.iconst 0, 1) := by decide +kernel
theorem dL_holds_714 : decode cL_holds 714 = .ok (.goto 40, 3) := by decide +kernel
theorem dL_holds_717 : decode cL_holds 717 = .ok (.aload_n 0, 1) := by decide +kernel
theorem dL_holds_718 : decode cL_holds 718 = .ok (.iconst 3, 1) := by decide +kernel
theorem dL_holds_719 : decode cL_holds 719 = .ok (.iload 19, 2) := by decide +kernel
theorem dL_holds_721 : decode cL_holds 721 = .ok (.iconst 3, 1) := by decide +kernel
theorem dL_holds_722 : decode cL_holds 722 = .ok (.iconst 0, 1) := by decide +kernel
theorem dL_holds_723 : decode cL_holds 723 = .ok (.invokestatic 189, 3) := by decide +kernel
theorem dL_holds_726 : decode cL_holds 726 = .ok (.iconst 1, 1) := by decide +kernel
theorem dL_holds_727 : decode cL_holds 727 = .ok (.iand, 1) := by decide +kernel
theorem dL_holds_728 : decode cL_holds 728 = .ok (.ifCond .ne 7, 3) := by decide +kernel
theorem dL_holds_731 : decode cL_holds 731 = .ok (.iconst 0, 1) := by decide +kernel
theorem dL_holds_732 : decode cL_holds 732 = .ok (.goto 22, 3) := by decide +kernel
theorem dL_holds_735 : decode cL_holds 735 = .ok (.aload_n 0, 1) := by decide +kernel
theorem dL_holds_736 : decode cL_holds 736 = .ok (.iconst 3, 1) := by decide +kernel
theorem dL_holds_737 : decode cL_holds 737 = .ok (.iload 19, 2) := by decide +kernel
theorem dL_holds_739 : decode cL_holds 739 = .ok (.iconst 3, 1) := by decide +kernel
theorem dL_holds_740 : decode cL_holds 740 = .ok (.iconst 0, 1) := by decide +kernel
theorem dL_holds_741 : decode cL_holds 741 = .ok (.invokestatic 189, 3) := by decide +kernel
theorem dL_holds_744 : decode cL_holds 744 = .ok (.iconst 2, 1) := by decide +kernel
theorem dL_holds_745 : decode cL_holds 745 = .ok (.iand, 1) := by decide +kernel
theorem dL_holds_746 : decode cL_holds 746 = .ok (.ifCond .ne 7, 3) := by decide +kernel
theorem dL_holds_749 : decode cL_holds 749 = .ok (.iconst 1, 1) := by decide +kernel
theorem dL_holds_750 : decode cL_holds 750 = .ok (.goto 4, 3) := by decide +kernel
theorem dL_holds_753 : decode cL_holds 753 = .ok (.iconst 2, 1) := by decide +kernel
theorem dL_holds_754 : decode cL_holds 754 = .ok (.istore 21, 2) := by decide +kernel
theorem dL_holds_756 : decode cL_holds 756 = .ok (.iconst (-1), 1) := by decide +kernel
theorem dL_holds_757 : decode cL_holds 757 = .ok (.istore 22, 2) := by decide +kernel
theorem dL_holds_759 : decode cL_holds 759 = .ok (.iconst 4, 1) := by decide +kernel
theorem dL_holds_760 : decode cL_holds 760 = .ok (.istore 23, 2) := by decide +kernel
theorem dL_holds_762 : decode cL_holds 762 = .ok (.iconst 0, 1) := by decide +kernel
theorem dL_holds_763 : decode cL_holds 763 = .ok (.istore 24, 2) := by decide +kernel
theorem dL_holds_765 : decode cL_holds 765 = .ok (.iload 24, 2) := by decide +kernel
theorem dL_holds_767 : decode cL_holds 767 = .ok (.iload_n 2, 1) := by decide +kernel
theorem dL_holds_768 : decode cL_holds 768 = .ok (.if_icmp .ge 140, 3) := by decide +kernel
theorem dL_holds_771 : decode cL_holds 771 = .ok (.aload_n 0, 1) := by decide +kernel
theorem dL_holds_772 : decode cL_holds 772 = .ok (.iconst 3, 1) := by decide +kernel
theorem dL_holds_773 : decode cL_holds 773 = .ok (.iload 24, 2) := by decide +kernel
theorem dL_holds_775 : decode cL_holds 775 = .ok (.iconst 3, 1) := by decide +kernel
theorem dL_holds_776 : decode cL_holds 776 = .ok (.iconst 0, 1) := by decide +kernel
theorem dL_holds_777 : decode cL_holds 777 = .ok (.invokestatic 189, 3) := by decide +kernel
theorem dL_holds_780 : decode cL_holds 780 = .ok (.istore 25, 2) := by decide +kernel
theorem dL_holds_782 : decode cL_holds 782 = .ok (.iconst 3, 1) := by decide +kernel
theorem dL_holds_783 : decode cL_holds 783 = .ok (.iload 25, 2) := by decide +kernel
theorem dL_holds_785 : decode cL_holds 785 = .ok (.iconst 1, 1) := by decide +kernel
theorem dL_holds_786 : decode cL_holds 786 = .ok (.iand, 1) := by decide +kernel
theorem dL_holds_787 : decode cL_holds 787 = .ok (.isub, 1) := by decide +kernel
theorem dL_holds_788 : decode cL_holds 788 = .ok (.iload 25, 2) := by decide +kernel
theorem dL_holds_790 : decode cL_holds 790 = .ok (.iconst 1, 1) := by decide +kernel
theorem dL_holds_791 : decode cL_holds 791 = .ok (.ishr, 1) := by decide +kernel
theorem dL_holds_792 : decode cL_holds 792 = .ok (.iconst 1, 1) := by decide +kernel
theorem dL_holds_793 : decode cL_holds 793 = .ok (.iand, 1) := by decide +kernel
theorem dL_holds_794 : decode cL_holds 794 = .ok (.isub, 1) := by decide +kernel
theorem dL_holds_795 : decode cL_holds 795 = .ok (.iload 25, 2) := by decide +kernel
theorem dL_holds_797 : decode cL_holds 797 = .ok (.iconst 2, 1) := by decide +kernel
theorem dL_holds_798 : decode cL_holds 798 = .ok (.ishr, 1) := by decide +kernel
theorem dL_holds_799 : decode cL_holds 799 = .ok (.iconst 1, 1) := by decide +kernel
theorem dL_holds_800 : decode cL_holds 800 = .ok (.iand, 1) := by decide +kernel
theorem dL_holds_801 : decode cL_holds 801 = .ok (.isub, 1) := by decide +kernel
theorem dL_holds_802 : decode cL_holds 802 = .ok (.istore 26, 2) := by decide +kernel
theorem dL_holds_804 : decode cL_holds 804 = .ok (.iload 24, 2) := by decide +kernel
theorem dL_holds_806 : decode cL_holds 806 = .ok (.iload 19, 2) := by decide +kernel
theorem dL_holds_808 : decode cL_holds 808 = .ok (.if_icmp .eq 63, 3) := by decide +kernel
theorem dL_holds_811 : decode cL_holds 811 = .ok (.aload_n 0, 1) := by decide +kernel
theorem dL_holds_812 : decode cL_holds 812 = .ok (.iconst 3, 1) := by decide +kernel
theorem dL_holds_813 : decode cL_holds 813 = .ok (.iload 24, 2) := by decide +kernel
theorem dL_holds_815 : decode cL_holds 815 = .ok (.iconst 0, 1) := by decide +kernel
theorem dL_holds_816 : decode cL_holds 816 = .ok (.iconst 0, 1) := by decide +kernel
theorem dL_holds_817 : decode cL_holds 817 = .ok (.invokestatic 189, 3) := by decide +kernel
theorem dL_holds_820 : decode cL_holds 820 = .ok (.iload 13, 2) := by decide +kernel
theorem dL_holds_822 : decode cL_holds 822 = .ok (.if_icmp .ne 49, 3) := by decide +kernel
theorem dL_holds_825 : decode cL_holds 825 = .ok (.aload_n 0, 1) := by decide +kernel
theorem dL_holds_826 : decode cL_holds 826 = .ok (.iconst 3, 1) := by decide +kernel
theorem dL_holds_827 : decode cL_holds 827 = .ok (.iload 24, 2) := by decide +kernel
theorem dL_holds_829 : decode cL_holds 829 = .ok (.iconst 2, 1) := by decide +kernel
theorem dL_holds_830 : decode cL_holds 830 = .ok (.iconst 0, 1) := by decide +kernel
theorem dL_holds_831 : decode cL_holds 831 = .ok (.invokestatic 189, 3) := by decide +kernel
theorem dL_holds_834 : decode cL_holds 834 = .ok (.iload 12, 2) := by decide +kernel
theorem dL_holds_836 : decode cL_holds 836 = .ok (.if_icmp .ne 35, 3) := by decide +kernel
theorem dL_holds_839 : decode cL_holds 839 = .ok (.iload 25, 2) := by decide +kernel
theorem dL_holds_841 : decode cL_holds 841 = .ok (.iload 21, 2) := by decide +kernel
theorem dL_holds_843 : decode cL_holds 843 = .ok (.ishr, 1) := by decide +kernel
theorem dL_holds_844 : decode cL_holds 844 = .ok (.iconst 1, 1) := by decide +kernel
theorem dL_holds_845 : decode cL_holds 845 = .ok (.iand, 1) := by decide +kernel
theorem dL_holds_846 : decode cL_holds 846 = .ok (.iconst 1, 1) := by decide +kernel
theorem dL_holds_847 : decode cL_holds 847 = .ok (.if_icmp .ne 24, 3) := by decide +kernel
theorem dL_holds_850 : decode cL_holds 850 = .ok (.iload 26, 2) := by decide +kernel
theorem dL_holds_852 : decode cL_holds 852 = .ok (.ifCond .le 19, 3) := by decide +kernel
theorem dL_holds_855 : decode cL_holds 855 = .ok (.iload 22, 2) := by decide +kernel
theorem dL_holds_857 : decode cL_holds 857 = .ok (.ifCond .lt 10, 3) := by decide +kernel
theorem dL_holds_860 : decode cL_holds 860 = .ok (.iload 26, 2) := by decide +kernel
theorem dL_holds_862 : decode cL_holds 862 = .ok (.iload 23, 2) := by decide +kernel
theorem dL_holds_864 : decode cL_holds 864 = .ok (.if_icmp .lt 7, 3) := by decide +kernel
theorem dL_holds_867 : decode cL_holds 867 = .ok (.iconst 1, 1) := by decide +kernel
theorem dL_holds_868 : decode cL_holds 868 = .ok (.goto 4, 3) := by decide +kernel
theorem dL_holds_871 : decode cL_holds 871 = .ok (.iconst 0, 1) := by decide +kernel
theorem dL_holds_872 : decode cL_holds 872 = .ok (.istore 27, 2) := by decide +kernel
theorem dL_holds_874 : decode cL_holds 874 = .ok (.iload 27, 2) := by decide +kernel
theorem dL_holds_876 : decode cL_holds 876 = .ok (.ifCond .eq 8, 3) := by decide +kernel
theorem dL_holds_879 : decode cL_holds 879 = .ok (.iload 24, 2) := by decide +kernel
theorem dL_holds_881 : decode cL_holds 881 = .ok (.goto 5, 3) := by decide +kernel
theorem dL_holds_884 : decode cL_holds 884 = .ok (.iload 22, 2) := by decide +kernel
theorem dL_holds_886 : decode cL_holds 886 = .ok (.istore 22, 2) := by decide +kernel
theorem dL_holds_888 : decode cL_holds 888 = .ok (.iload 27, 2) := by decide +kernel
theorem dL_holds_890 : decode cL_holds 890 = .ok (.ifCond .eq 8, 3) := by decide +kernel
theorem dL_holds_893 : decode cL_holds 893 = .ok (.iload 26, 2) := by decide +kernel
theorem dL_holds_895 : decode cL_holds 895 = .ok (.goto 5, 3) := by decide +kernel
theorem dL_holds_898 : decode cL_holds 898 = .ok (.iload 23, 2) := by decide +kernel
theorem dL_holds_900 : decode cL_holds 900 = .ok (.istore 23, 2) := by decide +kernel
theorem dL_holds_902 : decode cL_holds 902 = .ok (.iinc 24 1, 3) := by decide +kernel
theorem dL_holds_905 : decode cL_holds 905 = .ok (.goto (-140), 3) := by decide +kernel
theorem dL_holds_908 : decode cL_holds 908 = .ok (.iload 19, 2) := by decide +kernel
theorem dL_holds_910 : decode cL_holds 910 = .ok (.ifCond .lt 7, 3) := by decide +kernel
theorem dL_holds_913 : decode cL_holds 913 = .ok (.iconst 1, 1) := by decide +kernel
theorem dL_holds_914 : decode cL_holds 914 = .ok (.goto 4, 3) := by decide +kernel
theorem dL_holds_917 : decode cL_holds 917 = .ok (.iconst 0, 1) := by decide +kernel
theorem dL_holds_918 : decode cL_holds 918 = .ok (.istore 11, 2) := by decide +kernel
theorem dL_holds_920 : decode cL_holds 920 = .ok (.iload 22, 2) := by decide +kernel
theorem dL_holds_922 : decode cL_holds 922 = .ok (.ifCond .lt 33, 3) := by decide +kernel
theorem dL_holds_925 : decode cL_holds 925 = .ok (.iload 11, 2) := by decide +kernel
theorem dL_holds_927 : decode cL_holds 927 = .ok (.ifCond .eq 28, 3) := by decide +kernel
theorem dL_holds_930 : decode cL_holds 930 = .ok (.aload_n 0, 1) := by decide +kernel
theorem dL_holds_931 : decode cL_holds 931 = .ok (.bipush 13, 2) := by decide +kernel
theorem dL_holds_933 : decode cL_holds 933 = .ok (.iload 22, 2) := by decide +kernel
theorem dL_holds_935 : decode cL_holds 935 = .ok (.iload 19, 2) := by decide +kernel
theorem dL_holds_937 : decode cL_holds 937 = .ok (.iload 21, 2) := by decide +kernel
theorem dL_holds_939 : decode cL_holds 939 = .ok (.invokestatic 189, 3) := by decide +kernel
theorem dL_holds_942 : decode cL_holds 942 = .ok (.ifCond .lt 7, 3) := by decide +kernel
theorem dL_holds_945 : decode cL_holds 945 = .ok (.iconst 1, 1) := by decide +kernel
theorem dL_holds_946 : decode cL_holds 946 = .ok (.goto 4, 3) := by decide +kernel
theorem dL_holds_949 : decode cL_holds 949 = .ok (.iconst 0, 1) := by decide +kernel
theorem dL_holds_950 : decode cL_holds 950 = .ok (.istore 11, 2) := by decide +kernel
theorem dL_holds_952 : decode cL_holds 952 = .ok (.iinc 17 1, 3) := by decide +kernel
theorem dL_holds_955 : decode cL_holds 955 = .ok (.iinc 18 1, 3) := by decide +kernel
theorem dL_holds_958 : decode cL_holds 958 = .ok (.goto (-410), 3) := by decide +kernel
theorem dL_holds_961 : decode cL_holds 961 = .ok (.iconst 0, 1) := by decide +kernel
theorem dL_holds_962 : decode cL_holds 962 = .ok (.istore 18, 2) := by decide +kernel
theorem dL_holds_964 : decode cL_holds 964 = .ok (.iload 18, 2) := by decide +kernel
theorem dL_holds_966 : decode cL_holds 966 = .ok (.iload 17, 2) := by decide +kernel
theorem dL_holds_968 : decode cL_holds 968 = .ok (.if_icmp .ge 33, 3) := by decide +kernel
theorem dL_holds_971 : decode cL_holds 971 = .ok (.iload 11, 2) := by decide +kernel
theorem dL_holds_973 : decode cL_holds 973 = .ok (.ifCond .eq 28, 3) := by decide +kernel
theorem dL_holds_976 : decode cL_holds 976 = .ok (.aload_n 0, 1) := by decide +kernel
theorem dL_holds_977 : decode cL_holds 977 = .ok (.bipush 17, 2) := by decide +kernel
theorem dL_holds_979 : decode cL_holds 979 = .ok (.iconst 0, 1) := by decide +kernel
theorem dL_holds_980 : decode cL_holds 980 = .ok (.iconst 0, 1) := by decide +kernel
theorem dL_holds_981 : decode cL_holds 981 = .ok (.iconst 0, 1) := by decide +kernel
theorem dL_holds_982 : decode cL_holds 982 = .ok (.invokestatic 189, 3) := by decide +kernel
theorem dL_holds_985 : decode cL_holds 985 = .ok (.ifCond .lt 7, 3) := by decide +kernel
theorem dL_holds_988 : decode cL_holds 988 = .ok (.iconst 1, 1) := by decide +kernel
theorem dL_holds_989 : decode cL_holds 989 = .ok (.goto 4, 3) := by decide +kernel
theorem dL_holds_992 : decode cL_holds 992 = .ok (.iconst 0, 1) := by decide +kernel
theorem dL_holds_993 : decode cL_holds 993 = .ok (.istore 11, 2) := by decide +kernel
theorem dL_holds_995 : decode cL_holds 995 = .ok (.iinc 18 1, 3) := by decide +kernel
theorem dL_holds_998 : decode cL_holds 998 = .ok (.goto (-34), 3) := by decide +kernel
theorem dL_holds_1001 : decode cL_holds 1001 = .ok (.aload_n 0, 1) := by decide +kernel
theorem dL_holds_1002 : decode cL_holds 1002 = .ok (.bipush 21, 2) := by decide +kernel
theorem dL_holds_1004 : decode cL_holds 1004 = .ok (.iload 12, 2) := by decide +kernel
theorem dL_holds_1006 : decode cL_holds 1006 = .ok (.iload 13, 2) := by decide +kernel
theorem dL_holds_1008 : decode cL_holds 1008 = .ok (.iconst 0, 1) := by decide +kernel
theorem dL_holds_1009 : decode cL_holds 1009 = .ok (.invokestatic 189, 3) := by decide +kernel
theorem dL_holds_1012 : decode cL_holds 1012 = .ok (.istore 18, 2) := by decide +kernel
theorem dL_holds_1014 : decode cL_holds 1014 = .ok (.iload 11, 2) := by decide +kernel
theorem dL_holds_1016 : decode cL_holds 1016 = .ok (.ifCond .eq 61, 3) := by decide +kernel
theorem dL_holds_1019 : decode cL_holds 1019 = .ok (.iload 18, 2) := by decide +kernel
theorem dL_holds_1021 : decode cL_holds 1021 = .ok (.iconst (-1), 1) := by decide +kernel
theorem dL_holds_1022 : decode cL_holds 1022 = .ok (.if_icmp .eq 51, 3) := by decide +kernel
theorem dL_holds_1025 : decode cL_holds 1025 = .ok (.iload 12, 2) := by decide +kernel
theorem dL_holds_1027 : decode cL_holds 1027 = .ok (.iconst 4, 1) := by decide +kernel
theorem dL_holds_1028 : decode cL_holds 1028 = .ok (.if_icmp .ge 49, 3) := by decide +kernel
theorem dL_holds_1031 : decode cL_holds 1031 = .ok (.aload_n 0, 1) := by decide +kernel
theorem dL_holds_1032 : decode cL_holds 1032 = .ok (.iconst 3, 1) := by decide +kernel
theorem dL_holds_1033 : decode cL_holds 1033 = .ok (.iload 18, 2) := by decide +kernel
theorem dL_holds_1035 : decode cL_holds 1035 = .ok (.iconst 1, 1) := by decide +kernel
theorem dL_holds_1036 : decode cL_holds 1036 = .ok (.iconst 0, 1) := by decide +kernel
theorem dL_holds_1037 : decode cL_holds 1037 = .ok (.invokestatic 189, 3) := by decide +kernel
theorem dL_holds_1040 : decode cL_holds 1040 = .ok (.iload 12, 2) := by decide +kernel
theorem dL_holds_1042 : decode cL_holds 1042 = .ok (.if_icmp .ne 35, 3) := by decide +kernel
theorem dL_holds_1045 : decode cL_holds 1045 = .ok (.aload_n 0, 1) := by decide +kernel
theorem dL_holds_1046 : decode cL_holds 1046 = .ok (.iconst 3, 1) := by decide +kernel
theorem dL_holds_1047 : decode cL_holds 1047 = .ok (.iload 18, 2) := by decide +kernel
theorem dL_holds_1049 : decode cL_holds 1049 = .ok (.iconst 2, 1) := by decide +kernel
theorem dL_holds_1050 : decode cL_holds 1050 = .ok (.iconst 0, 1) := by decide +kernel
theorem dL_holds_1051 : decode cL_holds 1051 = .ok (.invokestatic 189, 3) := by decide +kernel
theorem dL_holds_1054 : decode cL_holds 1054 = .ok (.iload 12, 2) := by decide +kernel
theorem dL_holds_1056 : decode cL_holds 1056 = .ok (.if_icmp .ne 21, 3) := by decide +kernel
theorem dL_holds_1059 : decode cL_holds 1059 = .ok (.aload_n 0, 1) := by decide +kernel
theorem dL_holds_1060 : decode cL_holds 1060 = .ok (.iconst 3, 1) := by decide +kernel
theorem dL_holds_1061 : decode cL_holds 1061 = .ok (.iload 18, 2) := by decide +kernel
theorem dL_holds_1063 : decode cL_holds 1063 = .ok (.iconst 0, 1) := by decide +kernel
theorem dL_holds_1064 : decode cL_holds 1064 = .ok (.iconst 0, 1) := by decide +kernel
theorem dL_holds_1065 : decode cL_holds 1065 = .ok (.invokestatic 189, 3) := by decide +kernel
theorem dL_holds_1068 : decode cL_holds 1068 = .ok (.iload 13, 2) := by decide +kernel
theorem dL_holds_1070 : decode cL_holds 1070 = .ok (.if_icmp .ne 7, 3) := by decide +kernel
theorem dL_holds_1073 : decode cL_holds 1073 = .ok (.iconst 1, 1) := by decide +kernel
theorem dL_holds_1074 : decode cL_holds 1074 = .ok (.goto 4, 3) := by decide +kernel
theorem dL_holds_1077 : decode cL_holds 1077 = .ok (.iconst 0, 1) := by decide +kernel
theorem dL_holds_1078 : decode cL_holds 1078 = .ok (.istore 11, 2) := by decide +kernel
theorem dL_holds_1080 : decode cL_holds 1080 = .ok (.aload_n 0, 1) := by decide +kernel
theorem dL_holds_1081 : decode cL_holds 1081 = .ok (.invokevirtual 214, 3) := by decide +kernel
theorem dL_holds_1084 : decode cL_holds 1084 = .ok (.istore 19, 2) := by decide +kernel
theorem dL_holds_1086 : decode cL_holds 1086 = .ok (.iload 19, 2) := by decide +kernel
theorem dL_holds_1088 : decode cL_holds 1088 = .ok (.iconst (-1), 1) := by decide +kernel
theorem dL_holds_1089 : decode cL_holds 1089 = .ok (.if_icmp .eq 120, 3) := by decide +kernel
theorem dL_holds_1092 : decode cL_holds 1092 = .ok (.iload 11, 2) := by decide +kernel
theorem dL_holds_1094 : decode cL_holds 1094 = .ok (.ifCond .eq 115, 3) := by decide +kernel
theorem dL_holds_1097 : decode cL_holds 1097 = .ok (.aload_n 0, 1) := by decide +kernel
theorem dL_holds_1098 : decode cL_holds 1098 = .ok (.iconst 3, 1) := by decide +kernel
theorem dL_holds_1099 : decode cL_holds 1099 = .ok (.iload 19, 2) := by decide +kernel
theorem dL_holds_1101 : decode cL_holds 1101 = .ok (.iconst 5, 1) := by decide +kernel
theorem dL_holds_1102 : decode cL_holds 1102 = .ok (.iconst 0, 1) := by decide +kernel
theorem dL_holds_1103 : decode cL_holds 1103 = .ok (.invokestatic 189, 3) := by decide +kernel
theorem dL_holds_1106 : decode cL_holds 1106 = .ok (.istore 20, 2) := by decide +kernel
theorem dL_holds_1108 : decode cL_holds 1108 = .ok (.aload_n 0, 1) := by decide +kernel
theorem dL_holds_1109 : decode cL_holds 1109 = .ok (.iconst 3, 1) := by decide +kernel
theorem dL_holds_1110 : decode cL_holds 1110 = .ok (.iload 19, 2) := by decide +kernel
theorem dL_holds_1112 : decode cL_holds 1112 = .ok (.iconst 1, 1) := by decide +kernel
theorem dL_holds_1113 : decode cL_holds 1113 = .ok (.iconst 0, 1) := by decide +kernel
theorem dL_holds_1114 : decode cL_holds 1114 = .ok (.invokestatic 189, 3) := by decide +kernel
theorem dL_holds_1117 : decode cL_holds 1117 = .ok (.istore 21, 2) := by decide +kernel
theorem dL_holds_1119 : decode cL_holds 1119 = .ok (.aload_n 0, 1) := by decide +kernel
theorem dL_holds_1120 : decode cL_holds 1120 = .ok (.iconst 4, 1) := by decide +kernel
theorem dL_holds_1121 : decode cL_holds 1121 = .ok (.iload 21, 2) := by decide +kernel
theorem dL_holds_1123 : decode cL_holds 1123 = .ok (.iconst 0, 1) := by decide +kernel
theorem dL_holds_1124 : decode cL_holds 1124 = .ok (.iconst 0, 1) := by decide +kernel
theorem dL_holds_1125 : decode cL_holds 1125 = .ok (.invokestatic 189, 3) := by decide +kernel
theorem dL_holds_1128 : decode cL_holds 1128 = .ok (.istore 22, 2) := by decide +kernel
theorem dL_holds_1130 : decode cL_holds 1130 = .ok (.aload_n 0, 1) := by decide +kernel
theorem dL_holds_1131 : decode cL_holds 1131 = .ok (.bipush 9, 2) := by decide +kernel
theorem dL_holds_1133 : decode cL_holds 1133 = .ok (.iload 19, 2) := by decide +kernel
theorem dL_holds_1135 : decode cL_holds 1135 = .ok (.iconst 0, 1) := by decide +kernel
theorem dL_holds_1136 : decode cL_holds 1136 = .ok (.iconst 0, 1) := by decide +kernel
theorem dL_holds_1137 : decode cL_holds 1137 = .ok (.invokestatic 189, 3) := by decide +kernel
theorem dL_holds_1140 : decode cL_holds 1140 = .ok (.iload 20, 2) := by decide +kernel
theorem dL_holds_1142 : decode cL_holds 1142 = .ok (.if_icmp .ne 64, 3) := by decide +kernel
theorem dL_holds_1145 : decode cL_holds 1145 = .ok (.aload_n 0, 1) := by decide +kernel
theorem dL_holds_1146 : decode cL_holds 1146 = .ok (.iconst 4, 1) := by decide +kernel
theorem dL_holds_1147 : decode cL_holds 1147 = .ok (.iload 21, 2) := by decide +kernel
theorem dL_holds_1149 : decode cL_holds 1149 = .ok (.iconst 0, 1) := by decide +kernel
theorem dL_holds_1150 : decode cL_holds 1150 = .ok (.iconst 0, 1) := by decide +kernel
theorem dL_holds_1151 : decode cL_holds 1151 = .ok (.invokestatic 189, 3) := by decide +kernel
theorem dL_holds_1154 : decode cL_holds 1154 = .ok (.iload 22, 2) := by decide +kernel
theorem dL_holds_1156 : decode cL_holds 1156 = .ok (.iload 20, 2) := by decide +kernel
theorem dL_holds_1158 : decode cL_holds 1158 = .ok (.iadd, 1) := by decide +kernel
theorem dL_holds_1159 : decode cL_holds 1159 = .ok (.if_icmp .ne 47, 3) := by decide +kernel
theorem dL_holds_1162 : decode cL_holds 1162 = .ok (.aload_n 0, 1) := by decide +kernel
theorem dL_holds_1163 : decode cL_holds 1163 = .ok (.iconst 3, 1) := by decide +kernel
theorem dL_holds_1164 : decode cL_holds 1164 = .ok (.iload 19, 2) := by decide +kernel
theorem dL_holds_1166 : decode cL_holds 1166 = .ok (.iconst 2, 1) := by decide +kernel
theorem dL_holds_1167 : decode cL_holds 1167 = .ok (.iconst 0, 1) := by decide +kernel
theorem dL_holds_1168 : decode cL_holds 1168 = .ok (.invokestatic 189, 3) := by decide +kernel
theorem dL_holds_1171 : decode cL_holds 1171 = .ok (.iload 21, 2) := by decide +kernel
theorem dL_holds_1173 : decode cL_holds 1173 = .ok (.if_icmp .ne 33, 3) := by decide +kernel
theorem dL_holds_1176 : decode cL_holds 1176 = .ok (.aload_n 0, 1) := by decide +kernel
theorem dL_holds_1177 : decode cL_holds 1177 = .ok (.bipush 17, 2) := by decide +kernel
theorem dL_holds_1179 : decode cL_holds 1179 = .ok (.iconst 0, 1) := by decide +kernel
theorem dL_holds_1180 : decode cL_holds 1180 = .ok (.iconst 0, 1) := by decide +kernel
theorem dL_holds_1181 : decode cL_holds 1181 = .ok (.iconst 0, 1) := by decide +kernel
theorem dL_holds_1182 : decode cL_holds 1182 = .ok (.invokestatic 189, 3) := by decide +kernel
theorem dL_holds_1185 : decode cL_holds 1185 = .ok (.ifCond .lt 21, 3) := by decide +kernel
theorem dL_holds_1188 : decode cL_holds 1188 = .ok (.aload_n 0, 1) := by decide +kernel
theorem dL_holds_1189 : decode cL_holds 1189 = .ok (.iconst 4, 1) := by decide +kernel
theorem dL_holds_1190 : decode cL_holds 1190 = .ok (.iload 21, 2) := by decide +kernel
theorem dL_holds_1192 : decode cL_holds 1192 = .ok (.iconst 0, 1) := by decide +kernel
theorem dL_holds_1193 : decode cL_holds 1193 = .ok (.iconst 0, 1) := by decide +kernel
theorem dL_holds_1194 : decode cL_holds 1194 = .ok (.invokestatic 189, 3) := by decide +kernel
theorem dL_holds_1197 : decode cL_holds 1197 = .ok (.iload 22, 2) := by decide +kernel
theorem dL_holds_1199 : decode cL_holds 1199 = .ok (.if_icmp .ne 7, 3) := by decide +kernel
theorem dL_holds_1202 : decode cL_holds 1202 = .ok (.iconst 1, 1) := by decide +kernel
theorem dL_holds_1203 : decode cL_holds 1203 = .ok (.goto 4, 3) := by decide +kernel
theorem dL_holds_1206 : decode cL_holds 1206 = .ok (.iconst 0, 1) := by decide +kernel
theorem dL_holds_1207 : decode cL_holds 1207 = .ok (.istore 11, 2) := by decide +kernel
theorem dL_holds_1209 : decode cL_holds 1209 = .ok (.iload 11, 2) := by decide +kernel
theorem dL_holds_1211 : decode cL_holds 1211 = .ok (.ifCond .eq 39, 3) := by decide +kernel
theorem dL_holds_1214 : decode cL_holds 1214 = .ok (.aload_n 0, 1) := by decide +kernel
theorem dL_holds_1215 : decode cL_holds 1215 = .ok (.bipush 18, 2) := by decide +kernel
theorem dL_holds_1217 : decode cL_holds 1217 = .ok (.iload 12, 2) := by decide +kernel
theorem dL_holds_1219 : decode cL_holds 1219 = .ok (.iload 13, 2) := by decide +kernel
theorem dL_holds_1221 : decode cL_holds 1221 = .ok (.iconst 0, 1) := by decide +kernel
theorem dL_holds_1222 : decode cL_holds 1222 = .ok (.invokestatic 189, 3) := by decide +kernel
theorem dL_holds_1225 : decode cL_holds 1225 = .ok (.iload 14, 2) := by decide +kernel
theorem dL_holds_1227 : decode cL_holds 1227 = .ok (.if_icmp .ne 23, 3) := by decide +kernel
theorem dL_holds_1230 : decode cL_holds 1230 = .ok (.aload_n 0, 1) := by decide +kernel
theorem dL_holds_1231 : decode cL_holds 1231 = .ok (.bipush 19, 2) := by decide +kernel
theorem dL_holds_1233 : decode cL_holds 1233 = .ok (.iload 12, 2) := by decide +kernel
theorem dL_holds_1235 : decode cL_holds 1235 = .ok (.iload 13, 2) := by decide +kernel
theorem dL_holds_1237 : decode cL_holds 1237 = .ok (.iconst 0, 1) := by decide +kernel
theorem dL_holds_1238 : decode cL_holds 1238 = .ok (.invokestatic 189, 3) := by decide +kernel
theorem dL_holds_1241 : decode cL_holds 1241 = .ok (.iload 15, 2) := by decide +kernel
theorem dL_holds_1243 : decode cL_holds 1243 = .ok (.if_icmp .ne 7, 3) := by decide +kernel
theorem dL_holds_1246 : decode cL_holds 1246 = .ok (.iconst 1, 1) := by decide +kernel
theorem dL_holds_1247 : decode cL_holds 1247 = .ok (.goto 4, 3) := by decide +kernel
theorem dL_holds_1250 : decode cL_holds 1250 = .ok (.iconst 0, 1) := by decide +kernel
theorem dL_holds_1251 : decode cL_holds 1251 = .ok (.ireturn, 1) := by decide +kernel
