theorem dX9_readCommand_102 : decode cX9_readCommand 102 = .ok (.goto 10, 3) := by decide +kernel
theorem dX9_readCommand_105 : decode cX9_readCommand 105 = .ok (.aload_n 0, 1) := by decide +kernel
theorem dX9_readCommand_106 : decode cX9_readCommand 106 = .ok (.iconst 1, 1) := by decide +kernel
theorem dX9_readCommand_107 : decode cX9_readCommand 107 = .ok (.iconst 0, 1) := by decide +kernel
theorem dX9_readCommand_108 : decode cX9_readCommand 108 = .ok (.iconst 4, 1) := by decide +kernel
theorem dX9_readCommand_109 : decode cX9_readCommand 109 = .ok (.invokevirtual 178, 3) := by decide +kernel
theorem dX9_readCommand_112 : decode cX9_readCommand 112 = .ok (.istore 4, 2) := by decide +kernel
theorem dX9_readCommand_114 : decode cX9_readCommand 114 = .ok (.iload 4, 2) := by decide +kernel
theorem dX9_readCommand_116 : decode cX9_readCommand 116 = .ok (.iconst (-1), 1) := by decide +kernel
theorem dX9_readCommand_117 : decode cX9_readCommand 117 = .ok (.if_icmp .ne 7, 3) := by decide +kernel
theorem dX9_readCommand_120 : decode cX9_readCommand 120 = .ok (.iconst (-1), 1) := by decide +kernel
theorem dX9_readCommand_121 : decode cX9_readCommand 121 = .ok (.goto 11, 3) := by decide +kernel
theorem dX9_readCommand_124 : decode cX9_readCommand 124 = .ok (.aload_n 0, 1) := by decide +kernel
theorem dX9_readCommand_125 : decode cX9_readCommand 125 = .ok (.iconst 1, 1) := by decide +kernel
theorem dX9_readCommand_126 : decode cX9_readCommand 126 = .ok (.iconst 0, 1) := by decide +kernel
theorem dX9_readCommand_127 : decode cX9_readCommand 127 = .ok (.bipush 7, 2) := by decide +kernel
theorem dX9_readCommand_129 : decode cX9_readCommand 129 = .ok (.invokevirtual 178, 3) := by decide +kernel
theorem dX9_readCommand_132 : decode cX9_readCommand 132 = .ok (.istore 5, 2) := by decide +kernel
theorem dX9_readCommand_134 : decode cX9_readCommand 134 = .ok (.goto 170, 3) := by decide +kernel
theorem dX9_readCommand_137 : decode cX9_readCommand 137 = .ok (.aload_n 0, 1) := by decide +kernel
theorem dX9_readCommand_138 : decode cX9_readCommand 138 = .ok (.iconst 2, 1) := by decide +kernel
theorem dX9_readCommand_139 : decode cX9_readCommand 139 = .ok (.iconst 0, 1) := by decide +kernel
theorem dX9_readCommand_140 : decode cX9_readCommand 140 = .ok (.bipush 15, 2) := by decide +kernel
theorem dX9_readCommand_142 : decode cX9_readCommand 142 = .ok (.invokevirtual 178, 3) := by decide +kernel
theorem dX9_readCommand_145 : decode cX9_readCommand 145 = .ok (.istore_n 3, 1) := by decide +kernel
theorem dX9_readCommand_146 : decode cX9_readCommand 146 = .ok (.iload_n 3, 1) := by decide +kernel
theorem dX9_readCommand_147 : decode cX9_readCommand 147 = .ok (.iconst (-1), 1) := by decide +kernel
theorem dX9_readCommand_148 : decode cX9_readCommand 148 = .ok (.if_icmp .ne 7, 3) := by decide +kernel
theorem dX9_readCommand_151 : decode cX9_readCommand 151 = .ok (.iconst (-1), 1) := by decide +kernel
theorem dX9_readCommand_152 : decode cX9_readCommand 152 = .ok (.goto 10, 3) := by decide +kernel
theorem dX9_readCommand_155 : decode cX9_readCommand 155 = .ok (.aload_n 0, 1) := by decide +kernel
theorem dX9_readCommand_156 : decode cX9_readCommand 156 = .ok (.iconst 1, 1) := by decide +kernel
theorem dX9_readCommand_157 : decode cX9_readCommand 157 = .ok (.iconst 0, 1) := by decide +kernel
theorem dX9_readCommand_158 : decode cX9_readCommand 158 = .ok (.iconst 4, 1) := by decide +kernel
theorem dX9_readCommand_159 : decode cX9_readCommand 159 = .ok (.invokevirtual 178, 3) := by decide +kernel
theorem dX9_readCommand_162 : decode cX9_readCommand 162 = .ok (.istore 4, 2) := by decide +kernel
theorem dX9_readCommand_164 : decode cX9_readCommand 164 = .ok (.iload 4, 2) := by decide +kernel
theorem dX9_readCommand_166 : decode cX9_readCommand 166 = .ok (.iconst (-1), 1) := by decide +kernel
theorem dX9_readCommand_167 : decode cX9_readCommand 167 = .ok (.if_icmp .ne 7, 3) := by decide +kernel
theorem dX9_readCommand_170 : decode cX9_readCommand 170 = .ok (.iconst (-1), 1) := by decide +kernel
theorem dX9_readCommand_171 : decode cX9_readCommand 171 = .ok (.goto 11, 3) := by decide +kernel
theorem dX9_readCommand_174 : decode cX9_readCommand 174 = .ok (.aload_n 0, 1) := by decide +kernel
theorem dX9_readCommand_175 : decode cX9_readCommand 175 = .ok (.iconst 2, 1) := by decide +kernel
theorem dX9_readCommand_176 : decode cX9_readCommand 176 = .ok (.iconst 1, 1) := by decide +kernel
theorem dX9_readCommand_177 : decode cX9_readCommand 177 = .ok (.bipush 30, 2) := by decide +kernel
theorem dX9_readCommand_179 : decode cX9_readCommand 179 = .ok (.invokevirtual 178, 3) := by decide +kernel
theorem dX9_readCommand_182 : decode cX9_readCommand 182 = .ok (.istore 5, 2) := by decide +kernel
theorem dX9_readCommand_184 : decode cX9_readCommand 184 = .ok (.goto 120, 3) := by decide +kernel
theorem dX9_readCommand_187 : decode cX9_readCommand 187 = .ok (.aload_n 0, 1) := by decide +kernel
theorem dX9_readCommand_188 : decode cX9_readCommand 188 = .ok (.iconst 2, 1) := by decide +kernel
theorem dX9_readCommand_189 : decode cX9_readCommand 189 = .ok (.iconst 0, 1) := by decide +kernel
theorem dX9_readCommand_190 : decode cX9_readCommand 190 = .ok (.bipush 15, 2) := by decide +kernel
theorem dX9_readCommand_192 : decode cX9_readCommand 192 = .ok (.invokevirtual 178, 3) := by decide +kernel
theorem dX9_readCommand_195 : decode cX9_readCommand 195 = .ok (.istore_n 3, 1) := by decide +kernel
theorem dX9_readCommand_196 : decode cX9_readCommand 196 = .ok (.goto 108, 3) := by decide +kernel
theorem dX9_readCommand_199 : decode cX9_readCommand 199 = .ok (.aload_n 0, 1) := by decide +kernel
theorem dX9_readCommand_200 : decode cX9_readCommand 200 = .ok (.iconst 2, 1) := by decide +kernel
theorem dX9_readCommand_201 : decode cX9_readCommand 201 = .ok (.iconst 0, 1) := by decide +kernel
theorem dX9_readCommand_202 : decode cX9_readCommand 202 = .ok (.bipush 15, 2) := by decide +kernel
theorem dX9_readCommand_204 : decode cX9_readCommand 204 = .ok (.invokevirtual 178, 3) := by decide +kernel
theorem dX9_readCommand_207 : decode cX9_readCommand 207 = .ok (.istore_n 3, 1) := by decide +kernel
theorem dX9_readCommand_208 : decode cX9_readCommand 208 = .ok (.iload_n 3, 1) := by decide +kernel
theorem dX9_readCommand_209 : decode cX9_readCommand 209 = .ok (.iconst (-1), 1) := by decide +kernel
theorem dX9_readCommand_210 : decode cX9_readCommand 210 = .ok (.if_icmp .ne 7, 3) := by decide +kernel
theorem dX9_readCommand_213 : decode cX9_readCommand 213 = .ok (.iconst (-1), 1) := by decide +kernel
theorem dX9_readCommand_214 : decode cX9_readCommand 214 = .ok (.goto 11, 3) := by decide +kernel
theorem dX9_readCommand_217 : decode cX9_readCommand 217 = .ok (.aload_n 0, 1) := by decide +kernel
theorem dX9_readCommand_218 : decode cX9_readCommand 218 = .ok (.iconst 2, 1) := by decide +kernel
theorem dX9_readCommand_219 : decode cX9_readCommand 219 = .ok (.iconst 0, 1) := by decide +kernel
theorem dX9_readCommand_220 : decode cX9_readCommand 220 = .ok (.bipush 15, 2) := by decide +kernel
theorem dX9_readCommand_222 : decode cX9_readCommand 222 = .ok (.invokevirtual 178, 3) := by decide +kernel
theorem dX9_readCommand_225 : decode cX9_readCommand 225 = .ok (.istore 4, 2) := by decide +kernel
theorem dX9_readCommand_227 : decode cX9_readCommand 227 = .ok (.goto 77, 3) := by decide +kernel
theorem dX9_readCommand_230 : decode cX9_readCommand 230 = .ok (.aload_n 0, 1) := by decide +kernel
theorem dX9_readCommand_231 : decode cX9_readCommand 231 = .ok (.iconst 2, 1) := by decide +kernel
theorem dX9_readCommand_232 : decode cX9_readCommand 232 = .ok (.iconst 0, 1) := by decide +kernel
theorem dX9_readCommand_233 : decode cX9_readCommand 233 = .ok (.bipush 15, 2) := by decide +kernel
theorem dX9_readCommand_235 : decode cX9_readCommand 235 = .ok (.invokevirtual 178, 3) := by decide +kernel
theorem dX9_readCommand_238 : decode cX9_readCommand 238 = .ok (.istore_n 3, 1) := by decide +kernel
theorem dX9_readCommand_239 : decode cX9_readCommand 239 = .ok (.iload_n 3, 1) := by decide +kernel
theorem dX9_readCommand_240 : decode cX9_readCommand 240 = .ok (.iconst (-1), 1) := by decide +kernel
theorem dX9_readCommand_241 : decode cX9_readCommand 241 = .ok (.if_icmp .ne 7, 3) := by decide +kernel
theorem dX9_readCommand_244 : decode cX9_readCommand 244 = .ok (.iconst (-1), 1) := by decide +kernel
theorem dX9_readCommand_245 : decode cX9_readCommand 245 = .ok (.goto 11, 3) := by decide +kernel
theorem dX9_readCommand_248 : decode cX9_readCommand 248 = .ok (.aload_n 0, 1) := by decide +kernel
theorem dX9_readCommand_249 : decode cX9_readCommand 249 = .ok (.iconst 2, 1) := by decide +kernel
theorem dX9_readCommand_250 : decode cX9_readCommand 250 = .ok (.iconst 0, 1) := by decide +kernel
theorem dX9_readCommand_251 : decode cX9_readCommand 251 = .ok (.bipush 15, 2) := by decide +kernel
theorem dX9_readCommand_253 : decode cX9_readCommand 253 = .ok (.invokevirtual 178, 3) := by decide +kernel
theorem dX9_readCommand_256 : decode cX9_readCommand 256 = .ok (.istore 4, 2) := by decide +kernel
theorem dX9_readCommand_258 : decode cX9_readCommand 258 = .ok (.iload 4, 2) := by decide +kernel
theorem dX9_readCommand_260 : decode cX9_readCommand 260 = .ok (.iconst (-1), 1) := by decide +kernel
theorem dX9_readCommand_261 : decode cX9_readCommand 261 = .ok (.if_icmp .ne 7, 3) := by decide +kernel
theorem dX9_readCommand_264 : decode cX9_readCommand 264 = .ok (.iconst (-1), 1) := by decide +kernel
theorem dX9_readCommand_265 : decode cX9_readCommand 265 = .ok (.goto 10, 3) := by decide +kernel
theorem dX9_readCommand_268 : decode cX9_readCommand 268 = .ok (.aload_n 0, 1) := by decide +kernel
theorem dX9_readCommand_269 : decode cX9_readCommand 269 = .ok (.iconst 1, 1) := by decide +kernel
theorem dX9_readCommand_270 : decode cX9_readCommand 270 = .ok (.iconst 0, 1) := by decide +kernel
theorem dX9_readCommand_271 : decode cX9_readCommand 271 = .ok (.iconst 2, 1) := by decide +kernel
theorem dX9_readCommand_272 : decode cX9_readCommand 272 = .ok (.invokevirtual 178, 3) := by decide +kernel
theorem dX9_readCommand_275 : decode cX9_readCommand 275 = .ok (.istore 5, 2) := by decide +kernel
theorem dX9_readCommand_277 : decode cX9_readCommand 277 = .ok (.goto 27, 3) := by decide +kernel
theorem dX9_readCommand_280 : decode cX9_readCommand 280 = .ok (.aload_n 0, 1) := by decide +kernel
theorem dX9_readCommand_281 : decode cX9_readCommand 281 = .ok (.iconst 1, 1) := by decide +kernel
theorem dX9_readCommand_282 : decode cX9_readCommand 282 = .ok (.iconst 1, 1) := by decide +kernel
theorem dX9_readCommand_283 : decode cX9_readCommand 283 = .ok (.bipush 9, 2) := by decide +kernel
theorem dX9_readCommand_285 : decode cX9_readCommand 285 = .ok (.invokevirtual 178, 3) := by decide +kernel
theorem dX9_readCommand_288 : decode cX9_readCommand 288 = .ok (.istore_n 3, 1) := by decide +kernel
theorem dX9_readCommand_289 : decode cX9_readCommand 289 = .ok (.goto 15, 3) := by decide +kernel
theorem dX9_readCommand_292 : decode cX9_readCommand 292 = .ok (.aload_n 0, 1) := by decide +kernel
theorem dX9_readCommand_293 : decode cX9_readCommand 293 = .ok (.dup, 1) := by decide +kernel
theorem dX9_readCommand_294 : decode cX9_readCommand 294 = .ok (.getfield 119, 3) := by decide +kernel
theorem dX9_readCommand_297 : decode cX9_readCommand 297 = .ok (.iconst 1, 1) := by decide +kernel
theorem dX9_readCommand_298 : decode cX9_readCommand 298 = .ok (.isub, 1) := by decide +kernel
theorem dX9_readCommand_299 : decode cX9_readCommand 299 = .ok (.putfield 119, 3) := by decide +kernel
theorem dX9_readCommand_302 : decode cX9_readCommand 302 = .ok (.iconst 0, 1) := by decide +kernel
theorem dX9_readCommand_303 : decode cX9_readCommand 303 = .ok (.ireturn, 1) := by decide +kernel
theorem dX9_readCommand_304 : decode cX9_readCommand 304 = .ok (.iload_n 3, 1) := by decide +kernel
theorem dX9_readCommand_305 : decode cX9_readCommand 305 = .ok (.iconst (-1), 1) := by decide +kernel
theorem dX9_readCommand_306 : decode cX9_readCommand 306 = .ok (.if_icmp .eq 15, 3) := by decide +kernel
theorem dX9_readCommand_309 : decode cX9_readCommand 309 = .ok (.iload 4, 2) := by decide +kernel
theorem dX9_readCommand_311 : decode cX9_readCommand 311 = .ok (.iconst (-1), 1) := by decide +kernel
theorem dX9_readCommand_312 : decode cX9_readCommand 312 = .ok (.if_icmp .eq 9, 3) := by decide +kernel
theorem dX9_readCommand_315 : decode cX9_readCommand 315 = .ok (.iload 5, 2) := by decide +kernel
theorem dX9_readCommand_317 : decode cX9_readCommand 317 = .ok (.iconst (-1), 1) := by decide +kernel
theorem dX9_readCommand_318 : decode cX9_readCommand 318 = .ok (.if_icmp .ne 5, 3) := by decide +kernel
theorem dX9_readCommand_321 : decode cX9_readCommand 321 = .ok (.iconst 0, 1) := by decide +kernel
theorem dX9_readCommand_322 : decode cX9_readCommand 322 = .ok (.ireturn, 1) := by decide +kernel
theorem dX9_readCommand_323 : decode cX9_readCommand 323 = .ok (.aload_n 0, 1) := by decide +kernel
theorem dX9_readCommand_324 : decode cX9_readCommand 324 = .ok (.dup, 1) := by decide +kernel
theorem dX9_readCommand_325 : decode cX9_readCommand 325 = .ok (.getfield 182, 3) := by decide +kernel
theorem dX9_readCommand_328 : decode cX9_readCommand 328 = .ok (.aload_n 1, 1) := by decide +kernel
theorem dX9_readCommand_329 : decode cX9_readCommand 329 = .ok (.iload_n 2, 1) := by decide +kernel
theorem dX9_readCommand_330 : decode cX9_readCommand 330 = .ok (.iload_n 3, 1) := by decide +kernel
theorem dX9_readCommand_331 : decode cX9_readCommand 331 = .ok (.iload 4, 2) := by decide +kernel
theorem dX9_readCommand_333 : decode cX9_readCommand 333 = .ok (.iload 5, 2) := by decide +kernel
theorem dX9_readCommand_335 : decode cX9_readCommand 335 = .ok (.invokestatic 185, 3) := by decide +kernel
theorem dX9_readCommand_338 : decode cX9_readCommand 338 = .ok (.ifCond .eq 7, 3) := by decide +kernel
theorem dX9_readCommand_341 : decode cX9_readCommand 341 = .ok (.iconst 0, 1) := by decide +kernel
theorem dX9_readCommand_342 : decode cX9_readCommand 342 = .ok (.goto 4, 3) := by decide +kernel
theorem dX9_readCommand_345 : decode cX9_readCommand 345 = .ok (.iconst 1, 1) := by decide +kernel
theorem dX9_readCommand_346 : decode cX9_readCommand 346 = .ok (.iadd, 1) := by decide +kernel
theorem dX9_readCommand_347 : decode cX9_readCommand 347 = .ok (.putfield 182, 3) := by decide +kernel
theorem dX9_readCommand_350 : decode cX9_readCommand 350 = .ok (.iconst 1, 1) := by decide +kernel
theorem dX9_readCommand_351 : decode cX9_readCommand 351 = .ok (.ireturn, 1) := by decide +kernel
set_option maxRecDepth 20000 in
theorem ggX9_readText_X9_begin : GoodIn wsX9_readText wsX9_begin := goodIn_r _ [8] (by decide +kernel) (by decide +kernel)
set_option maxRecDepth 20000 in
theorem gX9_readText_X9_begin : GoodIn wsX9_readText (va_wsS RX9 29 yX9_begin wsX9_begin) := goodIn_app (goodIn_of _ (by decide +kernel)) ggX9_readText_X9_begin
set_option maxRecDepth 20000 in
theorem ggX9_readText_X9_readCommand : GoodIn wsX9_readText wsX9_readCommand := goodIn_r _ [12, 4, 2, 1, 13, 14, 15, 7, 16, 3, 17, 18, 19, 20, 21, 22, 23, 24, 25, 26, 27, 28, 29, 30, 31, 32, 33, 34, 35, 36, 37, 38, 39, 40, 41, 42, 43, 44, 45, 46, 47, 48, 49, 50, 51, 52, 53, 54, 55, 56, 57, 58, 59, 60, 61, 62, 63, 64, 65, 66, 67, 68, 69, 70, 71, 72, 73, 74, 75, 76, 77, 78, 79, 80, 81, 82, 83, 84, 85, 86, 87, 88, 89, 90, 91, 92, 93, 94, 95, 96, 97, 98, 99, 100, 101, 102, 103, 104, 105, 106, 107, 108, 109, 110, 111, 112, 113, 114, 115, 116, 117, 118, 119, 120, 121, 122, 123, 124, 125, 126, 127, 128, 129, 130, 131, 132, 133, 134, 135, 136, 137, 138, 139, 140, 141, 142, 143, 144] (by decide +kernel) (by decide +kernel)
set_option maxRecDepth 20000 in
theorem gX9_readText_X9_readCommand : GoodIn wsX9_readText (wsV RX9 189 RX9 yX9_readCommand wsX9_readCommand) := goodIn_app (goodIn_of _ (by decide +kernel)) ggX9_readText_X9_readCommand
theorem dX9_readText_0 : decode cX9_readText 0 = .ok (.aload_n 1, 1) := by decide +kernel
theorem dX9_readText_1 : decode cX9_readText 1 = .ok (.invokestatic 29, 3) := by decide +kernel
theorem dX9_readText_4 : decode cX9_readText 4 = .ok (.aload_n 0, 1) := by decide +kernel
theorem dX9_readText_5 : decode cX9_readText 5 = .ok (.iconst 0, 1) := by decide +kernel
theorem dX9_readText_6 : decode cX9_readText 6 = .ok (.putfield 182, 3) := by decide +kernel
theorem dX9_readText_9 : decode cX9_readText 9 = .ok (.aload_n 0, 1) := by decide +kernel
theorem dX9_readText_10 : decode cX9_readText 10 = .ok (.iconst 0, 1) := by decide +kernel
theorem dX9_readText_11 : decode cX9_readText 11 = .ok (.putfield 119, 3) := by decide +kernel
theorem dX9_readText_14 : decode cX9_readText 14 = .ok (.aload_n 0, 1) := by decide +kernel
theorem dX9_readText_15 : decode cX9_readText 15 = .ok (.getfield 113, 3) := by decide +kernel
theorem dX9_readText_18 : decode cX9_readText 18 = .ok (.ifCond .eq 14, 3) := by decide +kernel
theorem dX9_readText_21 : decode cX9_readText 21 = .ok (.aload_n 0, 1) := by decide +kernel
theorem dX9_readText_22 : decode cX9_readText 22 = .ok (.getfield 7, 3) := by decide +kernel
theorem dX9_readText_25 : decode cX9_readText 25 = .ok (.iconst 0, 1) := by decide +kernel
theorem dX9_readText_26 : decode cX9_readText 26 = .ok (.iaload, 1) := by decide +kernel
theorem dX9_readText_27 : decode cX9_readText 27 = .ok (.bipush 85, 2) := by decide +kernel
theorem dX9_readText_29 : decode cX9_readText 29 = .ok (.if_icmp .eq 5, 3) := by decide +kernel
theorem dX9_readText_32 : decode cX9_readText 32 = .ok (.iconst 0, 1) := by decide +kernel
theorem dX9_readText_33 : decode cX9_readText 33 = .ok (.ireturn, 1) := by decide +kernel
theorem dX9_readText_34 : decode cX9_readText 34 = .ok (.aload_n 0, 1) := by decide +kernel
theorem dX9_readText_35 : decode cX9_readText 35 = .ok (.iconst 1, 1) := by decide +kernel
theorem dX9_readText_36 : decode cX9_readText 36 = .ok (.putfield 119, 3) := by decide +kernel
theorem dX9_readText_39 : decode cX9_readText 39 = .ok (.aload_n 0, 1) := by decide +kernel
theorem dX9_readText_40 : decode cX9_readText 40 = .ok (.getfield 119, 3) := by decide +kernel
theorem dX9_readText_43 : decode cX9_readText 43 = .ok (.aload_n 0, 1) := by decide +kernel
theorem dX9_readText_44 : decode cX9_readText 44 = .ok (.getfield 113, 3) := by decide +kernel
theorem dX9_readText_47 : decode cX9_readText 47 = .ok (.if_icmp .ge 16, 3) := by decide +kernel
theorem dX9_readText_50 : decode cX9_readText 50 = .ok (.aload_n 0, 1) := by decide +kernel
theorem dX9_readText_51 : decode cX9_readText 51 = .ok (.aload_n 1, 1) := by decide +kernel
theorem dX9_readText_52 : decode cX9_readText 52 = .ok (.invokevirtual 189, 3) := by decide +kernel
theorem dX9_readText_55 : decode cX9_readText 55 = .ok (.ifCond .ne (-16), 3) := by decide +kernel
theorem dX9_readText_58 : decode cX9_readText 58 = .ok (.aload_n 0, 1) := by decide +kernel
theorem dX9_readText_59 : decode cX9_readText 59 = .ok (.getfield 119, 3) := by decide +kernel
theorem dX9_readText_62 : decode cX9_readText 62 = .ok (.ireturn, 1) := by decide +kernel
theorem dX9_readText_63 : decode cX9_readText 63 = .ok (.iconst (-1), 1) := by decide +kernel
theorem dX9_readText_64 : decode cX9_readText 64 = .ok (.ireturn, 1) := by decide +kernel
set_option maxRecDepth 20000 in
theorem ggX9_errorPosition_X9_readText : GoodIn wsX9_errorPosition wsX9_readText := goodIn_r _ [7, 8, 9, 10, 11, 12, 13, 6, 14, 15, 16, 17, 18, 19, 20, 21, 22, 23, 24, 25, 26, 27, 28, 29, 30, 31, 32, 33, 34, 35, 36, 37, 38, 39, 40, 41, 42, 43, 44, 45, 46, 47, 48, 49, 50, 51, 52, 53, 54, 55, 56, 57, 58, 59, 60, 61, 62, 63, 64, 65, 66, 67, 68, 69, 70, 71, 72, 73, 74, 75, 76, 77, 78, 79, 80, 81, 82, 83, 84, 85, 86, 87, 88, 89, 90, 91, 92, 93, 94, 95, 96, 97, 98, 99, 100, 101, 102, 103, 104, 105, 106, 107, 108, 109, 110, 111, 112, 113, 114, 115, 116, 117, 118, 119, 120, 121, 122, 123, 124, 125, 126, 127, 128, 129, 130, 131, 132, 133, 134, 135, 136, 137, 138, 139, 140, 141, 142, 143, 144, 145, 146, 147, 148, 149, 150] (by decide +kernel) (by decide +kernel)
set_option maxRecDepth 20000 in
theorem gX9_errorPosition_X9_readText : GoodIn wsX9_errorPosition (wsV RX9 193 RX9 yX9_readText wsX9_readText) := goodIn_app (goodIn_of _ (by decide +kernel)) ggX9_errorPosition_X9_readText
theorem dX9_errorPosition_0 : decode cX9_errorPosition 0 = .ok (.aload_n 0, 1) := by decide +kernel
theorem dX9_errorPosition_1 : decode cX9_errorPosition 1 = .ok (.iconst 0, 1) := by decide +kernel
theorem dX9_errorPosition_2 : decode cX9_errorPosition 2 = .ok (.putfield 33, 3) := by decide +kernel
theorem dX9_errorPosition_5 : decode cX9_errorPosition 5 = .ok (.aload_n 0, 1) := by decide +kernel
theorem dX9_errorPosition_6 : decode cX9_errorPosition 6 = .ok (.aload_n 0, 1) := by decide +kernel
theorem dX9_errorPosition_7 : decode cX9_errorPosition 7 = .ok (.getfield 16, 3) := by decide +kernel
theorem dX9_errorPosition_10 : decode cX9_errorPosition 10 = .ok (.invokevirtual 193, 3) := by decide +kernel
theorem dX9_errorPosition_13 : decode cX9_errorPosition 13 = .ok (.ireturn, 1) := by decide +kernel
set_option maxRecDepth 20000 in
theorem ggX9_load_X9_readText : GoodIn wsX9_load wsX9_readText := goodIn_r _ [10, 5, 11, 12, 13, 14, 15, 9, 16, 17, 18, 19, 20, 21, 22, 23, 24, 25, 26, 27, 28, 29, 30, 31, 32, 33, 34, 35, 36, 37, 38, 39, 40, 41, 42, 43, 44, 45, 46, 47, 48, 49, 50, 51, 52, 53, 54, 55, 56, 57, 58, 59, 60, 61, 62, 63, 64, 65, 66, 67, 68, 69, 70, 71, 72, 73, 74, 75, 76, 77, 78, 79, 80, 81, 82, 83, 84, 85, 86, 87, 88, 89, 90, 91, 92, 93, 94, 95, 96, 97, 98, 99, 100, 101, 102, 103, 104, 105, 106, 107, 108, 109, 110, 111, 112, 113, 114, 115, 116, 117, 118, 119, 120, 121, 122, 123, 124, 125, 126, 127, 128, 129, 130, 131, 132, 133, 134, 135, 136, 137, 138, 139, 140, 141, 150, 151, 152, 153, 154, 155, 156, 157, 158, 159, 160] (by decide +kernel) (by decide +kernel)
set_option maxRecDepth 20000 in
theorem gX9_load_X9_readText : GoodIn wsX9_load (wsV RX9 193 RX9 yX9_readText wsX9_readText) := goodIn_app (goodIn_of _ (by decide +kernel)) ggX9_load_X9_readText
set_option maxRecDepth 20000 in
theorem ggX9_load_X9_refused : GoodIn wsX9_load wsX9_refused := goodIn_r _ [145, 146, 150, 151, 152, 153, 154, 155, 156, 157, 158, 159, 160] (by decide +kernel) (by decide +kernel)
set_option maxRecDepth 20000 in
theorem gX9_load_X9_refused : GoodIn wsX9_load (wsV RX9 116 RX9 yX9_refused wsX9_refused) := goodIn_app (goodIn_of _ (by decide +kernel)) ggX9_load_X9_refused
set_option maxRecDepth 20000 in
theorem ggX9_load_X9_copyState : GoodIn wsX9_load wsX9_copyState := goodIn_r _ [149] (by decide +kernel) (by decide +kernel)
set_option maxRecDepth 20000 in
theorem gX9_load_X9_copyState : GoodIn wsX9_load (va_wsS RX9 197 yX9_copyState wsX9_copyState) := goodIn_app (goodIn_of _ (by decide +kernel)) ggX9_load_X9_copyState
theorem dX9_load_0 : decode cX9_load 0 = .ok (.aload_n 0, 1) := by decide +kernel
theorem dX9_load_1 : decode cX9_load 1 = .ok (.aload_n 0, 1) := by decide +kernel
theorem dX9_load_2 : decode cX9_load 2 = .ok (.aload_n 0, 1) := by decide +kernel
theorem dX9_load_3 : decode cX9_load 3 = .ok (.getfield 16, 3) := by decide +kernel
theorem dX9_load_6 : decode cX9_load 6 = .ok (.invokevirtual 193, 3) := by decide +kernel
theorem dX9_load_9 : decode cX9_load 9 = .ok (.iconst (-1), 1) := by decide +kernel
theorem dX9_load_10 : decode cX9_load 10 = .ok (.if_icmp .ne 7, 3) := by decide +kernel
theorem dX9_load_13 : decode cX9_load 13 = .ok (.iconst 0, 1) := by decide +kernel
theorem dX9_load_14 : decode cX9_load 14 = .ok (.goto 4, 3) := by decide +kernel
theorem dX9_load_17 : decode cX9_load 17 = .ok (.iconst 1, 1) := by decide +kernel
theorem dX9_load_18 : decode cX9_load 18 = .ok (.invokevirtual 116, 3) := by decide +kernel
theorem dX9_load_21 : decode cX9_load 21 = .ok (.ifCond .eq 5, 3) := by decide +kernel
theorem dX9_load_24 : decode cX9_load 24 = .ok (.iconst 0, 1) := by decide +kernel
theorem dX9_load_25 : decode cX9_load 25 = .ok (.ireturn, 1) := by decide +kernel
theorem dX9_load_26 : decode cX9_load 26 = .ok (.aload_n 0, 1) := by decide +kernel
theorem dX9_load_27 : decode cX9_load 27 = .ok (.getfield 16, 3) := by decide +kernel
theorem dX9_load_30 : decode cX9_load 30 = .ok (.iconst 0, 1) := by decide +kernel
theorem dX9_load_31 : decode cX9_load 31 = .ok (.aload_n 0, 1) := by decide +kernel
theorem dX9_load_32 : decode cX9_load 32 = .ok (.getfield 13, 3) := by decide +kernel
theorem dX9_load_35 : decode cX9_load 35 = .ok (.iconst 0, 1) := by decide +kernel
theorem dX9_load_36 : decode cX9_load 36 = .ok (.invokestatic 197, 3) := by decide +kernel
theorem dX9_load_39 : decode cX9_load 39 = .ok (.aload_n 0, 1) := by decide +kernel
theorem dX9_load_40 : decode cX9_load 40 = .ok (.iconst 0, 1) := by decide +kernel
theorem dX9_load_41 : decode cX9_load 41 = .ok (.putfield 201, 3) := by decide +kernel
theorem dX9_load_44 : decode cX9_load 44 = .ok (.aload_n 0, 1) := by decide +kernel
theorem dX9_load_45 : decode cX9_load 45 = .ok (.getfield 25, 3) := by decide +kernel
theorem dX9_load_48 : decode cX9_load 48 = .ok (.iconst 0, 1) := by decide +kernel
theorem dX9_load_49 : decode cX9_load 49 = .ok (.iconst 0, 1) := by decide +kernel
theorem dX9_load_50 : decode cX9_load 50 = .ok (.bastore, 1) := by decide +kernel
theorem dX9_load_51 : decode cX9_load 51 = .ok (.aload_n 0, 1) := by decide +kernel
theorem dX9_load_52 : decode cX9_load 52 = .ok (.getfield 25, 3) := by decide +kernel
theorem dX9_load_55 : decode cX9_load 55 = .ok (.iconst 1, 1) := by decide +kernel
theorem dX9_load_56 : decode cX9_load 56 = .ok (.iconst 0, 1) := by decide +kernel
theorem dX9_load_57 : decode cX9_load 57 = .ok (.bastore, 1) := by decide +kernel
theorem dX9_load_58 : decode cX9_load 58 = .ok (.aload_n 0, 1) := by decide +kernel
theorem dX9_load_59 : decode cX9_load 59 = .ok (.getfield 182, 3) := by decide +kernel
theorem dX9_load_62 : decode cX9_load 62 = .ok (.ireturn, 1) := by decide +kernel
set_option maxRecDepth 20000 in
theorem ggX9_usable_X9_of : GoodIn wsX9_usable wsX9_of := goodIn_r _ [4] (by decide +kernel) (by decide +kernel)
set_option maxRecDepth 20000 in
theorem gX9_usable_X9_of : GoodIn wsX9_usable (va_wsS RX9 45 yX9_of wsX9_of) := goodIn_app (goodIn_of _ (by decide +kernel)) ggX9_usable_X9_of
theorem dX9_usable_0 : decode cX9_usable 0 = .ok (.iconst 0, 1) := by decide +kernel
theorem dX9_usable_1 : decode cX9_usable 1 = .ok (.istore_n 1, 1) := by decide +kernel
theorem dX9_usable_2 : decode cX9_usable 2 = .ok (.iconst 0, 1) := by decide +kernel
theorem dX9_usable_3 : decode cX9_usable 3 = .ok (.istore_n 2, 1) := by decide +kernel
theorem dX9_usable_4 : decode cX9_usable 4 = .ok (.iload_n 2, 1) := by decide +kernel
theorem dX9_usable_5 : decode cX9_usable 5 = .ok (.aload_n 0, 1) := by decide +kernel
theorem dX9_usable_6 : decode cX9_usable 6 = .ok (.iconst 1, 1) := by decide +kernel
theorem dX9_usable_7 : decode cX9_usable 7 = .ok (.iaload, 1) := by decide +kernel
theorem dX9_usable_8 : decode cX9_usable 8 = .ok (.if_icmp .ge 28, 3) := by decide +kernel
theorem dX9_usable_11 : decode cX9_usable 11 = .ok (.iload_n 1, 1) := by decide +kernel
theorem dX9_usable_12 : decode cX9_usable 12 = .ok (.aload_n 0, 1) := by decide +kernel
theorem dX9_usable_13 : decode cX9_usable 13 = .ok (.iload_n 2, 1) := by decide +kernel
theorem dX9_usable_14 : decode cX9_usable 14 = .ok (.iconst 3, 1) := by decide +kernel
theorem dX9_usable_15 : decode cX9_usable 15 = .ok (.invokestatic 45, 3) := by decide +kernel
theorem dX9_usable_18 : decode cX9_usable 18 = .ok (.bipush 7, 2) := by decide +kernel
theorem dX9_usable_20 : decode cX9_usable 20 = .ok (.if_icmp .ne 7, 3) := by decide +kernel
theorem dX9_usable_23 : decode cX9_usable 23 = .ok (.iconst 1, 1) := by decide +kernel
theorem dX9_usable_24 : decode cX9_usable 24 = .ok (.goto 4, 3) := by decide +kernel
theorem dX9_usable_27 : decode cX9_usable 27 = .ok (.iconst 0, 1) := by decide +kernel
theorem dX9_usable_28 : decode cX9_usable 28 = .ok (.iadd, 1) := by decide +kernel
theorem dX9_usable_29 : decode cX9_usable 29 = .ok (.istore_n 1, 1) := by decide +kernel
theorem dX9_usable_30 : decode cX9_usable 30 = .ok (.iinc 2 1, 3) := by decide +kernel
theorem dX9_usable_33 : decode cX9_usable 33 = .ok (.goto (-29), 3) := by decide +kernel
theorem dX9_usable_36 : decode cX9_usable 36 = .ok (.iload_n 1, 1) := by decide +kernel
theorem dX9_usable_37 : decode cX9_usable 37 = .ok (.ireturn, 1) := by decide +kernel
set_option maxRecDepth 20000 in
theorem ggX9_coresOwed_X9_coresAt : GoodIn wsX9_coresOwed wsX9_coresAt := goodIn_r _ [4] (by decide +kernel) (by decide +kernel)
set_option maxRecDepth 20000 in
theorem gX9_coresOwed_X9_coresAt : GoodIn wsX9_coresOwed (va_wsS RX9 97 yX9_coresAt wsX9_coresAt) := goodIn_app (goodIn_of _ (by decide +kernel)) ggX9_coresOwed_X9_coresAt
theorem dX9_coresOwed_0 : decode cX9_coresOwed 0 = .ok (.iconst 0, 1) := by decide +kernel
theorem dX9_coresOwed_1 : decode cX9_coresOwed 1 = .ok (.istore_n 1, 1) := by decide +kernel
theorem dX9_coresOwed_2 : decode cX9_coresOwed 2 = .ok (.iconst 0, 1) := by decide +kernel
theorem dX9_coresOwed_3 : decode cX9_coresOwed 3 = .ok (.istore_n 2, 1) := by decide +kernel
theorem dX9_coresOwed_4 : decode cX9_coresOwed 4 = .ok (.iload_n 2, 1) := by decide +kernel
theorem dX9_coresOwed_5 : decode cX9_coresOwed 5 = .ok (.iconst 5, 1) := by decide +kernel
theorem dX9_coresOwed_6 : decode cX9_coresOwed 6 = .ok (.if_icmp .ge 18, 3) := by decide +kernel
theorem dX9_coresOwed_9 : decode cX9_coresOwed 9 = .ok (.iload_n 1, 1) := by decide +kernel
theorem dX9_coresOwed_10 : decode cX9_coresOwed 10 = .ok (.aload_n 0, 1) := by decide +kernel
theorem dX9_coresOwed_11 : decode cX9_coresOwed 11 = .ok (.iload_n 2, 1) := by decide +kernel
theorem dX9_coresOwed_12 : decode cX9_coresOwed 12 = .ok (.invokestatic 97, 3) := by decide +kernel
theorem dX9_coresOwed_15 : decode cX9_coresOwed 15 = .ok (.iaload, 1) := by decide +kernel
theorem dX9_coresOwed_16 : decode cX9_coresOwed 16 = .ok (.iadd, 1) := by decide +kernel
theorem dX9_coresOwed_17 : decode cX9_coresOwed 17 = .ok (.istore_n 1, 1) := by decide +kernel
theorem dX9_coresOwed_18 : decode cX9_coresOwed 18 = .ok (.iinc 2 1, 3) := by decide +kernel
theorem dX9_coresOwed_21 : decode cX9_coresOwed 21 = .ok (.goto (-17), 3) := by decide +kernel
theorem dX9_coresOwed_24 : decode cX9_coresOwed 24 = .ok (.iload_n 1, 1) := by decide +kernel
theorem dX9_coresOwed_25 : decode cX9_coresOwed 25 = .ok (.ireturn, 1) := by decide +kernel
set_option maxRecDepth 20000 in
theorem ggX9_partsOwed_X9_owedAt : GoodIn wsX9_partsOwed wsX9_owedAt := goodIn_r _ [4] (by decide +kernel) (by decide +kernel)
set_option maxRecDepth 20000 in
theorem gX9_partsOwed_X9_owedAt : GoodIn wsX9_partsOwed (va_wsS RX9 107 yX9_owedAt wsX9_owedAt) := goodIn_app (goodIn_of _ (by decide +kernel)) ggX9_partsOwed_X9_owedAt
theorem dX9_partsOwed_0 : decode cX9_partsOwed 0 = .ok (.iconst 0, 1) := by decide +kernel
theorem dX9_partsOwed_1 : decode cX9_partsOwed 1 = .ok (.istore_n 3, 1) := by decide +kernel
theorem dX9_partsOwed_2 : decode cX9_partsOwed 2 = .ok (.iconst 0, 1) := by decide +kernel
theorem dX9_partsOwed_3 : decode cX9_partsOwed 3 = .ok (.istore 4, 2) := by decide +kernel
theorem dX9_partsOwed_5 : decode cX9_partsOwed 5 = .ok (.iload 4, 2) := by decide +kernel
theorem dX9_partsOwed_7 : decode cX9_partsOwed 7 = .ok (.iconst 5, 1) := by decide +kernel
theorem dX9_partsOwed_8 : decode cX9_partsOwed 8 = .ok (.if_icmp .ge 79, 3) := by decide +kernel
theorem dX9_partsOwed_11 : decode cX9_partsOwed 11 = .ok (.iconst 0, 1) := by decide +kernel
theorem dX9_partsOwed_12 : decode cX9_partsOwed 12 = .ok (.istore 5, 2) := by decide +kernel
theorem dX9_partsOwed_14 : decode cX9_partsOwed 14 = .ok (.iload 5, 2) := by decide +kernel
theorem dX9_partsOwed_16 : decode cX9_partsOwed 16 = .ok (.iconst 5, 1) := by decide +kernel
theorem dX9_partsOwed_17 : decode cX9_partsOwed 17 = .ok (.if_icmp .ge 64, 3) := by decide +kernel
theorem dX9_partsOwed_20 : decode cX9_partsOwed 20 = .ok (.iconst 0, 1) := by decide +kernel
theorem dX9_partsOwed_21 : decode cX9_partsOwed 21 = .ok (.istore 6, 2) := by decide +kernel
theorem dX9_partsOwed_23 : decode cX9_partsOwed 23 = .ok (.iload 6, 2) := by decide +kernel
theorem dX9_partsOwed_25 : decode cX9_partsOwed 25 = .ok (.bipush 9, 2) := by decide +kernel
theorem dX9_partsOwed_27 : decode cX9_partsOwed 27 = .ok (.if_icmp .ge 48, 3) := by decide +kernel
theorem dX9_partsOwed_30 : decode cX9_partsOwed 30 = .ok (.iload_n 1, 1) := by decide +kernel
theorem dX9_partsOwed_31 : decode cX9_partsOwed 31 = .ok (.iconst (-1), 1) := by decide +kernel
theorem dX9_partsOwed_32 : decode cX9_partsOwed 32 = .ok (.if_icmp .eq 9, 3) := by decide +kernel
theorem dX9_partsOwed_35 : decode cX9_partsOwed 35 = .ok (.iload_n 1, 1) := by decide +kernel
theorem dX9_partsOwed_36 : decode cX9_partsOwed 36 = .ok (.iload 4, 2) := by decide +kernel
theorem dX9_partsOwed_38 : decode cX9_partsOwed 38 = .ok (.if_icmp .ne 37, 3) := by decide +kernel
theorem dX9_partsOwed_41 : decode cX9_partsOwed 41 = .ok (.iload_n 2, 1) := by decide +kernel
theorem dX9_partsOwed_42 : decode cX9_partsOwed 42 = .ok (.iconst (-1), 1) := by decide +kernel
theorem dX9_partsOwed_43 : decode cX9_partsOwed 43 = .ok (.if_icmp .eq 9, 3) := by decide +kernel
theorem dX9_partsOwed_46 : decode cX9_partsOwed 46 = .ok (.iload_n 2, 1) := by decide +kernel
theorem dX9_partsOwed_47 : decode cX9_partsOwed 47 = .ok (.iload 5, 2) := by decide +kernel
theorem dX9_partsOwed_49 : decode cX9_partsOwed 49 = .ok (.if_icmp .ne 26, 3) := by decide +kernel
theorem dX9_partsOwed_52 : decode cX9_partsOwed 52 = .ok (.iload_n 3, 1) := by decide +kernel
theorem dX9_partsOwed_53 : decode cX9_partsOwed 53 = .ok (.aload_n 0, 1) := by decide +kernel
theorem dX9_partsOwed_54 : decode cX9_partsOwed 54 = .ok (.iload 4, 2) := by decide +kernel
theorem dX9_partsOwed_56 : decode cX9_partsOwed 56 = .ok (.iload 5, 2) := by decide +kernel
theorem dX9_partsOwed_58 : decode cX9_partsOwed 58 = .ok (.iconst 0, 1) := by decide +kernel
theorem dX9_partsOwed_59 : decode cX9_partsOwed 59 = .ok (.iconst 0, 1) := by decide +kernel
theorem dX9_partsOwed_60 : decode cX9_partsOwed 60 = .ok (.invokestatic 107, 3) := by decide +kernel
theorem dX9_partsOwed_63 : decode cX9_partsOwed 63 = .ok (.iload 6, 2) := by decide +kernel
theorem dX9_partsOwed_65 : decode cX9_partsOwed 65 = .ok (.iadd, 1) := by decide +kernel
theorem dX9_partsOwed_66 : decode cX9_partsOwed 66 = .ok (.iaload, 1) := by decide +kernel
theorem dX9_partsOwed_67 : decode cX9_partsOwed 67 = .ok (.iadd, 1) := by decide +kernel
theorem dX9_partsOwed_68 : decode cX9_partsOwed 68 = .ok (.istore_n 3, 1) := by decide +kernel
theorem dX9_partsOwed_69 : decode cX9_partsOwed 69 = .ok (.iinc 6 1, 3) := by decide +kernel
theorem dX9_partsOwed_72 : decode cX9_partsOwed 72 = .ok (.goto (-49), 3) := by decide +kernel
theorem dX9_partsOwed_75 : decode cX9_partsOwed 75 = .ok (.iinc 5 1, 3) := by decide +kernel
theorem dX9_partsOwed_78 : decode cX9_partsOwed 78 = .ok (.goto (-64), 3) := by decide +kernel
theorem dX9_partsOwed_81 : decode cX9_partsOwed 81 = .ok (.iinc 4 1, 3) := by decide +kernel
theorem dX9_partsOwed_84 : decode cX9_partsOwed 84 = .ok (.goto (-79), 3) := by decide +kernel
theorem dX9_partsOwed_87 : decode cX9_partsOwed 87 = .ok (.iload_n 3, 1) := by decide +kernel
theorem dX9_partsOwed_88 : decode cX9_partsOwed 88 = .ok (.ireturn, 1) := by decide +kernel
set_option maxRecDepth 20000 in
theorem ggX9_about_X9_in : GoodIn wsX9_about wsX9_in := goodIn_r _ [6] (by decide +kernel) (by decide +kernel)
set_option maxRecDepth 20000 in
theorem gX9_about_X9_in : GoodIn wsX9_about (va_wsS RX9 37 yX9_in wsX9_in) := goodIn_app (goodIn_of _ (by decide +kernel)) ggX9_about_X9_in
set_option maxRecDepth 20000 in
theorem ggX9_about_X9_refused : GoodIn wsX9_about wsX9_refused := goodIn_r _ [10, 11, 33, 34, 35, 36, 37, 38, 39, 40, 41, 42, 43] (by decide +kernel) (by decide +kernel)
set_option maxRecDepth 20000 in
theorem gX9_about_X9_refused : GoodIn wsX9_about (wsV RX9 116 RX9 yX9_refused wsX9_refused) := goodIn_app (goodIn_of _ (by decide +kernel)) ggX9_about_X9_refused
set_option maxRecDepth 20000 in
theorem ggX9_about_X9_isFree : GoodIn wsX9_about wsX9_isFree := goodIn_r _ [14, 15, 16, 5, 17] (by decide +kernel) (by decide +kernel)
set_option maxRecDepth 20000 in
theorem gX9_about_X9_isFree : GoodIn wsX9_about (va_wsS RX9 49 yX9_isFree wsX9_isFree) := goodIn_app (goodIn_of _ (by decide +kernel)) ggX9_about_X9_isFree
set_option maxRecDepth 20000 in
theorem ggX9_about_X9_of : GoodIn wsX9_about wsX9_of := goodIn_r _ [17] (by decide +kernel) (by decide +kernel)
set_option maxRecDepth 20000 in
theorem gX9_about_X9_of : GoodIn wsX9_about (va_wsS RX9 45 yX9_of wsX9_of) := goodIn_app (goodIn_of _ (by decide +kernel)) ggX9_about_X9_of
set_option maxRecDepth 20000 in
theorem ggX9_about_X9_usable : GoodIn wsX9_about wsX9_usable := goodIn_r _ [20, 15, 16, 5, 17] (by decide +kernel) (by decide +kernel)
set_option maxRecDepth 20000 in
theorem gX9_about_X9_usable : GoodIn wsX9_about (va_wsS RX9 204 yX9_usable wsX9_usable) := goodIn_app (goodIn_of _ (by decide +kernel)) ggX9_about_X9_usable
set_option maxRecDepth 20000 in
theorem ggX9_about_X9_coresOwed : GoodIn wsX9_about wsX9_coresOwed := goodIn_r _ [23, 24, 25, 5, 26] (by decide +kernel) (by decide +kernel)
set_option maxRecDepth 20000 in
theorem gX9_about_X9_coresOwed : GoodIn wsX9_about (va_wsS RX9 207 yX9_coresOwed wsX9_coresOwed) := goodIn_app (goodIn_of _ (by decide +kernel)) ggX9_about_X9_coresOwed
set_option maxRecDepth 20000 in
theorem ggX9_about_X9_partsOwed : GoodIn wsX9_about wsX9_partsOwed := goodIn_r _ [29, 30, 31, 5, 32] (by decide +kernel) (by decide +kernel)
set_option maxRecDepth 20000 in
theorem gX9_about_X9_partsOwed : GoodIn wsX9_about (va_wsS RX9 210 yX9_partsOwed wsX9_partsOwed) := goodIn_app (goodIn_of _ (by decide +kernel)) ggX9_about_X9_partsOwed
theorem dX9_about_0 : decode cX9_about 0 = .ok (.aload_n 0, 1) := by decide +kernel
theorem dX9_about_1 : decode cX9_about 1 = .ok (.iload_n 1, 1) := by decide +kernel
theorem dX9_about_2 : decode cX9_about 2 = .ok (.i2l, 1) := by decide +kernel
theorem dX9_about_3 : decode cX9_about 3 = .ok (.lconst 0, 1) := by decide +kernel
theorem dX9_about_4 : decode cX9_about 4 = .ok (.ldc2_w 122, 3) := by decide +kernel
theorem dX9_about_7 : decode cX9_about 7 = .ok (.invokestatic 37, 3) := by decide +kernel
theorem dX9_about_10 : decode cX9_about 10 = .ok (.ifCond .eq 7, 3) := by decide +kernel
theorem dX9_about_13 : decode cX9_about 13 = .ok (.iconst 0, 1) := by decide +kernel
theorem dX9_about_14 : decode cX9_about 14 = .ok (.goto 4, 3) := by decide +kernel
theorem dX9_about_17 : decode cX9_about 17 = .ok (.iconst 1, 1) := by decide +kernel
theorem dX9_about_18 : decode cX9_about 18 = .ok (.invokevirtual 116, 3) := by decide +kernel
theorem dX9_about_21 : decode cX9_about 21 = .ok (.ifCond .eq 5, 3) := by decide +kernel
theorem dX9_about_24 : decode cX9_about 24 = .ok (.iconst 0, 1) := by decide +kernel
theorem dX9_about_25 : decode cX9_about 25 = .ok (.ireturn, 1) := by decide +kernel
theorem dX9_about_26 : decode cX9_about 26 = .ok (.iconst 0, 1) := by decide +kernel
theorem dX9_about_27 : decode cX9_about 27 = .ok (.istore_n 2, 1) := by decide +kernel
theorem dX9_about_28 : decode cX9_about 28 = .ok (.iconst 0, 1) := by decide +kernel
theorem dX9_about_29 : decode cX9_about 29 = .ok (.istore_n 3, 1) := by decide +kernel
theorem dX9_about_30 : decode cX9_about 30 = .ok (.iconst 0, 1) := by decide +kernel
theorem dX9_about_31 : decode cX9_about 31 = .ok (.istore 4, 2) := by decide +kernel
theorem dX9_about_33 : decode cX9_about 33 = .ok (.iload 4, 2) := by decide +kernel
theorem dX9_about_35 : decode cX9_about 35 = .ok (.aload_n 0, 1) := by decide +kernel
theorem dX9_about_36 : decode cX9_about 36 = .ok (.getfield 13, 3) := by decide +kernel
theorem dX9_about_39 : decode cX9_about 39 = .ok (.iconst 1, 1) := by decide +kernel
theorem dX9_about_40 : decode cX9_about 40 = .ok (.iaload, 1) := by decide +kernel
theorem dX9_about_41 : decode cX9_about 41 = .ok (.if_icmp .ge 68, 3) := by decide +kernel
theorem dX9_about_44 : decode cX9_about 44 = .ok (.iload_n 2, 1) := by decide +kernel
theorem dX9_about_45 : decode cX9_about 45 = .ok (.aload_n 0, 1) := by decide +kernel
theorem dX9_about_46 : decode cX9_about 46 = .ok (.getfield 13, 3) := by decide +kernel
theorem dX9_about_49 : decode cX9_about 49 = .ok (.iload 4, 2) := by decide +kernel
theorem dX9_about_51 : decode cX9_about 51 = .ok (.invokestatic 49, 3) := by decide +kernel
theorem dX9_about_54 : decode cX9_about 54 = .ok (.ifCond .eq 7, 3) := by decide +kernel
theorem dX9_about_57 : decode cX9_about 57 = .ok (.iconst 0, 1) := by decide +kernel
theorem dX9_about_58 : decode cX9_about 58 = .ok (.goto 4, 3) := by decide +kernel
theorem dX9_about_61 : decode cX9_about 61 = .ok (.iconst 1, 1) := by decide +kernel
theorem dX9_about_62 : decode cX9_about 62 = .ok (.iadd, 1) := by decide +kernel
theorem dX9_about_63 : decode cX9_about 63 = .ok (.istore_n 2, 1) := by decide +kernel
theorem dX9_about_64 : decode cX9_about 64 = .ok (.iload_n 3, 1) := by decide +kernel
theorem dX9_about_65 : decode cX9_about 65 = .ok (.aload_n 0, 1) := by decide +kernel
theorem dX9_about_66 : decode cX9_about 66 = .ok (.getfield 13, 3) := by decide +kernel
theorem dX9_about_69 : decode cX9_about 69 = .ok (.iload 4, 2) := by decide +kernel
theorem dX9_about_71 : decode cX9_about 71 = .ok (.invokestatic 49, 3) := by decide +kernel
theorem dX9_about_74 : decode cX9_about 74 = .ok (.ifCond .ne 26, 3) := by decide +kernel
theorem dX9_about_77 : decode cX9_about 77 = .ok (.aload_n 0, 1) := by decide +kernel
theorem dX9_about_78 : decode cX9_about 78 = .ok (.getfield 13, 3) := by decide +kernel
theorem dX9_about_81 : decode cX9_about 81 = .ok (.iload 4, 2) := by decide +kernel
theorem dX9_about_83 : decode cX9_about 83 = .ok (.iconst 4, 1) := by decide +kernel
theorem dX9_about_84 : decode cX9_about 84 = .ok (.invokestatic 45, 3) := by decide +kernel
theorem dX9_about_87 : decode cX9_about 87 = .ok (.aload_n 0, 1) := by decide +kernel
theorem dX9_about_88 : decode cX9_about 88 = .ok (.getfield 13, 3) := by decide +kernel
theorem dX9_about_91 : decode cX9_about 91 = .ok (.iconst 0, 1) := by decide +kernel
theorem dX9_about_92 : decode cX9_about 92 = .ok (.iaload, 1) := by decide +kernel
theorem dX9_about_93 : decode cX9_about 93 = .ok (.if_icmp .ge 7, 3) := by decide +kernel
theorem dX9_about_96 : decode cX9_about 96 = .ok (.iconst 1, 1) := by decide +kernel
theorem dX9_about_97 : decode cX9_about 97 = .ok (.goto 4, 3) := by decide +kernel
theorem dX9_about_100 : decode cX9_about 100 = .ok (.iconst 0, 1) := by decide +kernel
theorem dX9_about_101 : decode cX9_about 101 = .ok (.iadd, 1) := by decide +kernel
theorem dX9_about_102 : decode cX9_about 102 = .ok (.istore_n 3, 1) := by decide +kernel
theorem dX9_about_103 : decode cX9_about 103 = .ok (.iinc 4 1, 3) := by decide +kernel
theorem dX9_about_106 : decode cX9_about 106 = .ok (.goto (-73), 3) := by decide +kernel
theorem dX9_about_109 : decode cX9_about 109 = .ok (.iload_n 1, 1) := by decide +kernel
theorem dX9_about_110 : decode cX9_about 110 = .ok (.tableswitch 103 0 8 #[50, 50, 57, 65, 67, 69, 77, 87, 95], 50) := by decide +kernel
theorem dX9_about_160 : decode cX9_about 160 = .ok (.aload_n 0, 1) := by decide +kernel
theorem dX9_about_161 : decode cX9_about 161 = .ok (.getfield 13, 3) := by decide +kernel
theorem dX9_about_164 : decode cX9_about 164 = .ok (.iload_n 1, 1) := by decide +kernel
theorem dX9_about_165 : decode cX9_about 165 = .ok (.iaload, 1) := by decide +kernel
theorem dX9_about_166 : decode cX9_about 166 = .ok (.ireturn, 1) := by decide +kernel
theorem dX9_about_167 : decode cX9_about 167 = .ok (.aload_n 0, 1) := by decide +kernel
theorem dX9_about_168 : decode cX9_about 168 = .ok (.getfield 13, 3) := by decide +kernel
theorem dX9_about_171 : decode cX9_about 171 = .ok (.invokestatic 204, 3) := by decide +kernel
theorem dX9_about_174 : decode cX9_about 174 = .ok (.ireturn, 1) := by decide +kernel
theorem dX9_about_175 : decode cX9_about 175 = .ok (.iload_n 2, 1) := by decide +kernel
theorem dX9_about_176 : decode cX9_about 176 = .ok (.ireturn, 1) := by decide +kernel
theorem dX9_about_177 : decode cX9_about 177 = .ok (.iload_n 3, 1) := by decide +kernel
theorem dX9_about_178 : decode cX9_about 178 = .ok (.ireturn, 1) := by decide +kernel
theorem dX9_about_179 : decode cX9_about 179 = .ok (.aload_n 0, 1) := by decide +kernel
theorem dX9_about_180 : decode cX9_about 180 = .ok (.getfield 13, 3) := by decide +kernel
theorem dX9_about_183 : decode cX9_about 183 = .ok (.invokestatic 207, 3) := by decide +kernel
theorem dX9_about_186 : decode cX9_about 186 = .ok (.ireturn, 1) := by decide +kernel
theorem dX9_about_187 : decode cX9_about 187 = .ok (.aload_n 0, 1) := by decide +kernel
theorem dX9_about_188 : decode cX9_about 188 = .ok (.getfield 13, 3) := by decide +kernel
theorem dX9_about_191 : decode cX9_about 191 = .ok (.iconst (-1), 1) := by decide +kernel
theorem dX9_about_192 : decode cX9_about 192 = .ok (.iconst (-1), 1) := by decide +kernel
theorem dX9_about_193 : decode cX9_about 193 = .ok (.invokestatic 210, 3) := by decide +kernel
theorem dX9_about_196 : decode cX9_about 196 = .ok (.ireturn, 1) := by decide +kernel
theorem dX9_about_197 : decode cX9_about 197 = .ok (.aload_n 0, 1) := by decide +kernel
theorem dX9_about_198 : decode cX9_about 198 = .ok (.getfield 13, 3) := by decide +kernel
theorem dX9_about_201 : decode cX9_about 201 = .ok (.bipush 6, 2) := by decide +kernel
theorem dX9_about_203 : decode cX9_about 203 = .ok (.iaload, 1) := by decide +kernel
theorem dX9_about_204 : decode cX9_about 204 = .ok (.ireturn, 1) := by decide +kernel
theorem dX9_about_205 : decode cX9_about 205 = .ok (.aload_n 0, 1) := by decide +kernel
theorem dX9_about_206 : decode cX9_about 206 = .ok (.getfield 13, 3) := by decide +kernel
theorem dX9_about_209 : decode cX9_about 209 = .ok (.bipush 7, 2) := by decide +kernel
theorem dX9_about_211 : decode cX9_about 211 = .ok (.iaload, 1) := by decide +kernel
theorem dX9_about_212 : decode cX9_about 212 = .ok (.ireturn, 1) := by decide +kernel
theorem dX9_about_213 : decode cX9_about 213 = .ok (.aload_n 0, 1) := by decide +kernel
theorem dX9_about_214 : decode cX9_about 214 = .ok (.getfield 13, 3) := by decide +kernel
theorem dX9_about_217 : decode cX9_about 217 = .ok (.iconst 5, 1) := by decide +kernel
theorem dX9_about_218 : decode cX9_about 218 = .ok (.iaload, 1) := by decide +kernel
theorem dX9_about_219 : decode cX9_about 219 = .ok (.ireturn, 1) := by decide +kernel
set_option maxRecDepth 20000 in
theorem ggX9_unit_X9_isUnit : GoodIn wsX9_unit wsX9_isUnit := goodIn_r _ [6, 7, 8, 5, 9] (by decide +kernel) (by decide +kernel)
set_option maxRecDepth 20000 in
theorem gX9_unit_X9_isUnit : GoodIn wsX9_unit (va_wsS RX9 69 yX9_isUnit wsX9_isUnit) := goodIn_app (goodIn_of _ (by decide +kernel)) ggX9_unit_X9_isUnit
set_option maxRecDepth 20000 in
theorem ggX9_unit_X9_in : GoodIn wsX9_unit wsX9_in := goodIn_r _ [9] (by decide +kernel) (by decide +kernel)
set_option maxRecDepth 20000 in
theorem gX9_unit_X9_in : GoodIn wsX9_unit (va_wsS RX9 37 yX9_in wsX9_in) := goodIn_app (goodIn_of _ (by decide +kernel)) ggX9_unit_X9_in
set_option maxRecDepth 20000 in
theorem ggX9_unit_X9_refused : GoodIn wsX9_unit wsX9_refused := goodIn_r _ [13, 14, 27, 28, 29, 30, 31, 32, 33, 34, 35, 36, 37] (by decide +kernel) (by decide +kernel)
set_option maxRecDepth 20000 in
theorem gX9_unit_X9_refused : GoodIn wsX9_unit (wsV RX9 116 RX9 yX9_refused wsX9_refused) := goodIn_app (goodIn_of _ (by decide +kernel)) ggX9_unit_X9_refused
set_option maxRecDepth 20000 in
theorem ggX9_unit_X9_of : GoodIn wsX9_unit wsX9_of := goodIn_r _ [17] (by decide +kernel) (by decide +kernel)
set_option maxRecDepth 20000 in
theorem gX9_unit_X9_of : GoodIn wsX9_unit (va_wsS RX9 45 yX9_of wsX9_of) := goodIn_app (goodIn_of _ (by decide +kernel)) ggX9_unit_X9_of
set_option maxRecDepth 20000 in
theorem ggX9_unit_X9_lateOf : GoodIn wsX9_unit wsX9_lateOf := goodIn_r _ [20, 21, 22, 5, 23, 15, 16, 17, 24, 25, 26] (by decide +kernel) (by decide +kernel)
set_option maxRecDepth 20000 in
theorem gX9_unit_X9_lateOf : GoodIn wsX9_unit (va_wsS RX9 74 yX9_lateOf wsX9_lateOf) := goodIn_app (goodIn_of _ (by decide +kernel)) ggX9_unit_X9_lateOf
set_option maxRecDepth 20000 in
theorem ggX9_unit_X9_isFree : GoodIn wsX9_unit wsX9_isFree := goodIn_r _ [23, 15, 16, 5, 17] (by decide +kernel) (by decide +kernel)
set_option maxRecDepth 20000 in
theorem gX9_unit_X9_isFree : GoodIn wsX9_unit (va_wsS RX9 49 yX9_isFree wsX9_isFree) := goodIn_app (goodIn_of _ (by decide +kernel)) ggX9_unit_X9_isFree
theorem dX9_unit_0 : decode cX9_unit 0 = .ok (.aload_n 0, 1) := by decide +kernel
theorem dX9_unit_1 : decode cX9_unit 1 = .ok (.aload_n 0, 1) := by decide +kernel
theorem dX9_unit_2 : decode cX9_unit 2 = .ok (.getfield 13, 3) := by decide +kernel
theorem dX9_unit_5 : decode cX9_unit 5 = .ok (.iload_n 1, 1) := by decide +kernel
theorem dX9_unit_6 : decode cX9_unit 6 = .ok (.invokestatic 69, 3) := by decide +kernel
theorem dX9_unit_9 : decode cX9_unit 9 = .ok (.ifCond .ne 7, 3) := by decide +kernel
theorem dX9_unit_12 : decode cX9_unit 12 = .ok (.iconst 1, 1) := by decide +kernel
theorem dX9_unit_13 : decode cX9_unit 13 = .ok (.goto 20, 3) := by decide +kernel
theorem dX9_unit_16 : decode cX9_unit 16 = .ok (.iload_n 2, 1) := by decide +kernel
theorem dX9_unit_17 : decode cX9_unit 17 = .ok (.i2l, 1) := by decide +kernel
theorem dX9_unit_18 : decode cX9_unit 18 = .ok (.lconst 0, 1) := by decide +kernel
theorem dX9_unit_19 : decode cX9_unit 19 = .ok (.ldc2_w 213, 3) := by decide +kernel
theorem dX9_unit_22 : decode cX9_unit 22 = .ok (.invokestatic 37, 3) := by decide +kernel
theorem dX9_unit_25 : decode cX9_unit 25 = .ok (.ifCond .eq 7, 3) := by decide +kernel
theorem dX9_unit_28 : decode cX9_unit 28 = .ok (.iconst 0, 1) := by decide +kernel
theorem dX9_unit_29 : decode cX9_unit 29 = .ok (.goto 4, 3) := by decide +kernel
theorem dX9_unit_32 : decode cX9_unit 32 = .ok (.iconst 2, 1) := by decide +kernel
theorem dX9_unit_33 : decode cX9_unit 33 = .ok (.invokevirtual 116, 3) := by decide +kernel
theorem dX9_unit_36 : decode cX9_unit 36 = .ok (.ifCond .eq 5, 3) := by decide +kernel
theorem dX9_unit_39 : decode cX9_unit 39 = .ok (.iconst 0, 1) := by decide +kernel
theorem dX9_unit_40 : decode cX9_unit 40 = .ok (.ireturn, 1) := by decide +kernel
theorem dX9_unit_41 : decode cX9_unit 41 = .ok (.iload_n 2, 1) := by decide +kernel
theorem dX9_unit_42 : decode cX9_unit 42 = .ok (.iconst 4, 1) := by decide +kernel
theorem dX9_unit_43 : decode cX9_unit 43 = .ok (.if_icmp .ge 15, 3) := by decide +kernel
theorem dX9_unit_46 : decode cX9_unit 46 = .ok (.aload_n 0, 1) := by decide +kernel
theorem dX9_unit_47 : decode cX9_unit 47 = .ok (.getfield 13, 3) := by decide +kernel
theorem dX9_unit_50 : decode cX9_unit 50 = .ok (.iload_n 1, 1) := by decide +kernel
theorem dX9_unit_51 : decode cX9_unit 51 = .ok (.iload_n 2, 1) := by decide +kernel
theorem dX9_unit_52 : decode cX9_unit 52 = .ok (.invokestatic 45, 3) := by decide +kernel
theorem dX9_unit_55 : decode cX9_unit 55 = .ok (.goto 44, 3) := by decide +kernel
theorem dX9_unit_58 : decode cX9_unit 58 = .ok (.iload_n 2, 1) := by decide +kernel
theorem dX9_unit_59 : decode cX9_unit 59 = .ok (.iconst 5, 1) := by decide +kernel
theorem dX9_unit_60 : decode cX9_unit 60 = .ok (.if_icmp .ne 15, 3) := by decide +kernel
theorem dX9_unit_63 : decode cX9_unit 63 = .ok (.aload_n 0, 1) := by decide +kernel
theorem dX9_unit_64 : decode cX9_unit 64 = .ok (.getfield 13, 3) := by decide +kernel
theorem dX9_unit_67 : decode cX9_unit 67 = .ok (.iload_n 1, 1) := by decide +kernel
theorem dX9_unit_68 : decode cX9_unit 68 = .ok (.iconst 0, 1) := by decide +kernel
theorem dX9_unit_69 : decode cX9_unit 69 = .ok (.invokestatic 74, 3) := by decide +kernel
theorem dX9_unit_72 : decode cX9_unit 72 = .ok (.goto 27, 3) := by decide +kernel
theorem dX9_unit_75 : decode cX9_unit 75 = .ok (.aload_n 0, 1) := by decide +kernel
theorem dX9_unit_76 : decode cX9_unit 76 = .ok (.getfield 13, 3) := by decide +kernel
theorem dX9_unit_79 : decode cX9_unit 79 = .ok (.iload_n 1, 1) := by decide +kernel
theorem dX9_unit_80 : decode cX9_unit 80 = .ok (.invokestatic 49, 3) := by decide +kernel
theorem dX9_unit_83 : decode cX9_unit 83 = .ok (.ifCond .eq 7, 3) := by decide +kernel
theorem dX9_unit_86 : decode cX9_unit 86 = .ok (.iconst (-1), 1) := by decide +kernel
theorem dX9_unit_87 : decode cX9_unit 87 = .ok (.goto 12, 3) := by decide +kernel
theorem dX9_unit_90 : decode cX9_unit 90 = .ok (.aload_n 0, 1) := by decide +kernel
theorem dX9_unit_91 : decode cX9_unit 91 = .ok (.getfield 13, 3) := by decide +kernel
theorem dX9_unit_94 : decode cX9_unit 94 = .ok (.iload_n 1, 1) := by decide +kernel
theorem dX9_unit_95 : decode cX9_unit 95 = .ok (.iconst 4, 1) := by decide +kernel
theorem dX9_unit_96 : decode cX9_unit 96 = .ok (.invokestatic 45, 3) := by decide +kernel
theorem dX9_unit_99 : decode cX9_unit 99 = .ok (.ireturn, 1) := by decide +kernel
set_option maxRecDepth 20000 in
theorem ggX9_holder_X9_isHolder : GoodIn wsX9_holder wsX9_isHolder := goodIn_r _ [6, 7, 8, 9, 5, 10] (by decide +kernel) (by decide +kernel)
set_option maxRecDepth 20000 in
theorem gX9_holder_X9_isHolder : GoodIn wsX9_holder (va_wsS RX9 60 yX9_isHolder wsX9_isHolder) := goodIn_app (goodIn_of _ (by decide +kernel)) ggX9_holder_X9_isHolder
set_option maxRecDepth 20000 in
theorem ggX9_holder_X9_in : GoodIn wsX9_holder wsX9_in := goodIn_r _ [10] (by decide +kernel) (by decide +kernel)
set_option maxRecDepth 20000 in
theorem gX9_holder_X9_in : GoodIn wsX9_holder (va_wsS RX9 37 yX9_in wsX9_in) := goodIn_app (goodIn_of _ (by decide +kernel)) ggX9_holder_X9_in
set_option maxRecDepth 20000 in
theorem ggX9_holder_X9_refused : GoodIn wsX9_holder wsX9_refused := goodIn_r _ [14, 15, 28, 29, 30, 31, 32, 33, 34, 35, 36, 37, 38] (by decide +kernel) (by decide +kernel)
set_option maxRecDepth 20000 in
theorem gX9_holder_X9_refused : GoodIn wsX9_holder (wsV RX9 116 RX9 yX9_refused wsX9_refused) := goodIn_app (goodIn_of _ (by decide +kernel)) ggX9_holder_X9_refused
set_option maxRecDepth 20000 in
theorem ggX9_holder_X9_of : GoodIn wsX9_holder wsX9_of := goodIn_r _ [18] (by decide +kernel) (by decide +kernel)
set_option maxRecDepth 20000 in
theorem gX9_holder_X9_of : GoodIn wsX9_holder (va_wsS RX9 45 yX9_of wsX9_of) := goodIn_app (goodIn_of _ (by decide +kernel)) ggX9_holder_X9_of
set_option maxRecDepth 20000 in
theorem ggX9_holder_X9_coresAt : GoodIn wsX9_holder wsX9_coresAt := goodIn_r _ [21] (by decide +kernel) (by decide +kernel)
set_option maxRecDepth 20000 in
theorem gX9_holder_X9_coresAt : GoodIn wsX9_holder (va_wsS RX9 97 yX9_coresAt wsX9_coresAt) := goodIn_app (goodIn_of _ (by decide +kernel)) ggX9_holder_X9_coresAt
set_option maxRecDepth 20000 in
theorem ggX9_holder_X9_partsOwed : GoodIn wsX9_holder wsX9_partsOwed := goodIn_r _ [24, 25, 26, 5, 27] (by decide +kernel) (by decide +kernel)
set_option maxRecDepth 20000 in
theorem gX9_holder_X9_partsOwed : GoodIn wsX9_holder (va_wsS RX9 210 yX9_partsOwed wsX9_partsOwed) := goodIn_app (goodIn_of _ (by decide +kernel)) ggX9_holder_X9_partsOwed
theorem dX9_holder_0 : decode cX9_holder 0 = .ok (.aload_n 0, 1) := by decide +kernel
theorem dX9_holder_1 : decode cX9_holder 1 = .ok (.iload_n 1, 1) := by decide +kernel
theorem dX9_holder_2 : decode cX9_holder 2 = .ok (.invokestatic 60, 3) := by decide +kernel
theorem dX9_holder_5 : decode cX9_holder 5 = .ok (.ifCond .ne 7, 3) := by decide +kernel
theorem dX9_holder_8 : decode cX9_holder 8 = .ok (.iconst 1, 1) := by decide +kernel
theorem dX9_holder_9 : decode cX9_holder 9 = .ok (.goto 20, 3) := by decide +kernel
theorem dX9_holder_12 : decode cX9_holder 12 = .ok (.iload_n 2, 1) := by decide +kernel
theorem dX9_holder_13 : decode cX9_holder 13 = .ok (.i2l, 1) := by decide +kernel
theorem dX9_holder_14 : decode cX9_holder 14 = .ok (.lconst 0, 1) := by decide +kernel
theorem dX9_holder_15 : decode cX9_holder 15 = .ok (.ldc2_w 215, 3) := by decide +kernel
theorem dX9_holder_18 : decode cX9_holder 18 = .ok (.invokestatic 37, 3) := by decide +kernel
theorem dX9_holder_21 : decode cX9_holder 21 = .ok (.ifCond .eq 7, 3) := by decide +kernel
theorem dX9_holder_24 : decode cX9_holder 24 = .ok (.iconst 0, 1) := by decide +kernel
theorem dX9_holder_25 : decode cX9_holder 25 = .ok (.goto 4, 3) := by decide +kernel
theorem dX9_holder_28 : decode cX9_holder 28 = .ok (.iconst 2, 1) := by decide +kernel
theorem dX9_holder_29 : decode cX9_holder 29 = .ok (.invokevirtual 116, 3) := by decide +kernel
theorem dX9_holder_32 : decode cX9_holder 32 = .ok (.ifCond .eq 5, 3) := by decide +kernel
theorem dX9_holder_35 : decode cX9_holder 35 = .ok (.iconst 0, 1) := by decide +kernel
theorem dX9_holder_36 : decode cX9_holder 36 = .ok (.ireturn, 1) := by decide +kernel
theorem dX9_holder_37 : decode cX9_holder 37 = .ok (.iconst 0, 1) := by decide +kernel
theorem dX9_holder_38 : decode cX9_holder 38 = .ok (.istore_n 3, 1) := by decide +kernel
theorem dX9_holder_39 : decode cX9_holder 39 = .ok (.iconst 0, 1) := by decide +kernel
theorem dX9_holder_40 : decode cX9_holder 40 = .ok (.istore 4, 2) := by decide +kernel
theorem dX9_holder_42 : decode cX9_holder 42 = .ok (.iconst 0, 1) := by decide +kernel
theorem dX9_holder_43 : decode cX9_holder 43 = .ok (.istore 5, 2) := by decide +kernel
theorem dX9_holder_45 : decode cX9_holder 45 = .ok (.iconst 0, 1) := by decide +kernel
theorem dX9_holder_46 : decode cX9_holder 46 = .ok (.istore 6, 2) := by decide +kernel
theorem dX9_holder_48 : decode cX9_holder 48 = .ok (.iload 6, 2) := by decide +kernel
theorem dX9_holder_50 : decode cX9_holder 50 = .ok (.aload_n 0, 1) := by decide +kernel
theorem dX9_holder_51 : decode cX9_holder 51 = .ok (.getfield 13, 3) := by decide +kernel
theorem dX9_holder_54 : decode cX9_holder 54 = .ok (.iconst 1, 1) := by decide +kernel
theorem dX9_holder_55 : decode cX9_holder 55 = .ok (.iaload, 1) := by decide +kernel
theorem dX9_holder_56 : decode cX9_holder 56 = .ok (.if_icmp .ge 93, 3) := by decide +kernel
theorem dX9_holder_59 : decode cX9_holder 59 = .ok (.iload_n 3, 1) := by decide +kernel
theorem dX9_holder_60 : decode cX9_holder 60 = .ok (.aload_n 0, 1) := by decide +kernel
theorem dX9_holder_61 : decode cX9_holder 61 = .ok (.getfield 13, 3) := by decide +kernel
theorem dX9_holder_64 : decode cX9_holder 64 = .ok (.iload 6, 2) := by decide +kernel
theorem dX9_holder_66 : decode cX9_holder 66 = .ok (.iconst 1, 1) := by decide +kernel
theorem dX9_holder_67 : decode cX9_holder 67 = .ok (.invokestatic 45, 3) := by decide +kernel
theorem dX9_holder_70 : decode cX9_holder 70 = .ok (.iload_n 1, 1) := by decide +kernel
theorem dX9_holder_71 : decode cX9_holder 71 = .ok (.if_icmp .ne 7, 3) := by decide +kernel
theorem dX9_holder_74 : decode cX9_holder 74 = .ok (.iconst 1, 1) := by decide +kernel
theorem dX9_holder_75 : decode cX9_holder 75 = .ok (.goto 4, 3) := by decide +kernel
theorem dX9_holder_78 : decode cX9_holder 78 = .ok (.iconst 0, 1) := by decide +kernel
theorem dX9_holder_79 : decode cX9_holder 79 = .ok (.iadd, 1) := by decide +kernel
theorem dX9_holder_80 : decode cX9_holder 80 = .ok (.istore_n 3, 1) := by decide +kernel
theorem dX9_holder_81 : decode cX9_holder 81 = .ok (.iload 4, 2) := by decide +kernel
theorem dX9_holder_83 : decode cX9_holder 83 = .ok (.aload_n 0, 1) := by decide +kernel
theorem dX9_holder_84 : decode cX9_holder 84 = .ok (.getfield 13, 3) := by decide +kernel
theorem dX9_holder_87 : decode cX9_holder 87 = .ok (.iload 6, 2) := by decide +kernel
theorem dX9_holder_89 : decode cX9_holder 89 = .ok (.iconst 2, 1) := by decide +kernel
theorem dX9_holder_90 : decode cX9_holder 90 = .ok (.invokestatic 45, 3) := by decide +kernel
theorem dX9_holder_93 : decode cX9_holder 93 = .ok (.iload_n 1, 1) := by decide +kernel
theorem dX9_holder_94 : decode cX9_holder 94 = .ok (.if_icmp .ne 7, 3) := by decide +kernel
theorem dX9_holder_97 : decode cX9_holder 97 = .ok (.iconst 1, 1) := by decide +kernel
theorem dX9_holder_98 : decode cX9_holder 98 = .ok (.goto 4, 3) := by decide +kernel
theorem dX9_holder_101 : decode cX9_holder 101 = .ok (.iconst 0, 1) := by decide +kernel
theorem dX9_holder_102 : decode cX9_holder 102 = .ok (.iadd, 1) := by decide +kernel
theorem dX9_holder_103 : decode cX9_holder 103 = .ok (.istore 4, 2) := by decide +kernel
theorem dX9_holder_105 : decode cX9_holder 105 = .ok (.iload 5, 2) := by decide +kernel
theorem dX9_holder_107 : decode cX9_holder 107 = .ok (.aload_n 0, 1) := by decide +kernel
theorem dX9_holder_108 : decode cX9_holder 108 = .ok (.getfield 13, 3) := by decide +kernel
theorem dX9_holder_111 : decode cX9_holder 111 = .ok (.iload 6, 2) := by decide +kernel
theorem dX9_holder_113 : decode cX9_holder 113 = .ok (.iconst 2, 1) := by decide +kernel
theorem dX9_holder_114 : decode cX9_holder 114 = .ok (.invokestatic 45, 3) := by decide +kernel
theorem dX9_holder_117 : decode cX9_holder 117 = .ok (.iload_n 1, 1) := by decide +kernel
theorem dX9_holder_118 : decode cX9_holder 118 = .ok (.if_icmp .ne 21, 3) := by decide +kernel
theorem dX9_holder_121 : decode cX9_holder 121 = .ok (.aload_n 0, 1) := by decide +kernel
theorem dX9_holder_122 : decode cX9_holder 122 = .ok (.getfield 13, 3) := by decide +kernel
theorem dX9_holder_125 : decode cX9_holder 125 = .ok (.iload 6, 2) := by decide +kernel
theorem dX9_holder_127 : decode cX9_holder 127 = .ok (.iconst 1, 1) := by decide +kernel
theorem dX9_holder_128 : decode cX9_holder 128 = .ok (.invokestatic 45, 3) := by decide +kernel
theorem dX9_holder_131 : decode cX9_holder 131 = .ok (.iload_n 1, 1) := by decide +kernel
theorem dX9_holder_132 : decode cX9_holder 132 = .ok (.if_icmp .eq 7, 3) := by decide +kernel
theorem dX9_holder_135 : decode cX9_holder 135 = .ok (.iconst 1, 1) := by decide +kernel
theorem dX9_holder_136 : decode cX9_holder 136 = .ok (.goto 4, 3) := by decide +kernel
theorem dX9_holder_139 : decode cX9_holder 139 = .ok (.iconst 0, 1) := by decide +kernel
theorem dX9_holder_140 : decode cX9_holder 140 = .ok (.iadd, 1) := by decide +kernel
theorem dX9_holder_141 : decode cX9_holder 141 = .ok (.istore 5, 2) := by decide +kernel
theorem dX9_holder_143 : decode cX9_holder 143 = .ok (.iinc 6 1, 3) := by decide +kernel
theorem dX9_holder_146 : decode cX9_holder 146 = .ok (.goto (-98), 3) := by decide +kernel
theorem dX9_holder_149 : decode cX9_holder 149 = .ok (.iload_n 2, 1) := by decide +kernel
theorem dX9_holder_150 : decode cX9_holder 150 = .ok (.ifCond .ne 15, 3) := by decide +kernel
theorem dX9_holder_153 : decode cX9_holder 153 = .ok (.aload_n 0, 1) := by decide +kernel
theorem dX9_holder_154 : decode cX9_holder 154 = .ok (.getfield 13, 3) := by decide +kernel
theorem dX9_holder_157 : decode cX9_holder 157 = .ok (.bipush 88, 2) := by decide +kernel
theorem dX9_holder_159 : decode cX9_holder 159 = .ok (.iload_n 1, 1) := by decide +kernel
theorem dX9_holder_160 : decode cX9_holder 160 = .ok (.iadd, 1) := by decide +kernel
theorem dX9_holder_161 : decode cX9_holder 161 = .ok (.iaload, 1) := by decide +kernel
theorem dX9_holder_162 : decode cX9_holder 162 = .ok (.goto 75, 3) := by decide +kernel
theorem dX9_holder_165 : decode cX9_holder 165 = .ok (.iload_n 2, 1) := by decide +kernel
theorem dX9_holder_166 : decode cX9_holder 166 = .ok (.iconst 1, 1) := by decide +kernel
theorem dX9_holder_167 : decode cX9_holder 167 = .ok (.if_icmp .ne 7, 3) := by decide +kernel
theorem dX9_holder_170 : decode cX9_holder 170 = .ok (.iload_n 3, 1) := by decide +kernel
theorem dX9_holder_171 : decode cX9_holder 171 = .ok (.goto 66, 3) := by decide +kernel
theorem dX9_holder_174 : decode cX9_holder 174 = .ok (.iload_n 2, 1) := by decide +kernel
theorem dX9_holder_175 : decode cX9_holder 175 = .ok (.iconst 2, 1) := by decide +kernel
theorem dX9_holder_176 : decode cX9_holder 176 = .ok (.if_icmp .ne 8, 3) := by decide +kernel
theorem dX9_holder_179 : decode cX9_holder 179 = .ok (.iload 4, 2) := by decide +kernel
theorem dX9_holder_181 : decode cX9_holder 181 = .ok (.goto 56, 3) := by decide +kernel
theorem dX9_holder_184 : decode cX9_holder 184 = .ok (.iload_n 2, 1) := by decide +kernel
theorem dX9_holder_185 : decode cX9_holder 185 = .ok (.iconst 3, 1) := by decide +kernel
theorem dX9_holder_186 : decode cX9_holder 186 = .ok (.if_icmp .ne 8, 3) := by decide +kernel
theorem dX9_holder_189 : decode cX9_holder 189 = .ok (.iload 5, 2) := by decide +kernel
theorem dX9_holder_191 : decode cX9_holder 191 = .ok (.goto 46, 3) := by decide +kernel
theorem dX9_holder_194 : decode cX9_holder 194 = .ok (.iload_n 2, 1) := by decide +kernel
theorem dX9_holder_195 : decode cX9_holder 195 = .ok (.iconst 4, 1) := by decide +kernel
theorem dX9_holder_196 : decode cX9_holder 196 = .ok (.if_icmp .ne 15, 3) := by decide +kernel
theorem dX9_holder_199 : decode cX9_holder 199 = .ok (.aload_n 0, 1) := by decide +kernel
theorem dX9_holder_200 : decode cX9_holder 200 = .ok (.getfield 13, 3) := by decide +kernel
theorem dX9_holder_203 : decode cX9_holder 203 = .ok (.iload_n 1, 1) := by decide +kernel
theorem dX9_holder_204 : decode cX9_holder 204 = .ok (.invokestatic 97, 3) := by decide +kernel
theorem dX9_holder_207 : decode cX9_holder 207 = .ok (.iaload, 1) := by decide +kernel
theorem dX9_holder_208 : decode cX9_holder 208 = .ok (.goto 29, 3) := by decide +kernel
theorem dX9_holder_211 : decode cX9_holder 211 = .ok (.iload_n 2, 1) := by decide +kernel
theorem dX9_holder_212 : decode cX9_holder 212 = .ok (.iconst 5, 1) := by decide +kernel
theorem dX9_holder_213 : decode cX9_holder 213 = .ok (.if_icmp .ne 15, 3) := by decide +kernel
theorem dX9_holder_216 : decode cX9_holder 216 = .ok (.aload_n 0, 1) := by decide +kernel
theorem dX9_holder_217 : decode cX9_holder 217 = .ok (.getfield 13, 3) := by decide +kernel
theorem dX9_holder_220 : decode cX9_holder 220 = .ok (.iload_n 1, 1) := by decide +kernel
theorem dX9_holder_221 : decode cX9_holder 221 = .ok (.iconst (-1), 1) := by decide +kernel
theorem dX9_holder_222 : decode cX9_holder 222 = .ok (.invokestatic 210, 3) := by decide +kernel
theorem dX9_holder_225 : decode cX9_holder 225 = .ok (.goto 12, 3) := by decide +kernel
theorem dX9_holder_228 : decode cX9_holder 228 = .ok (.aload_n 0, 1) := by decide +kernel
theorem dX9_holder_229 : decode cX9_holder 229 = .ok (.getfield 13, 3) := by decide +kernel
theorem dX9_holder_232 : decode cX9_holder 232 = .ok (.iconst (-1), 1) := by decide +kernel
theorem dX9_holder_233 : decode cX9_holder 233 = .ok (.iload_n 1, 1) := by decide +kernel
theorem dX9_holder_234 : decode cX9_holder 234 = .ok (.invokestatic 210, 3) := by decide +kernel
theorem dX9_holder_237 : decode cX9_holder 237 = .ok (.ireturn, 1) := by decide +kernel
set_option maxRecDepth 20000 in
theorem ggX9_owed_X9_isHolder : GoodIn wsX9_owed wsX9_isHolder := goodIn_r _ [5, 6, 7, 8, 4, 9] (by decide +kernel) (by decide +kernel)
set_option maxRecDepth 20000 in
theorem gX9_owed_X9_isHolder : GoodIn wsX9_owed (va_wsS RX9 60 yX9_isHolder wsX9_isHolder) := goodIn_app (goodIn_of _ (by decide +kernel)) ggX9_owed_X9_isHolder
set_option maxRecDepth 20000 in
theorem ggX9_owed_X9_isKind : GoodIn wsX9_owed wsX9_isKind := goodIn_r _ [12, 13, 7, 8, 4, 9] (by decide +kernel) (by decide +kernel)
set_option maxRecDepth 20000 in
theorem gX9_owed_X9_isKind : GoodIn wsX9_owed (va_wsS RX9 56 yX9_isKind wsX9_isKind) := goodIn_app (goodIn_of _ (by decide +kernel)) ggX9_owed_X9_isKind
set_option maxRecDepth 20000 in
theorem ggX9_owed_X9_isPart : GoodIn wsX9_owed wsX9_isPart := goodIn_r _ [16, 13, 7, 8, 4, 9] (by decide +kernel) (by decide +kernel)
set_option maxRecDepth 20000 in
theorem gX9_owed_X9_isPart : GoodIn wsX9_owed (va_wsS RX9 104 yX9_isPart wsX9_isPart) := goodIn_app (goodIn_of _ (by decide +kernel)) ggX9_owed_X9_isPart
set_option maxRecDepth 20000 in
theorem ggX9_owed_X9_refused : GoodIn wsX9_owed wsX9_refused := goodIn_r _ [20, 21, 25, 26, 27, 28, 29, 30, 31, 32, 33, 34, 35] (by decide +kernel) (by decide +kernel)
set_option maxRecDepth 20000 in
theorem gX9_owed_X9_refused : GoodIn wsX9_owed (wsV RX9 116 RX9 yX9_refused wsX9_refused) := goodIn_app (goodIn_of _ (by decide +kernel)) ggX9_owed_X9_refused
set_option maxRecDepth 20000 in
theorem ggX9_owed_X9_owedAt : GoodIn wsX9_owed wsX9_owedAt := goodIn_r _ [24] (by decide +kernel) (by decide +kernel)
set_option maxRecDepth 20000 in
theorem gX9_owed_X9_owedAt : GoodIn wsX9_owed (va_wsS RX9 107 yX9_owedAt wsX9_owedAt) := goodIn_app (goodIn_of _ (by decide +kernel)) ggX9_owed_X9_owedAt
theorem dX9_owed_0 : decode cX9_owed 0 = .ok (.aload_n 0, 1) := by decide +kernel
theorem dX9_owed_1 : decode cX9_owed 1 = .ok (.iload_n 1, 1) := by decide +kernel
theorem dX9_owed_2 : decode cX9_owed 2 = .ok (.invokestatic 60, 3) := by decide +kernel
theorem dX9_owed_5 : decode cX9_owed 5 = .ok (.ifCond .eq 29, 3) := by decide +kernel
theorem dX9_owed_8 : decode cX9_owed 8 = .ok (.iload_n 2, 1) := by decide +kernel
theorem dX9_owed_9 : decode cX9_owed 9 = .ok (.invokestatic 60, 3) := by decide +kernel
theorem dX9_owed_12 : decode cX9_owed 12 = .ok (.ifCond .eq 22, 3) := by decide +kernel
theorem dX9_owed_15 : decode cX9_owed 15 = .ok (.iload_n 3, 1) := by decide +kernel
theorem dX9_owed_16 : decode cX9_owed 16 = .ok (.invokestatic 56, 3) := by decide +kernel
theorem dX9_owed_19 : decode cX9_owed 19 = .ok (.ifCond .eq 15, 3) := by decide +kernel
theorem dX9_owed_22 : decode cX9_owed 22 = .ok (.iload 4, 2) := by decide +kernel
theorem dX9_owed_24 : decode cX9_owed 24 = .ok (.invokestatic 104, 3) := by decide +kernel
theorem dX9_owed_27 : decode cX9_owed 27 = .ok (.ifCond .eq 7, 3) := by decide +kernel
theorem dX9_owed_30 : decode cX9_owed 30 = .ok (.iconst 0, 1) := by decide +kernel
theorem dX9_owed_31 : decode cX9_owed 31 = .ok (.goto 4, 3) := by decide +kernel
theorem dX9_owed_34 : decode cX9_owed 34 = .ok (.iconst 1, 1) := by decide +kernel
theorem dX9_owed_35 : decode cX9_owed 35 = .ok (.invokevirtual 116, 3) := by decide +kernel
theorem dX9_owed_38 : decode cX9_owed 38 = .ok (.ifCond .eq 5, 3) := by decide +kernel
theorem dX9_owed_41 : decode cX9_owed 41 = .ok (.iconst 0, 1) := by decide +kernel
theorem dX9_owed_42 : decode cX9_owed 42 = .ok (.ireturn, 1) := by decide +kernel
theorem dX9_owed_43 : decode cX9_owed 43 = .ok (.aload_n 0, 1) := by decide +kernel
theorem dX9_owed_44 : decode cX9_owed 44 = .ok (.getfield 13, 3) := by decide +kernel
theorem dX9_owed_47 : decode cX9_owed 47 = .ok (.iload_n 1, 1) := by decide +kernel
theorem dX9_owed_48 : decode cX9_owed 48 = .ok (.iload_n 2, 1) := by decide +kernel
theorem dX9_owed_49 : decode cX9_owed 49 = .ok (.iload_n 3, 1) := by decide +kernel
theorem dX9_owed_50 : decode cX9_owed 50 = .ok (.iload 4, 2) := by decide +kernel
theorem dX9_owed_52 : decode cX9_owed 52 = .ok (.invokestatic 107, 3) := by decide +kernel
theorem dX9_owed_55 : decode cX9_owed 55 = .ok (.iaload, 1) := by decide +kernel
theorem dX9_owed_56 : decode cX9_owed 56 = .ok (.ireturn, 1) := by decide +kernel
set_option maxRecDepth 20000 in
theorem ggX9_core_X9_isHolder : GoodIn wsX9_core wsX9_isHolder := goodIn_r _ [5, 6, 7, 8, 4, 9] (by decide +kernel) (by decide +kernel)
set_option maxRecDepth 20000 in
theorem gX9_core_X9_isHolder : GoodIn wsX9_core (va_wsS RX9 60 yX9_isHolder wsX9_isHolder) := goodIn_app (goodIn_of _ (by decide +kernel)) ggX9_core_X9_isHolder
set_option maxRecDepth 20000 in
theorem ggX9_core_X9_in : GoodIn wsX9_core wsX9_in := goodIn_r _ [9] (by decide +kernel) (by decide +kernel)
set_option maxRecDepth 20000 in
theorem gX9_core_X9_in : GoodIn wsX9_core (va_wsS RX9 37 yX9_in wsX9_in) := goodIn_app (goodIn_of _ (by decide +kernel)) ggX9_core_X9_in
set_option maxRecDepth 20000 in
theorem ggX9_core_X9_refused : GoodIn wsX9_core wsX9_refused := goodIn_r _ [13, 14, 18, 19, 20, 21, 22, 23, 24, 25, 26, 27, 28] (by decide +kernel) (by decide +kernel)
set_option maxRecDepth 20000 in
theorem gX9_core_X9_refused : GoodIn wsX9_core (wsV RX9 116 RX9 yX9_refused wsX9_refused) := goodIn_app (goodIn_of _ (by decide +kernel)) ggX9_core_X9_refused
set_option maxRecDepth 20000 in
theorem ggX9_core_X9_coresAt : GoodIn wsX9_core wsX9_coresAt := goodIn_r _ [17] (by decide +kernel) (by decide +kernel)
set_option maxRecDepth 20000 in
theorem gX9_core_X9_coresAt : GoodIn wsX9_core (va_wsS RX9 97 yX9_coresAt wsX9_coresAt) := goodIn_app (goodIn_of _ (by decide +kernel)) ggX9_core_X9_coresAt
theorem dX9_core_0 : decode cX9_core 0 = .ok (.aload_n 0, 1) := by decide +kernel
theorem dX9_core_1 : decode cX9_core 1 = .ok (.iload_n 1, 1) := by decide +kernel
theorem dX9_core_2 : decode cX9_core 2 = .ok (.invokestatic 60, 3) := by decide +kernel
theorem dX9_core_5 : decode cX9_core 5 = .ok (.ifCond .ne 7, 3) := by decide +kernel
theorem dX9_core_8 : decode cX9_core 8 = .ok (.iconst 1, 1) := by decide +kernel
theorem dX9_core_9 : decode cX9_core 9 = .ok (.goto 22, 3) := by decide +kernel
theorem dX9_core_12 : decode cX9_core 12 = .ok (.iload_n 2, 1) := by decide +kernel
theorem dX9_core_13 : decode cX9_core 13 = .ok (.ifCond .lt 17, 3) := by decide +kernel
theorem dX9_core_16 : decode cX9_core 16 = .ok (.iload_n 3, 1) := by decide +kernel
theorem dX9_core_17 : decode cX9_core 17 = .ok (.i2l, 1) := by decide +kernel
theorem dX9_core_18 : decode cX9_core 18 = .ok (.lconst 0, 1) := by decide +kernel
theorem dX9_core_19 : decode cX9_core 19 = .ok (.lconst 1, 1) := by decide +kernel
theorem dX9_core_20 : decode cX9_core 20 = .ok (.invokestatic 37, 3) := by decide +kernel
theorem dX9_core_23 : decode cX9_core 23 = .ok (.ifCond .eq 7, 3) := by decide +kernel
theorem dX9_core_26 : decode cX9_core 26 = .ok (.iconst 0, 1) := by decide +kernel
theorem dX9_core_27 : decode cX9_core 27 = .ok (.goto 4, 3) := by decide +kernel
theorem dX9_core_30 : decode cX9_core 30 = .ok (.iconst 2, 1) := by decide +kernel
theorem dX9_core_31 : decode cX9_core 31 = .ok (.invokevirtual 116, 3) := by decide +kernel
theorem dX9_core_34 : decode cX9_core 34 = .ok (.ifCond .eq 5, 3) := by decide +kernel
theorem dX9_core_37 : decode cX9_core 37 = .ok (.iconst 0, 1) := by decide +kernel
theorem dX9_core_38 : decode cX9_core 38 = .ok (.ireturn, 1) := by decide +kernel
theorem dX9_core_39 : decode cX9_core 39 = .ok (.iload_n 2, 1) := by decide +kernel
theorem dX9_core_40 : decode cX9_core 40 = .ok (.aload_n 0, 1) := by decide +kernel
theorem dX9_core_41 : decode cX9_core 41 = .ok (.getfield 13, 3) := by decide +kernel
theorem dX9_core_44 : decode cX9_core 44 = .ok (.iload_n 1, 1) := by decide +kernel
theorem dX9_core_45 : decode cX9_core 45 = .ok (.invokestatic 97, 3) := by decide +kernel
theorem dX9_core_48 : decode cX9_core 48 = .ok (.iaload, 1) := by decide +kernel
theorem dX9_core_49 : decode cX9_core 49 = .ok (.if_icmp .ge 23, 3) := by decide +kernel
theorem dX9_core_52 : decode cX9_core 52 = .ok (.aload_n 0, 1) := by decide +kernel
theorem dX9_core_53 : decode cX9_core 53 = .ok (.getfield 13, 3) := by decide +kernel
theorem dX9_core_56 : decode cX9_core 56 = .ok (.iload_n 1, 1) := by decide +kernel
theorem dX9_core_57 : decode cX9_core 57 = .ok (.invokestatic 97, 3) := by decide +kernel
theorem dX9_core_60 : decode cX9_core 60 = .ok (.iconst 1, 1) := by decide +kernel
theorem dX9_core_61 : decode cX9_core 61 = .ok (.iadd, 1) := by decide +kernel
theorem dX9_core_62 : decode cX9_core 62 = .ok (.iconst 2, 1) := by decide +kernel
theorem dX9_core_63 : decode cX9_core 63 = .ok (.iload_n 2, 1) := by decide +kernel
theorem dX9_core_64 : decode cX9_core 64 = .ok (.imul, 1) := by decide +kernel
theorem dX9_core_65 : decode cX9_core 65 = .ok (.iadd, 1) := by decide +kernel
theorem dX9_core_66 : decode cX9_core 66 = .ok (.iload_n 3, 1) := by decide +kernel
theorem dX9_core_67 : decode cX9_core 67 = .ok (.iadd, 1) := by decide +kernel
theorem dX9_core_68 : decode cX9_core 68 = .ok (.iaload, 1) := by decide +kernel
theorem dX9_core_69 : decode cX9_core 69 = .ok (.goto 4, 3) := by decide +kernel
theorem dX9_core_72 : decode cX9_core 72 = .ok (.iconst (-1), 1) := by decide +kernel
theorem dX9_core_73 : decode cX9_core 73 = .ok (.ireturn, 1) := by decide +kernel
set_option maxRecDepth 20000 in
theorem ggX9_setting_X9_in : GoodIn wsX9_setting wsX9_in := goodIn_r _ [6] (by decide +kernel) (by decide +kernel)
set_option maxRecDepth 20000 in
theorem gX9_setting_X9_in : GoodIn wsX9_setting (va_wsS RX9 37 yX9_in wsX9_in) := goodIn_app (goodIn_of _ (by decide +kernel)) ggX9_setting_X9_in
set_option maxRecDepth 20000 in
theorem ggX9_setting_X9_refused : GoodIn wsX9_setting wsX9_refused := goodIn_r _ [10, 11, 12, 13, 14, 15, 16, 17, 18, 19, 20, 21, 22] (by decide +kernel) (by decide +kernel)
set_option maxRecDepth 20000 in
theorem gX9_setting_X9_refused : GoodIn wsX9_setting (wsV RX9 116 RX9 yX9_refused wsX9_refused) := goodIn_app (goodIn_of _ (by decide +kernel)) ggX9_setting_X9_refused
theorem dX9_setting_0 : decode cX9_setting 0 = .ok (.aload_n 0, 1) := by decide +kernel
theorem dX9_setting_1 : decode cX9_setting 1 = .ok (.iload_n 1, 1) := by decide +kernel
theorem dX9_setting_2 : decode cX9_setting 2 = .ok (.i2l, 1) := by decide +kernel
theorem dX9_setting_3 : decode cX9_setting 3 = .ok (.lconst 0, 1) := by decide +kernel
theorem dX9_setting_4 : decode cX9_setting 4 = .ok (.ldc2_w 43, 3) := by decide +kernel
theorem dX9_setting_7 : decode cX9_setting 7 = .ok (.invokestatic 37, 3) := by decide +kernel
theorem dX9_setting_10 : decode cX9_setting 10 = .ok (.ifCond .eq 7, 3) := by decide +kernel
theorem dX9_setting_13 : decode cX9_setting 13 = .ok (.iconst 0, 1) := by decide +kernel
theorem dX9_setting_14 : decode cX9_setting 14 = .ok (.goto 4, 3) := by decide +kernel
theorem dX9_setting_17 : decode cX9_setting 17 = .ok (.iconst 1, 1) := by decide +kernel
