/-! decode rows of the law -/
theorem dL_call_0 : decode cL_call 0 = .ok (.iload_n 1, 1) := by decide +kernel
theorem dL_call_1 : decode cL_call 1 = .ok (.tableswitch 267 0 22 #[107, 113, 118, 124, 131, 138, 147, 153, 162, 171, 177, 184, 193, 199, 208, 215, 221, 228, 233, 240, 247, 254, 261], 107) := by decide +kernel
theorem dL_call_108 : decode cL_call 108 = .ok (.aload_n 0, 1) := by decide +kernel
theorem dL_call_109 : decode cL_call 109 = .ok (.iload_n 2, 1) := by decide +kernel
theorem dL_call_110 : decode cL_call 110 = .ok (.invokestatic 109, 3) := by decide +kernel
theorem dL_call_113 : decode cL_call 113 = .ok (.ireturn, 1) := by decide +kernel
theorem dL_call_114 : decode cL_call 114 = .ok (.aload_n 0, 1) := by decide +kernel
theorem dL_call_115 : decode cL_call 115 = .ok (.invokestatic 115, 3) := by decide +kernel
theorem dL_call_118 : decode cL_call 118 = .ok (.ireturn, 1) := by decide +kernel
theorem dL_call_119 : decode cL_call 119 = .ok (.aload_n 0, 1) := by decide +kernel
theorem dL_call_120 : decode cL_call 120 = .ok (.iload_n 2, 1) := by decide +kernel
theorem dL_call_121 : decode cL_call 121 = .ok (.invokestatic 119, 3) := by decide +kernel
theorem dL_call_124 : decode cL_call 124 = .ok (.ireturn, 1) := by decide +kernel
theorem dL_call_125 : decode cL_call 125 = .ok (.aload_n 0, 1) := by decide +kernel
theorem dL_call_126 : decode cL_call 126 = .ok (.iload_n 2, 1) := by decide +kernel
theorem dL_call_127 : decode cL_call 127 = .ok (.iload_n 3, 1) := by decide +kernel
theorem dL_call_128 : decode cL_call 128 = .ok (.invokestatic 122, 3) := by decide +kernel
theorem dL_call_131 : decode cL_call 131 = .ok (.ireturn, 1) := by decide +kernel
theorem dL_call_132 : decode cL_call 132 = .ok (.aload_n 0, 1) := by decide +kernel
theorem dL_call_133 : decode cL_call 133 = .ok (.iload_n 2, 1) := by decide +kernel
theorem dL_call_134 : decode cL_call 134 = .ok (.iload_n 3, 1) := by decide +kernel
theorem dL_call_135 : decode cL_call 135 = .ok (.invokestatic 126, 3) := by decide +kernel
theorem dL_call_138 : decode cL_call 138 = .ok (.ireturn, 1) := by decide +kernel
theorem dL_call_139 : decode cL_call 139 = .ok (.aload_n 0, 1) := by decide +kernel
theorem dL_call_140 : decode cL_call 140 = .ok (.iload_n 2, 1) := by decide +kernel
theorem dL_call_141 : decode cL_call 141 = .ok (.iload_n 3, 1) := by decide +kernel
theorem dL_call_142 : decode cL_call 142 = .ok (.iload 4, 2) := by decide +kernel
theorem dL_call_144 : decode cL_call 144 = .ok (.invokestatic 129, 3) := by decide +kernel
theorem dL_call_147 : decode cL_call 147 = .ok (.ireturn, 1) := by decide +kernel
theorem dL_call_148 : decode cL_call 148 = .ok (.aload_n 0, 1) := by decide +kernel
theorem dL_call_149 : decode cL_call 149 = .ok (.iload_n 2, 1) := by decide +kernel
theorem dL_call_150 : decode cL_call 150 = .ok (.invokestatic 133, 3) := by decide +kernel
theorem dL_call_153 : decode cL_call 153 = .ok (.ireturn, 1) := by decide +kernel
theorem dL_call_154 : decode cL_call 154 = .ok (.aload_n 0, 1) := by decide +kernel
theorem dL_call_155 : decode cL_call 155 = .ok (.iload_n 2, 1) := by decide +kernel
theorem dL_call_156 : decode cL_call 156 = .ok (.iload_n 3, 1) := by decide +kernel
theorem dL_call_157 : decode cL_call 157 = .ok (.iload 4, 2) := by decide +kernel
theorem dL_call_159 : decode cL_call 159 = .ok (.invokestatic 136, 3) := by decide +kernel
theorem dL_call_162 : decode cL_call 162 = .ok (.ireturn, 1) := by decide +kernel
theorem dL_call_163 : decode cL_call 163 = .ok (.aload_n 0, 1) := by decide +kernel
theorem dL_call_164 : decode cL_call 164 = .ok (.iload_n 2, 1) := by decide +kernel
theorem dL_call_165 : decode cL_call 165 = .ok (.iload_n 3, 1) := by decide +kernel
theorem dL_call_166 : decode cL_call 166 = .ok (.iload 4, 2) := by decide +kernel
theorem dL_call_168 : decode cL_call 168 = .ok (.invokestatic 139, 3) := by decide +kernel
theorem dL_call_171 : decode cL_call 171 = .ok (.ireturn, 1) := by decide +kernel
theorem dL_call_172 : decode cL_call 172 = .ok (.aload_n 0, 1) := by decide +kernel
theorem dL_call_173 : decode cL_call 173 = .ok (.iload_n 2, 1) := by decide +kernel
theorem dL_call_174 : decode cL_call 174 = .ok (.invokestatic 142, 3) := by decide +kernel
theorem dL_call_177 : decode cL_call 177 = .ok (.ireturn, 1) := by decide +kernel
theorem dL_call_178 : decode cL_call 178 = .ok (.aload_n 0, 1) := by decide +kernel
theorem dL_call_179 : decode cL_call 179 = .ok (.iload_n 2, 1) := by decide +kernel
theorem dL_call_180 : decode cL_call 180 = .ok (.iload_n 3, 1) := by decide +kernel
theorem dL_call_181 : decode cL_call 181 = .ok (.invokestatic 145, 3) := by decide +kernel
theorem dL_call_184 : decode cL_call 184 = .ok (.ireturn, 1) := by decide +kernel
theorem dL_call_185 : decode cL_call 185 = .ok (.aload_n 0, 1) := by decide +kernel
theorem dL_call_186 : decode cL_call 186 = .ok (.iload_n 2, 1) := by decide +kernel
theorem dL_call_187 : decode cL_call 187 = .ok (.iload_n 3, 1) := by decide +kernel
theorem dL_call_188 : decode cL_call 188 = .ok (.iload 4, 2) := by decide +kernel
theorem dL_call_190 : decode cL_call 190 = .ok (.invokestatic 148, 3) := by decide +kernel
theorem dL_call_193 : decode cL_call 193 = .ok (.ireturn, 1) := by decide +kernel
theorem dL_call_194 : decode cL_call 194 = .ok (.aload_n 0, 1) := by decide +kernel
theorem dL_call_195 : decode cL_call 195 = .ok (.iload_n 2, 1) := by decide +kernel
theorem dL_call_196 : decode cL_call 196 = .ok (.invokestatic 151, 3) := by decide +kernel
theorem dL_call_199 : decode cL_call 199 = .ok (.ireturn, 1) := by decide +kernel
theorem dL_call_200 : decode cL_call 200 = .ok (.aload_n 0, 1) := by decide +kernel
theorem dL_call_201 : decode cL_call 201 = .ok (.iload_n 2, 1) := by decide +kernel
theorem dL_call_202 : decode cL_call 202 = .ok (.iload_n 3, 1) := by decide +kernel
theorem dL_call_203 : decode cL_call 203 = .ok (.iload 4, 2) := by decide +kernel
theorem dL_call_205 : decode cL_call 205 = .ok (.invokestatic 154, 3) := by decide +kernel
theorem dL_call_208 : decode cL_call 208 = .ok (.ireturn, 1) := by decide +kernel
theorem dL_call_209 : decode cL_call 209 = .ok (.aload_n 0, 1) := by decide +kernel
theorem dL_call_210 : decode cL_call 210 = .ok (.iload_n 2, 1) := by decide +kernel
theorem dL_call_211 : decode cL_call 211 = .ok (.iload_n 3, 1) := by decide +kernel
theorem dL_call_212 : decode cL_call 212 = .ok (.invokestatic 157, 3) := by decide +kernel
theorem dL_call_215 : decode cL_call 215 = .ok (.ireturn, 1) := by decide +kernel
theorem dL_call_216 : decode cL_call 216 = .ok (.aload_n 0, 1) := by decide +kernel
theorem dL_call_217 : decode cL_call 217 = .ok (.iload_n 2, 1) := by decide +kernel
theorem dL_call_218 : decode cL_call 218 = .ok (.invokestatic 160, 3) := by decide +kernel
theorem dL_call_221 : decode cL_call 221 = .ok (.ireturn, 1) := by decide +kernel
theorem dL_call_222 : decode cL_call 222 = .ok (.aload_n 0, 1) := by decide +kernel
theorem dL_call_223 : decode cL_call 223 = .ok (.iload_n 2, 1) := by decide +kernel
theorem dL_call_224 : decode cL_call 224 = .ok (.iload_n 3, 1) := by decide +kernel
theorem dL_call_225 : decode cL_call 225 = .ok (.invokestatic 163, 3) := by decide +kernel
theorem dL_call_228 : decode cL_call 228 = .ok (.ireturn, 1) := by decide +kernel
theorem dL_call_229 : decode cL_call 229 = .ok (.aload_n 0, 1) := by decide +kernel
theorem dL_call_230 : decode cL_call 230 = .ok (.invokestatic 166, 3) := by decide +kernel
theorem dL_call_233 : decode cL_call 233 = .ok (.ireturn, 1) := by decide +kernel
theorem dL_call_234 : decode cL_call 234 = .ok (.aload_n 0, 1) := by decide +kernel
theorem dL_call_235 : decode cL_call 235 = .ok (.iload_n 2, 1) := by decide +kernel
theorem dL_call_236 : decode cL_call 236 = .ok (.iload_n 3, 1) := by decide +kernel
theorem dL_call_237 : decode cL_call 237 = .ok (.invokestatic 169, 3) := by decide +kernel
theorem dL_call_240 : decode cL_call 240 = .ok (.ireturn, 1) := by decide +kernel
theorem dL_call_241 : decode cL_call 241 = .ok (.aload_n 0, 1) := by decide +kernel
theorem dL_call_242 : decode cL_call 242 = .ok (.iload_n 2, 1) := by decide +kernel
theorem dL_call_243 : decode cL_call 243 = .ok (.iload_n 3, 1) := by decide +kernel
theorem dL_call_244 : decode cL_call 244 = .ok (.invokestatic 172, 3) := by decide +kernel
theorem dL_call_247 : decode cL_call 247 = .ok (.ireturn, 1) := by decide +kernel
theorem dL_call_248 : decode cL_call 248 = .ok (.aload_n 0, 1) := by decide +kernel
theorem dL_call_249 : decode cL_call 249 = .ok (.iload_n 2, 1) := by decide +kernel
theorem dL_call_250 : decode cL_call 250 = .ok (.iload_n 3, 1) := by decide +kernel
theorem dL_call_251 : decode cL_call 251 = .ok (.invokestatic 175, 3) := by decide +kernel
theorem dL_call_254 : decode cL_call 254 = .ok (.ireturn, 1) := by decide +kernel
theorem dL_call_255 : decode cL_call 255 = .ok (.aload_n 0, 1) := by decide +kernel
theorem dL_call_256 : decode cL_call 256 = .ok (.iload_n 2, 1) := by decide +kernel
theorem dL_call_257 : decode cL_call 257 = .ok (.iload_n 3, 1) := by decide +kernel
theorem dL_call_258 : decode cL_call 258 = .ok (.invokestatic 178, 3) := by decide +kernel
theorem dL_call_261 : decode cL_call 261 = .ok (.ireturn, 1) := by decide +kernel
theorem dL_call_262 : decode cL_call 262 = .ok (.aload_n 0, 1) := by decide +kernel
theorem dL_call_263 : decode cL_call 263 = .ok (.iload_n 2, 1) := by decide +kernel
theorem dL_call_264 : decode cL_call 264 = .ok (.invokestatic 181, 3) := by decide +kernel
theorem dL_call_267 : decode cL_call 267 = .ok (.ireturn, 1) := by decide +kernel
theorem dL_call_268 : decode cL_call 268 = .ok (.aload_n 0, 1) := by decide +kernel
theorem dL_call_269 : decode cL_call 269 = .ok (.iload_n 2, 1) := by decide +kernel
theorem dL_call_270 : decode cL_call 270 = .ok (.invokestatic 184, 3) := by decide +kernel
theorem dL_call_273 : decode cL_call 273 = .ok (.ireturn, 1) := by decide +kernel
theorem dL_cell_0 : decode cL_cell 0 = .ok (.iload_n 1, 1) := by decide +kernel
theorem dL_cell_1 : decode cL_cell 1 = .ok (.aload_n 0, 1) := by decide +kernel
theorem dL_cell_2 : decode cL_cell 2 = .ok (.arraylength, 1) := by decide +kernel
theorem dL_cell_3 : decode cL_cell 3 = .ok (.if_icmp .ge 9, 3) := by decide +kernel
theorem dL_cell_6 : decode cL_cell 6 = .ok (.aload_n 0, 1) := by decide +kernel
theorem dL_cell_7 : decode cL_cell 7 = .ok (.iload_n 1, 1) := by decide +kernel
theorem dL_cell_8 : decode cL_cell 8 = .ok (.iaload, 1) := by decide +kernel
theorem dL_cell_9 : decode cL_cell 9 = .ok (.goto 13, 3) := by decide +kernel
theorem dL_cell_12 : decode cL_cell 12 = .ok (.ldc 187, 2) := by decide +kernel
theorem dL_cell_14 : decode cL_cell 14 = .ok (.iload_n 1, 1) := by decide +kernel
theorem dL_cell_15 : decode cL_cell 15 = .ok (.iconst 3, 1) := by decide +kernel
theorem dL_cell_16 : decode cL_cell 16 = .ok (.iadd, 1) := by decide +kernel
theorem dL_cell_17 : decode cL_cell 17 = .ok (.imul, 1) := by decide +kernel
theorem dL_cell_18 : decode cL_cell 18 = .ok (.sipush 10753, 3) := by decide +kernel
theorem dL_cell_21 : decode cL_cell 21 = .ok (.iadd, 1) := by decide +kernel
theorem dL_cell_22 : decode cL_cell 22 = .ok (.ldc 188, 2) := by decide +kernel
theorem dL_cell_24 : decode cL_cell 24 = .ok (.iand, 1) := by decide +kernel
theorem dL_cell_25 : decode cL_cell 25 = .ok (.ireturn, 1) := by decide +kernel
theorem dL_act_0 : decode cL_act 0 = .ok (.aload_n 0, 1) := by decide +kernel
theorem dL_act_1 : decode cL_act 1 = .ok (.iconst 2, 1) := by decide +kernel
theorem dL_act_2 : decode cL_act 2 = .ok (.iconst 1, 1) := by decide +kernel
theorem dL_act_3 : decode cL_act 3 = .ok (.iconst 0, 1) := by decide +kernel
theorem dL_act_4 : decode cL_act 4 = .ok (.iconst 0, 1) := by decide +kernel
theorem dL_act_5 : decode cL_act 5 = .ok (.invokestatic 189, 3) := by decide +kernel
theorem dL_act_8 : decode cL_act 8 = .ok (.istore_n 3, 1) := by decide +kernel
theorem dL_act_9 : decode cL_act 9 = .ok (.iload_n 3, 1) := by decide +kernel
theorem dL_act_10 : decode cL_act 10 = .ok (.ifCond .ne 7, 3) := by decide +kernel
theorem dL_act_13 : decode cL_act 13 = .ok (.iconst 0, 1) := by decide +kernel
theorem dL_act_14 : decode cL_act 14 = .ok (.goto 6, 3) := by decide +kernel
theorem dL_act_17 : decode cL_act 17 = .ok (.iload_n 2, 1) := by decide +kernel
theorem dL_act_18 : decode cL_act 18 = .ok (.iload_n 3, 1) := by decide +kernel
theorem dL_act_19 : decode cL_act 19 = .ok (.irem, 1) := by decide +kernel
theorem dL_act_20 : decode cL_act 20 = .ok (.istore 4, 2) := by decide +kernel
theorem dL_act_22 : decode cL_act 22 = .ok (.iload_n 3, 1) := by decide +kernel
theorem dL_act_23 : decode cL_act 23 = .ok (.ifCond .ne 7, 3) := by decide +kernel
theorem dL_act_26 : decode cL_act 26 = .ok (.iconst 0, 1) := by decide +kernel
theorem dL_act_27 : decode cL_act 27 = .ok (.goto 9, 3) := by decide +kernel
theorem dL_act_30 : decode cL_act 30 = .ok (.iload_n 2, 1) := by decide +kernel
theorem dL_act_31 : decode cL_act 31 = .ok (.bipush 16, 2) := by decide +kernel
theorem dL_act_33 : decode cL_act 33 = .ok (.idiv, 1) := by decide +kernel
theorem dL_act_34 : decode cL_act 34 = .ok (.iload_n 3, 1) := by decide +kernel
theorem dL_act_35 : decode cL_act 35 = .ok (.irem, 1) := by decide +kernel
theorem dL_act_36 : decode cL_act 36 = .ok (.istore 5, 2) := by decide +kernel
theorem dL_act_38 : decode cL_act 38 = .ok (.iload_n 2, 1) := by decide +kernel
theorem dL_act_39 : decode cL_act 39 = .ok (.sipush 256, 3) := by decide +kernel
theorem dL_act_42 : decode cL_act 42 = .ok (.idiv, 1) := by decide +kernel
theorem dL_act_43 : decode cL_act 43 = .ok (.iconst 5, 1) := by decide +kernel
theorem dL_act_44 : decode cL_act 44 = .ok (.irem, 1) := by decide +kernel
theorem dL_act_45 : decode cL_act 45 = .ok (.istore 6, 2) := by decide +kernel
theorem dL_act_47 : decode cL_act 47 = .ok (.iload_n 1, 1) := by decide +kernel
theorem dL_act_48 : decode cL_act 48 = .ok (.bipush 24, 2) := by decide +kernel
theorem dL_act_50 : decode cL_act 50 = .ok (.irem, 1) := by decide +kernel
theorem dL_act_51 : decode cL_act 51 = .ok (.tableswitch 403 0 18 #[89, 89, 89, 145, 145, 145, 166, 177, 177, 189, 189, 210, 221, 243, 259, 276, 286, 298, 310], 89) := by decide +kernel
theorem dL_act_140 : decode cL_act 140 = .ok (.iload_n 3, 1) := by decide +kernel
theorem dL_act_141 : decode cL_act 141 = .ok (.bipush 11, 2) := by decide +kernel
theorem dL_act_143 : decode cL_act 143 = .ok (.if_icmp .le 20, 3) := by decide +kernel
theorem dL_act_146 : decode cL_act 146 = .ok (.aload_n 0, 1) := by decide +kernel
theorem dL_act_147 : decode cL_act 147 = .ok (.bipush 15, 2) := by decide +kernel
theorem dL_act_149 : decode cL_act 149 = .ok (.iconst 1, 1) := by decide +kernel
theorem dL_act_150 : decode cL_act 150 = .ok (.iload_n 2, 1) := by decide +kernel
theorem dL_act_151 : decode cL_act 151 = .ok (.bipush 9, 2) := by decide +kernel
theorem dL_act_153 : decode cL_act 153 = .ok (.irem, 1) := by decide +kernel
theorem dL_act_154 : decode cL_act 154 = .ok (.iadd, 1) := by decide +kernel
theorem dL_act_155 : decode cL_act 155 = .ok (.iconst 0, 1) := by decide +kernel
theorem dL_act_156 : decode cL_act 156 = .ok (.iconst 0, 1) := by decide +kernel
theorem dL_act_157 : decode cL_act 157 = .ok (.invokestatic 189, 3) := by decide +kernel
theorem dL_act_160 : decode cL_act 160 = .ok (.goto 35, 3) := by decide +kernel
theorem dL_act_163 : decode cL_act 163 = .ok (.aload_n 0, 1) := by decide +kernel
theorem dL_act_164 : decode cL_act 164 = .ok (.bipush 7, 2) := by decide +kernel
theorem dL_act_166 : decode cL_act 166 = .ok (.iload_n 2, 1) := by decide +kernel
theorem dL_act_167 : decode cL_act 167 = .ok (.iconst 3, 1) := by decide +kernel
theorem dL_act_168 : decode cL_act 168 = .ok (.irem, 1) := by decide +kernel
theorem dL_act_169 : decode cL_act 169 = .ok (.iload 6, 2) := by decide +kernel
theorem dL_act_171 : decode cL_act 171 = .ok (.iload_n 2, 1) := by decide +kernel
theorem dL_act_172 : decode cL_act 172 = .ok (.bipush 8, 2) := by decide +kernel
theorem dL_act_174 : decode cL_act 174 = .ok (.idiv, 1) := by decide +kernel
theorem dL_act_175 : decode cL_act 175 = .ok (.iconst 3, 1) := by decide +kernel
theorem dL_act_176 : decode cL_act 176 = .ok (.irem, 1) := by decide +kernel
theorem dL_act_177 : decode cL_act 177 = .ok (.ifCond .ne 8, 3) := by decide +kernel
theorem dL_act_180 : decode cL_act 180 = .ok (.bipush 7, 2) := by decide +kernel
theorem dL_act_182 : decode cL_act 182 = .ok (.goto 10, 3) := by decide +kernel
theorem dL_act_185 : decode cL_act 185 = .ok (.iload_n 2, 1) := by decide +kernel
theorem dL_act_186 : decode cL_act 186 = .ok (.bipush 32, 2) := by decide +kernel
theorem dL_act_188 : decode cL_act 188 = .ok (.idiv, 1) := by decide +kernel
theorem dL_act_189 : decode cL_act 189 = .ok (.bipush 8, 2) := by decide +kernel
theorem dL_act_191 : decode cL_act 191 = .ok (.irem, 1) := by decide +kernel
theorem dL_act_192 : decode cL_act 192 = .ok (.invokestatic 189, 3) := by decide +kernel
theorem dL_act_195 : decode cL_act 195 = .ok (.ireturn, 1) := by decide +kernel
theorem dL_act_196 : decode cL_act 196 = .ok (.aload_n 0, 1) := by decide +kernel
theorem dL_act_197 : decode cL_act 197 = .ok (.bipush 8, 2) := by decide +kernel
theorem dL_act_199 : decode cL_act 199 = .ok (.iload 4, 2) := by decide +kernel
theorem dL_act_201 : decode cL_act 201 = .ok (.iload 6, 2) := by decide +kernel
theorem dL_act_203 : decode cL_act 203 = .ok (.iconst 1, 1) := by decide +kernel
theorem dL_act_204 : decode cL_act 204 = .ok (.iload_n 2, 1) := by decide +kernel
theorem dL_act_205 : decode cL_act 205 = .ok (.sipush 2048, 3) := by decide +kernel
theorem dL_act_208 : decode cL_act 208 = .ok (.idiv, 1) := by decide +kernel
theorem dL_act_209 : decode cL_act 209 = .ok (.bipush 12, 2) := by decide +kernel
theorem dL_act_211 : decode cL_act 211 = .ok (.irem, 1) := by decide +kernel
theorem dL_act_212 : decode cL_act 212 = .ok (.iadd, 1) := by decide +kernel
theorem dL_act_213 : decode cL_act 213 = .ok (.invokestatic 189, 3) := by decide +kernel
theorem dL_act_216 : decode cL_act 216 = .ok (.ireturn, 1) := by decide +kernel
theorem dL_act_217 : decode cL_act 217 = .ok (.aload_n 0, 1) := by decide +kernel
theorem dL_act_218 : decode cL_act 218 = .ok (.bipush 9, 2) := by decide +kernel
theorem dL_act_220 : decode cL_act 220 = .ok (.iload 4, 2) := by decide +kernel
theorem dL_act_222 : decode cL_act 222 = .ok (.iconst 0, 1) := by decide +kernel
theorem dL_act_223 : decode cL_act 223 = .ok (.iconst 0, 1) := by decide +kernel
theorem dL_act_224 : decode cL_act 224 = .ok (.invokestatic 189, 3) := by decide +kernel
theorem dL_act_227 : decode cL_act 227 = .ok (.ireturn, 1) := by decide +kernel
theorem dL_act_228 : decode cL_act 228 = .ok (.aload_n 0, 1) := by decide +kernel
theorem dL_act_229 : decode cL_act 229 = .ok (.bipush 10, 2) := by decide +kernel
theorem dL_act_231 : decode cL_act 231 = .ok (.iload 4, 2) := by decide +kernel
theorem dL_act_233 : decode cL_act 233 = .ok (.iload 5, 2) := by decide +kernel
theorem dL_act_235 : decode cL_act 235 = .ok (.iconst 0, 1) := by decide +kernel
theorem dL_act_236 : decode cL_act 236 = .ok (.invokestatic 189, 3) := by decide +kernel
theorem dL_act_239 : decode cL_act 239 = .ok (.ireturn, 1) := by decide +kernel
theorem dL_act_240 : decode cL_act 240 = .ok (.aload_n 0, 1) := by decide +kernel
theorem dL_act_241 : decode cL_act 241 = .ok (.bipush 11, 2) := by decide +kernel
theorem dL_act_243 : decode cL_act 243 = .ok (.iload 6, 2) := by decide +kernel
theorem dL_act_245 : decode cL_act 245 = .ok (.iload 5, 2) := by decide +kernel
theorem dL_act_247 : decode cL_act 247 = .ok (.iconst 1, 1) := by decide +kernel
theorem dL_act_248 : decode cL_act 248 = .ok (.iload_n 2, 1) := by decide +kernel
theorem dL_act_249 : decode cL_act 249 = .ok (.sipush 2048, 3) := by decide +kernel
theorem dL_act_252 : decode cL_act 252 = .ok (.idiv, 1) := by decide +kernel
theorem dL_act_253 : decode cL_act 253 = .ok (.bipush 12, 2) := by decide +kernel
theorem dL_act_255 : decode cL_act 255 = .ok (.irem, 1) := by decide +kernel
theorem dL_act_256 : decode cL_act 256 = .ok (.iadd, 1) := by decide +kernel
theorem dL_act_257 : decode cL_act 257 = .ok (.invokestatic 189, 3) := by decide +kernel
theorem dL_act_260 : decode cL_act 260 = .ok (.ireturn, 1) := by decide +kernel
theorem dL_act_261 : decode cL_act 261 = .ok (.aload_n 0, 1) := by decide +kernel
theorem dL_act_262 : decode cL_act 262 = .ok (.bipush 12, 2) := by decide +kernel
theorem dL_act_264 : decode cL_act 264 = .ok (.iload 4, 2) := by decide +kernel
theorem dL_act_266 : decode cL_act 266 = .ok (.iconst 0, 1) := by decide +kernel
theorem dL_act_267 : decode cL_act 267 = .ok (.iconst 0, 1) := by decide +kernel
theorem dL_act_268 : decode cL_act 268 = .ok (.invokestatic 189, 3) := by decide +kernel
theorem dL_act_271 : decode cL_act 271 = .ok (.ireturn, 1) := by decide +kernel
theorem dL_act_272 : decode cL_act 272 = .ok (.aload_n 0, 1) := by decide +kernel
theorem dL_act_273 : decode cL_act 273 = .ok (.iload 6, 2) := by decide +kernel
theorem dL_act_275 : decode cL_act 275 = .ok (.iload_n 2, 1) := by decide +kernel
theorem dL_act_276 : decode cL_act 276 = .ok (.iconst 5, 1) := by decide +kernel
theorem dL_act_277 : decode cL_act 277 = .ok (.irem, 1) := by decide +kernel
theorem dL_act_278 : decode cL_act 278 = .ok (.iload_n 2, 1) := by decide +kernel
theorem dL_act_279 : decode cL_act 279 = .ok (.bipush 16, 2) := by decide +kernel
theorem dL_act_281 : decode cL_act 281 = .ok (.idiv, 1) := by decide +kernel
theorem dL_act_282 : decode cL_act 282 = .ok (.iconst 3, 1) := by decide +kernel
theorem dL_act_283 : decode cL_act 283 = .ok (.irem, 1) := by decide +kernel
theorem dL_act_284 : decode cL_act 284 = .ok (.iload_n 2, 1) := by decide +kernel
theorem dL_act_285 : decode cL_act 285 = .ok (.bipush 64, 2) := by decide +kernel
theorem dL_act_287 : decode cL_act 287 = .ok (.idiv, 1) := by decide +kernel
theorem dL_act_288 : decode cL_act 288 = .ok (.iconst 3, 1) := by decide +kernel
theorem dL_act_289 : decode cL_act 289 = .ok (.irem, 1) := by decide +kernel
theorem dL_act_290 : decode cL_act 290 = .ok (.invokestatic 196, 3) := by decide +kernel
theorem dL_act_293 : decode cL_act 293 = .ok (.ireturn, 1) := by decide +kernel
theorem dL_act_294 : decode cL_act 294 = .ok (.aload_n 0, 1) := by decide +kernel
theorem dL_act_295 : decode cL_act 295 = .ok (.bipush 14, 2) := by decide +kernel
theorem dL_act_297 : decode cL_act 297 = .ok (.iload 4, 2) := by decide +kernel
theorem dL_act_299 : decode cL_act 299 = .ok (.iload_n 2, 1) := by decide +kernel
theorem dL_act_300 : decode cL_act 300 = .ok (.bipush 16, 2) := by decide +kernel
theorem dL_act_302 : decode cL_act 302 = .ok (.idiv, 1) := by decide +kernel
theorem dL_act_303 : decode cL_act 303 = .ok (.iconst 3, 1) := by decide +kernel
theorem dL_act_304 : decode cL_act 304 = .ok (.irem, 1) := by decide +kernel
theorem dL_act_305 : decode cL_act 305 = .ok (.iconst 0, 1) := by decide +kernel
theorem dL_act_306 : decode cL_act 306 = .ok (.invokestatic 189, 3) := by decide +kernel
theorem dL_act_309 : decode cL_act 309 = .ok (.ireturn, 1) := by decide +kernel
theorem dL_act_310 : decode cL_act 310 = .ok (.aload_n 0, 1) := by decide +kernel
theorem dL_act_311 : decode cL_act 311 = .ok (.bipush 16, 2) := by decide +kernel
theorem dL_act_313 : decode cL_act 313 = .ok (.iload_n 2, 1) := by decide +kernel
theorem dL_act_314 : decode cL_act 314 = .ok (.iconst 3, 1) := by decide +kernel
theorem dL_act_315 : decode cL_act 315 = .ok (.irem, 1) := by decide +kernel
theorem dL_act_316 : decode cL_act 316 = .ok (.iload_n 2, 1) := by decide +kernel
theorem dL_act_317 : decode cL_act 317 = .ok (.iconst 4, 1) := by decide +kernel
theorem dL_act_318 : decode cL_act 318 = .ok (.idiv, 1) := by decide +kernel
theorem dL_act_319 : decode cL_act 319 = .ok (.bipush 90, 2) := by decide +kernel
theorem dL_act_321 : decode cL_act 321 = .ok (.irem, 1) := by decide +kernel
theorem dL_act_322 : decode cL_act 322 = .ok (.iconst 0, 1) := by decide +kernel
theorem dL_act_323 : decode cL_act 323 = .ok (.invokestatic 189, 3) := by decide +kernel
theorem dL_act_326 : decode cL_act 326 = .ok (.ireturn, 1) := by decide +kernel
theorem dL_act_327 : decode cL_act 327 = .ok (.aload_n 0, 1) := by decide +kernel
theorem dL_act_328 : decode cL_act 328 = .ok (.bipush 17, 2) := by decide +kernel
theorem dL_act_330 : decode cL_act 330 = .ok (.iconst 0, 1) := by decide +kernel
theorem dL_act_331 : decode cL_act 331 = .ok (.iconst 0, 1) := by decide +kernel
theorem dL_act_332 : decode cL_act 332 = .ok (.iconst 0, 1) := by decide +kernel
theorem dL_act_333 : decode cL_act 333 = .ok (.invokestatic 189, 3) := by decide +kernel
theorem dL_act_336 : decode cL_act 336 = .ok (.ireturn, 1) := by decide +kernel
theorem dL_act_337 : decode cL_act 337 = .ok (.aload_n 0, 1) := by decide +kernel
theorem dL_act_338 : decode cL_act 338 = .ok (.bipush 22, 2) := by decide +kernel
theorem dL_act_340 : decode cL_act 340 = .ok (.iload_n 2, 1) := by decide +kernel
theorem dL_act_341 : decode cL_act 341 = .ok (.iconst 2, 1) := by decide +kernel
theorem dL_act_342 : decode cL_act 342 = .ok (.irem, 1) := by decide +kernel
theorem dL_act_343 : decode cL_act 343 = .ok (.iconst 0, 1) := by decide +kernel
theorem dL_act_344 : decode cL_act 344 = .ok (.iconst 0, 1) := by decide +kernel
theorem dL_act_345 : decode cL_act 345 = .ok (.invokestatic 189, 3) := by decide +kernel
theorem dL_act_348 : decode cL_act 348 = .ok (.ireturn, 1) := by decide +kernel
theorem dL_act_349 : decode cL_act 349 = .ok (.aload_n 0, 1) := by decide +kernel
theorem dL_act_350 : decode cL_act 350 = .ok (.bipush 23, 2) := by decide +kernel
theorem dL_act_352 : decode cL_act 352 = .ok (.iload_n 2, 1) := by decide +kernel
theorem dL_act_353 : decode cL_act 353 = .ok (.iconst 2, 1) := by decide +kernel
theorem dL_act_354 : decode cL_act 354 = .ok (.irem, 1) := by decide +kernel
theorem dL_act_355 : decode cL_act 355 = .ok (.iconst 0, 1) := by decide +kernel
theorem dL_act_356 : decode cL_act 356 = .ok (.iconst 0, 1) := by decide +kernel
theorem dL_act_357 : decode cL_act 357 = .ok (.invokestatic 189, 3) := by decide +kernel
theorem dL_act_360 : decode cL_act 360 = .ok (.ireturn, 1) := by decide +kernel
theorem dL_act_361 : decode cL_act 361 = .ok (.aload_n 0, 1) := by decide +kernel
theorem dL_act_362 : decode cL_act 362 = .ok (.invokevirtual 220, 3) := by decide +kernel
theorem dL_act_365 : decode cL_act 365 = .ok (.pop, 1) := by decide +kernel
theorem dL_act_366 : decode cL_act 366 = .ok (.aload_n 0, 1) := by decide +kernel
theorem dL_act_367 : decode cL_act 367 = .ok (.iconst 0, 1) := by decide +kernel
theorem dL_act_368 : decode cL_act 368 = .ok (.bipush 85, 2) := by decide +kernel
theorem dL_act_370 : decode cL_act 370 = .ok (.iconst 0, 1) := by decide +kernel
theorem dL_act_371 : decode cL_act 371 = .ok (.iconst 0, 1) := by decide +kernel
theorem dL_act_372 : decode cL_act 372 = .ok (.invokestatic 189, 3) := by decide +kernel
theorem dL_act_375 : decode cL_act 375 = .ok (.aload_n 0, 1) := by decide +kernel
theorem dL_act_376 : decode cL_act 376 = .ok (.iconst 0, 1) := by decide +kernel
theorem dL_act_377 : decode cL_act 377 = .ok (.bipush 110, 2) := by decide +kernel
theorem dL_act_379 : decode cL_act 379 = .ok (.iconst 0, 1) := by decide +kernel
theorem dL_act_380 : decode cL_act 380 = .ok (.iconst 0, 1) := by decide +kernel
theorem dL_act_381 : decode cL_act 381 = .ok (.invokestatic 189, 3) := by decide +kernel
theorem dL_act_384 : decode cL_act 384 = .ok (.iadd, 1) := by decide +kernel
theorem dL_act_385 : decode cL_act 385 = .ok (.aload_n 0, 1) := by decide +kernel
theorem dL_act_386 : decode cL_act 386 = .ok (.iconst 0, 1) := by decide +kernel
theorem dL_act_387 : decode cL_act 387 = .ok (.bipush 48, 2) := by decide +kernel
theorem dL_act_389 : decode cL_act 389 = .ok (.iload_n 2, 1) := by decide +kernel
theorem dL_act_390 : decode cL_act 390 = .ok (.iconst 4, 1) := by decide +kernel
theorem dL_act_391 : decode cL_act 391 = .ok (.irem, 1) := by decide +kernel
theorem dL_act_392 : decode cL_act 392 = .ok (.iadd, 1) := by decide +kernel
theorem dL_act_393 : decode cL_act 393 = .ok (.iconst 0, 1) := by decide +kernel
theorem dL_act_394 : decode cL_act 394 = .ok (.iconst 0, 1) := by decide +kernel
theorem dL_act_395 : decode cL_act 395 = .ok (.invokestatic 189, 3) := by decide +kernel
theorem dL_act_398 : decode cL_act 398 = .ok (.iadd, 1) := by decide +kernel
theorem dL_act_399 : decode cL_act 399 = .ok (.aload_n 0, 1) := by decide +kernel
theorem dL_act_400 : decode cL_act 400 = .ok (.iconst 0, 1) := by decide +kernel
theorem dL_act_401 : decode cL_act 401 = .ok (.bipush 48, 2) := by decide +kernel
theorem dL_act_403 : decode cL_act 403 = .ok (.iload_n 2, 1) := by decide +kernel
theorem dL_act_404 : decode cL_act 404 = .ok (.iconst 4, 1) := by decide +kernel
theorem dL_act_405 : decode cL_act 405 = .ok (.idiv, 1) := by decide +kernel
theorem dL_act_406 : decode cL_act 406 = .ok (.iconst 5, 1) := by decide +kernel
theorem dL_act_407 : decode cL_act 407 = .ok (.irem, 1) := by decide +kernel
theorem dL_act_408 : decode cL_act 408 = .ok (.iadd, 1) := by decide +kernel
theorem dL_act_409 : decode cL_act 409 = .ok (.iconst 0, 1) := by decide +kernel
theorem dL_act_410 : decode cL_act 410 = .ok (.iconst 0, 1) := by decide +kernel
theorem dL_act_411 : decode cL_act 411 = .ok (.invokestatic 189, 3) := by decide +kernel
theorem dL_act_414 : decode cL_act 414 = .ok (.iadd, 1) := by decide +kernel
theorem dL_act_415 : decode cL_act 415 = .ok (.aload_n 0, 1) := by decide +kernel
theorem dL_act_416 : decode cL_act 416 = .ok (.iconst 0, 1) := by decide +kernel
theorem dL_act_417 : decode cL_act 417 = .ok (.bipush 48, 2) := by decide +kernel
theorem dL_act_419 : decode cL_act 419 = .ok (.iload_n 2, 1) := by decide +kernel
theorem dL_act_420 : decode cL_act 420 = .ok (.bipush 32, 2) := by decide +kernel
theorem dL_act_422 : decode cL_act 422 = .ok (.idiv, 1) := by decide +kernel
theorem dL_act_423 : decode cL_act 423 = .ok (.bipush 9, 2) := by decide +kernel
theorem dL_act_425 : decode cL_act 425 = .ok (.irem, 1) := by decide +kernel
theorem dL_act_426 : decode cL_act 426 = .ok (.iadd, 1) := by decide +kernel
theorem dL_act_427 : decode cL_act 427 = .ok (.iconst 0, 1) := by decide +kernel
theorem dL_act_428 : decode cL_act 428 = .ok (.iconst 0, 1) := by decide +kernel
theorem dL_act_429 : decode cL_act 429 = .ok (.invokestatic 189, 3) := by decide +kernel
theorem dL_act_432 : decode cL_act 432 = .ok (.iadd, 1) := by decide +kernel
theorem dL_act_433 : decode cL_act 433 = .ok (.iload_n 2, 1) := by decide +kernel
theorem dL_act_434 : decode cL_act 434 = .ok (.bipush 64, 2) := by decide +kernel
theorem dL_act_436 : decode cL_act 436 = .ok (.irem, 1) := by decide +kernel
theorem dL_act_437 : decode cL_act 437 = .ok (.ifCond .ne 14, 3) := by decide +kernel
theorem dL_act_440 : decode cL_act 440 = .ok (.aload_n 0, 1) := by decide +kernel
theorem dL_act_441 : decode cL_act 441 = .ok (.iconst 1, 1) := by decide +kernel
theorem dL_act_442 : decode cL_act 442 = .ok (.iconst 0, 1) := by decide +kernel
theorem dL_act_443 : decode cL_act 443 = .ok (.iconst 0, 1) := by decide +kernel
theorem dL_act_444 : decode cL_act 444 = .ok (.iconst 0, 1) := by decide +kernel
theorem dL_act_445 : decode cL_act 445 = .ok (.invokestatic 189, 3) := by decide +kernel
theorem dL_act_448 : decode cL_act 448 = .ok (.goto 4, 3) := by decide +kernel
theorem dL_act_451 : decode cL_act 451 = .ok (.iconst 0, 1) := by decide +kernel
theorem dL_act_452 : decode cL_act 452 = .ok (.iadd, 1) := by decide +kernel
theorem dL_act_453 : decode cL_act 453 = .ok (.ireturn, 1) := by decide +kernel
theorem dL_act_454 : decode cL_act 454 = .ok (.aload_n 0, 1) := by decide +kernel
theorem dL_act_455 : decode cL_act 455 = .ok (.bipush 13, 2) := by decide +kernel
theorem dL_act_457 : decode cL_act 457 = .ok (.iload 4, 2) := by decide +kernel
theorem dL_act_459 : decode cL_act 459 = .ok (.iload 5, 2) := by decide +kernel
theorem dL_act_461 : decode cL_act 461 = .ok (.iload_n 2, 1) := by decide +kernel
theorem dL_act_462 : decode cL_act 462 = .ok (.sipush 256, 3) := by decide +kernel
theorem dL_act_465 : decode cL_act 465 = .ok (.idiv, 1) := by decide +kernel
theorem dL_act_466 : decode cL_act 466 = .ok (.iconst 3, 1) := by decide +kernel
theorem dL_act_467 : decode cL_act 467 = .ok (.irem, 1) := by decide +kernel
theorem dL_act_468 : decode cL_act 468 = .ok (.invokestatic 189, 3) := by decide +kernel
theorem dL_act_471 : decode cL_act 471 = .ok (.ireturn, 1) := by decide +kernel
