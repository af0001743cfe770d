theorem d_Sha_compress_117 : decode prog_9_method_8_code 117 = .ok (.istore_n 3, 1) := by decide +kernel
theorem d_Sha_compress_118 : decode prog_9_method_8_code 118 = .ok (.aload_n 0, 1) := by decide +kernel
theorem d_Sha_compress_119 : decode prog_9_method_8_code 119 = .ok (.getfield 9, 3) := by decide +kernel
theorem d_Sha_compress_122 : decode prog_9_method_8_code 122 = .ok (.iconst 2, 1) := by decide +kernel
theorem d_Sha_compress_123 : decode prog_9_method_8_code 123 = .ok (.iaload, 1) := by decide +kernel
theorem d_Sha_compress_124 : decode prog_9_method_8_code 124 = .ok (.istore 4, 2) := by decide +kernel
theorem d_Sha_compress_126 : decode prog_9_method_8_code 126 = .ok (.aload_n 0, 1) := by decide +kernel
theorem d_Sha_compress_127 : decode prog_9_method_8_code 127 = .ok (.getfield 9, 3) := by decide +kernel
theorem d_Sha_compress_130 : decode prog_9_method_8_code 130 = .ok (.iconst 3, 1) := by decide +kernel
theorem d_Sha_compress_131 : decode prog_9_method_8_code 131 = .ok (.iaload, 1) := by decide +kernel
theorem d_Sha_compress_132 : decode prog_9_method_8_code 132 = .ok (.istore 5, 2) := by decide +kernel
theorem d_Sha_compress_134 : decode prog_9_method_8_code 134 = .ok (.aload_n 0, 1) := by decide +kernel
theorem d_Sha_compress_135 : decode prog_9_method_8_code 135 = .ok (.getfield 9, 3) := by decide +kernel
theorem d_Sha_compress_138 : decode prog_9_method_8_code 138 = .ok (.iconst 4, 1) := by decide +kernel
theorem d_Sha_compress_139 : decode prog_9_method_8_code 139 = .ok (.iaload, 1) := by decide +kernel
theorem d_Sha_compress_140 : decode prog_9_method_8_code 140 = .ok (.istore 6, 2) := by decide +kernel
theorem d_Sha_compress_142 : decode prog_9_method_8_code 142 = .ok (.aload_n 0, 1) := by decide +kernel
theorem d_Sha_compress_143 : decode prog_9_method_8_code 143 = .ok (.getfield 9, 3) := by decide +kernel
theorem d_Sha_compress_146 : decode prog_9_method_8_code 146 = .ok (.iconst 5, 1) := by decide +kernel
theorem d_Sha_compress_147 : decode prog_9_method_8_code 147 = .ok (.iaload, 1) := by decide +kernel
theorem d_Sha_compress_148 : decode prog_9_method_8_code 148 = .ok (.istore 7, 2) := by decide +kernel
theorem d_Sha_compress_150 : decode prog_9_method_8_code 150 = .ok (.aload_n 0, 1) := by decide +kernel
theorem d_Sha_compress_151 : decode prog_9_method_8_code 151 = .ok (.getfield 9, 3) := by decide +kernel
theorem d_Sha_compress_154 : decode prog_9_method_8_code 154 = .ok (.bipush (6), 2) := by decide +kernel
theorem d_Sha_compress_156 : decode prog_9_method_8_code 156 = .ok (.iaload, 1) := by decide +kernel
theorem d_Sha_compress_157 : decode prog_9_method_8_code 157 = .ok (.istore 8, 2) := by decide +kernel
theorem d_Sha_compress_159 : decode prog_9_method_8_code 159 = .ok (.aload_n 0, 1) := by decide +kernel
theorem d_Sha_compress_160 : decode prog_9_method_8_code 160 = .ok (.getfield 9, 3) := by decide +kernel
theorem d_Sha_compress_163 : decode prog_9_method_8_code 163 = .ok (.bipush (7), 2) := by decide +kernel
theorem d_Sha_compress_165 : decode prog_9_method_8_code 165 = .ok (.iaload, 1) := by decide +kernel
theorem d_Sha_compress_166 : decode prog_9_method_8_code 166 = .ok (.istore 9, 2) := by decide +kernel
theorem d_Sha_compress_168 : decode prog_9_method_8_code 168 = .ok (.iconst 0, 1) := by decide +kernel
theorem d_Sha_compress_169 : decode prog_9_method_8_code 169 = .ok (.istore 10, 2) := by decide +kernel
theorem d_Sha_compress_171 : decode prog_9_method_8_code 171 = .ok (.iload 10, 2) := by decide +kernel
theorem d_Sha_compress_173 : decode prog_9_method_8_code 173 = .ok (.bipush (64), 2) := by decide +kernel
theorem d_Sha_compress_175 : decode prog_9_method_8_code 175 = .ok (.if_icmp .ge (153), 3) := by decide +kernel
theorem d_Sha_compress_178 : decode prog_9_method_8_code 178 = .ok (.iload 9, 2) := by decide +kernel
theorem d_Sha_compress_180 : decode prog_9_method_8_code 180 = .ok (.iload 6, 2) := by decide +kernel
theorem d_Sha_compress_182 : decode prog_9_method_8_code 182 = .ok (.bipush (6), 2) := by decide +kernel
theorem d_Sha_compress_184 : decode prog_9_method_8_code 184 = .ok (.iushr, 1) := by decide +kernel
theorem d_Sha_compress_185 : decode prog_9_method_8_code 185 = .ok (.iload 6, 2) := by decide +kernel
theorem d_Sha_compress_187 : decode prog_9_method_8_code 187 = .ok (.bipush (26), 2) := by decide +kernel
theorem d_Sha_compress_189 : decode prog_9_method_8_code 189 = .ok (.ishl, 1) := by decide +kernel
theorem d_Sha_compress_190 : decode prog_9_method_8_code 190 = .ok (.ior, 1) := by decide +kernel
theorem d_Sha_compress_191 : decode prog_9_method_8_code 191 = .ok (.iload 6, 2) := by decide +kernel
theorem d_Sha_compress_193 : decode prog_9_method_8_code 193 = .ok (.bipush (11), 2) := by decide +kernel
theorem d_Sha_compress_195 : decode prog_9_method_8_code 195 = .ok (.iushr, 1) := by decide +kernel
theorem d_Sha_compress_196 : decode prog_9_method_8_code 196 = .ok (.iload 6, 2) := by decide +kernel
theorem d_Sha_compress_198 : decode prog_9_method_8_code 198 = .ok (.bipush (21), 2) := by decide +kernel
theorem d_Sha_compress_200 : decode prog_9_method_8_code 200 = .ok (.ishl, 1) := by decide +kernel
theorem d_Sha_compress_201 : decode prog_9_method_8_code 201 = .ok (.ior, 1) := by decide +kernel
theorem d_Sha_compress_202 : decode prog_9_method_8_code 202 = .ok (.ixor, 1) := by decide +kernel
theorem d_Sha_compress_203 : decode prog_9_method_8_code 203 = .ok (.iload 6, 2) := by decide +kernel
theorem d_Sha_compress_205 : decode prog_9_method_8_code 205 = .ok (.bipush (25), 2) := by decide +kernel
theorem d_Sha_compress_207 : decode prog_9_method_8_code 207 = .ok (.iushr, 1) := by decide +kernel
theorem d_Sha_compress_208 : decode prog_9_method_8_code 208 = .ok (.iload 6, 2) := by decide +kernel
theorem d_Sha_compress_210 : decode prog_9_method_8_code 210 = .ok (.bipush (7), 2) := by decide +kernel
theorem d_Sha_compress_212 : decode prog_9_method_8_code 212 = .ok (.ishl, 1) := by decide +kernel
theorem d_Sha_compress_213 : decode prog_9_method_8_code 213 = .ok (.ior, 1) := by decide +kernel
theorem d_Sha_compress_214 : decode prog_9_method_8_code 214 = .ok (.ixor, 1) := by decide +kernel
theorem d_Sha_compress_215 : decode prog_9_method_8_code 215 = .ok (.iadd, 1) := by decide +kernel
theorem d_Sha_compress_216 : decode prog_9_method_8_code 216 = .ok (.iload 6, 2) := by decide +kernel
theorem d_Sha_compress_218 : decode prog_9_method_8_code 218 = .ok (.iload 7, 2) := by decide +kernel
theorem d_Sha_compress_220 : decode prog_9_method_8_code 220 = .ok (.iand, 1) := by decide +kernel
theorem d_Sha_compress_221 : decode prog_9_method_8_code 221 = .ok (.iload 6, 2) := by decide +kernel
theorem d_Sha_compress_223 : decode prog_9_method_8_code 223 = .ok (.iconst (-1), 1) := by decide +kernel
theorem d_Sha_compress_224 : decode prog_9_method_8_code 224 = .ok (.ixor, 1) := by decide +kernel
theorem d_Sha_compress_225 : decode prog_9_method_8_code 225 = .ok (.iload 8, 2) := by decide +kernel
theorem d_Sha_compress_227 : decode prog_9_method_8_code 227 = .ok (.iand, 1) := by decide +kernel
theorem d_Sha_compress_228 : decode prog_9_method_8_code 228 = .ok (.ixor, 1) := by decide +kernel
theorem d_Sha_compress_229 : decode prog_9_method_8_code 229 = .ok (.iadd, 1) := by decide +kernel
theorem d_Sha_compress_230 : decode prog_9_method_8_code 230 = .ok (.getstatic 63, 3) := by decide +kernel
theorem d_Sha_compress_233 : decode prog_9_method_8_code 233 = .ok (.iload 10, 2) := by decide +kernel
theorem d_Sha_compress_235 : decode prog_9_method_8_code 235 = .ok (.iaload, 1) := by decide +kernel
theorem d_Sha_compress_236 : decode prog_9_method_8_code 236 = .ok (.iadd, 1) := by decide +kernel
theorem d_Sha_compress_237 : decode prog_9_method_8_code 237 = .ok (.aload_n 1, 1) := by decide +kernel
theorem d_Sha_compress_238 : decode prog_9_method_8_code 238 = .ok (.iload 10, 2) := by decide +kernel
theorem d_Sha_compress_240 : decode prog_9_method_8_code 240 = .ok (.iaload, 1) := by decide +kernel
theorem d_Sha_compress_241 : decode prog_9_method_8_code 241 = .ok (.iadd, 1) := by decide +kernel
theorem d_Sha_compress_242 : decode prog_9_method_8_code 242 = .ok (.istore 11, 2) := by decide +kernel
theorem d_Sha_compress_244 : decode prog_9_method_8_code 244 = .ok (.iload_n 2, 1) := by decide +kernel
theorem d_Sha_compress_245 : decode prog_9_method_8_code 245 = .ok (.iconst 2, 1) := by decide +kernel
theorem d_Sha_compress_246 : decode prog_9_method_8_code 246 = .ok (.iushr, 1) := by decide +kernel
theorem d_Sha_compress_247 : decode prog_9_method_8_code 247 = .ok (.iload_n 2, 1) := by decide +kernel
theorem d_Sha_compress_248 : decode prog_9_method_8_code 248 = .ok (.bipush (30), 2) := by decide +kernel
theorem d_Sha_compress_250 : decode prog_9_method_8_code 250 = .ok (.ishl, 1) := by decide +kernel
theorem d_Sha_compress_251 : decode prog_9_method_8_code 251 = .ok (.ior, 1) := by decide +kernel
theorem d_Sha_compress_252 : decode prog_9_method_8_code 252 = .ok (.iload_n 2, 1) := by decide +kernel
theorem d_Sha_compress_253 : decode prog_9_method_8_code 253 = .ok (.bipush (13), 2) := by decide +kernel
theorem d_Sha_compress_255 : decode prog_9_method_8_code 255 = .ok (.iushr, 1) := by decide +kernel
theorem d_Sha_compress_256 : decode prog_9_method_8_code 256 = .ok (.iload_n 2, 1) := by decide +kernel
theorem d_Sha_compress_257 : decode prog_9_method_8_code 257 = .ok (.bipush (19), 2) := by decide +kernel
theorem d_Sha_compress_259 : decode prog_9_method_8_code 259 = .ok (.ishl, 1) := by decide +kernel
theorem d_Sha_compress_260 : decode prog_9_method_8_code 260 = .ok (.ior, 1) := by decide +kernel
theorem d_Sha_compress_261 : decode prog_9_method_8_code 261 = .ok (.ixor, 1) := by decide +kernel
theorem d_Sha_compress_262 : decode prog_9_method_8_code 262 = .ok (.iload_n 2, 1) := by decide +kernel
theorem d_Sha_compress_263 : decode prog_9_method_8_code 263 = .ok (.bipush (22), 2) := by decide +kernel
theorem d_Sha_compress_265 : decode prog_9_method_8_code 265 = .ok (.iushr, 1) := by decide +kernel
theorem d_Sha_compress_266 : decode prog_9_method_8_code 266 = .ok (.iload_n 2, 1) := by decide +kernel
theorem d_Sha_compress_267 : decode prog_9_method_8_code 267 = .ok (.bipush (10), 2) := by decide +kernel
theorem d_Sha_compress_269 : decode prog_9_method_8_code 269 = .ok (.ishl, 1) := by decide +kernel
theorem d_Sha_compress_270 : decode prog_9_method_8_code 270 = .ok (.ior, 1) := by decide +kernel
theorem d_Sha_compress_271 : decode prog_9_method_8_code 271 = .ok (.ixor, 1) := by decide +kernel
theorem d_Sha_compress_272 : decode prog_9_method_8_code 272 = .ok (.iload_n 2, 1) := by decide +kernel
theorem d_Sha_compress_273 : decode prog_9_method_8_code 273 = .ok (.iload_n 3, 1) := by decide +kernel
theorem d_Sha_compress_274 : decode prog_9_method_8_code 274 = .ok (.iand, 1) := by decide +kernel
theorem d_Sha_compress_275 : decode prog_9_method_8_code 275 = .ok (.iload_n 2, 1) := by decide +kernel
theorem d_Sha_compress_276 : decode prog_9_method_8_code 276 = .ok (.iload 4, 2) := by decide +kernel
theorem d_Sha_compress_278 : decode prog_9_method_8_code 278 = .ok (.iand, 1) := by decide +kernel
theorem d_Sha_compress_279 : decode prog_9_method_8_code 279 = .ok (.ixor, 1) := by decide +kernel
theorem d_Sha_compress_280 : decode prog_9_method_8_code 280 = .ok (.iload_n 3, 1) := by decide +kernel
theorem d_Sha_compress_281 : decode prog_9_method_8_code 281 = .ok (.iload 4, 2) := by decide +kernel
theorem d_Sha_compress_283 : decode prog_9_method_8_code 283 = .ok (.iand, 1) := by decide +kernel
theorem d_Sha_compress_284 : decode prog_9_method_8_code 284 = .ok (.ixor, 1) := by decide +kernel
theorem d_Sha_compress_285 : decode prog_9_method_8_code 285 = .ok (.iadd, 1) := by decide +kernel
theorem d_Sha_compress_286 : decode prog_9_method_8_code 286 = .ok (.istore 12, 2) := by decide +kernel
theorem d_Sha_compress_288 : decode prog_9_method_8_code 288 = .ok (.iload 8, 2) := by decide +kernel
theorem d_Sha_compress_290 : decode prog_9_method_8_code 290 = .ok (.istore 9, 2) := by decide +kernel
theorem d_Sha_compress_292 : decode prog_9_method_8_code 292 = .ok (.iload 7, 2) := by decide +kernel
theorem d_Sha_compress_294 : decode prog_9_method_8_code 294 = .ok (.istore 8, 2) := by decide +kernel
theorem d_Sha_compress_296 : decode prog_9_method_8_code 296 = .ok (.iload 6, 2) := by decide +kernel
theorem d_Sha_compress_298 : decode prog_9_method_8_code 298 = .ok (.istore 7, 2) := by decide +kernel
theorem d_Sha_compress_300 : decode prog_9_method_8_code 300 = .ok (.iload 5, 2) := by decide +kernel
theorem d_Sha_compress_302 : decode prog_9_method_8_code 302 = .ok (.iload 11, 2) := by decide +kernel
theorem d_Sha_compress_304 : decode prog_9_method_8_code 304 = .ok (.iadd, 1) := by decide +kernel
theorem d_Sha_compress_305 : decode prog_9_method_8_code 305 = .ok (.istore 6, 2) := by decide +kernel
theorem d_Sha_compress_307 : decode prog_9_method_8_code 307 = .ok (.iload 4, 2) := by decide +kernel
theorem d_Sha_compress_309 : decode prog_9_method_8_code 309 = .ok (.istore 5, 2) := by decide +kernel
theorem d_Sha_compress_311 : decode prog_9_method_8_code 311 = .ok (.iload_n 3, 1) := by decide +kernel
theorem d_Sha_compress_312 : decode prog_9_method_8_code 312 = .ok (.istore 4, 2) := by decide +kernel
theorem d_Sha_compress_314 : decode prog_9_method_8_code 314 = .ok (.iload_n 2, 1) := by decide +kernel
theorem d_Sha_compress_315 : decode prog_9_method_8_code 315 = .ok (.istore_n 3, 1) := by decide +kernel
theorem d_Sha_compress_316 : decode prog_9_method_8_code 316 = .ok (.iload 11, 2) := by decide +kernel
theorem d_Sha_compress_318 : decode prog_9_method_8_code 318 = .ok (.iload 12, 2) := by decide +kernel
theorem d_Sha_compress_320 : decode prog_9_method_8_code 320 = .ok (.iadd, 1) := by decide +kernel
theorem d_Sha_compress_321 : decode prog_9_method_8_code 321 = .ok (.istore_n 2, 1) := by decide +kernel
theorem d_Sha_compress_322 : decode prog_9_method_8_code 322 = .ok (.iinc 10 (1), 3) := by decide +kernel
theorem d_Sha_compress_325 : decode prog_9_method_8_code 325 = .ok (.goto (-154), 3) := by decide +kernel
theorem d_Sha_compress_328 : decode prog_9_method_8_code 328 = .ok (.aload_n 0, 1) := by decide +kernel
theorem d_Sha_compress_329 : decode prog_9_method_8_code 329 = .ok (.iload_n 2, 1) := by decide +kernel
theorem d_Sha_compress_330 : decode prog_9_method_8_code 330 = .ok (.iload_n 3, 1) := by decide +kernel
theorem d_Sha_compress_331 : decode prog_9_method_8_code 331 = .ok (.iload 4, 2) := by decide +kernel
theorem d_Sha_compress_333 : decode prog_9_method_8_code 333 = .ok (.iload 5, 2) := by decide +kernel
theorem d_Sha_compress_335 : decode prog_9_method_8_code 335 = .ok (.iconst 0, 1) := by decide +kernel
theorem d_Sha_compress_336 : decode prog_9_method_8_code 336 = .ok (.invokevirtual 66, 3) := by decide +kernel
theorem d_Sha_compress_339 : decode prog_9_method_8_code 339 = .ok (.aload_n 0, 1) := by decide +kernel
theorem d_Sha_compress_340 : decode prog_9_method_8_code 340 = .ok (.iload 6, 2) := by decide +kernel
theorem d_Sha_compress_342 : decode prog_9_method_8_code 342 = .ok (.iload 7, 2) := by decide +kernel
theorem d_Sha_compress_344 : decode prog_9_method_8_code 344 = .ok (.iload 8, 2) := by decide +kernel
theorem d_Sha_compress_346 : decode prog_9_method_8_code 346 = .ok (.iload 9, 2) := by decide +kernel
theorem d_Sha_compress_348 : decode prog_9_method_8_code 348 = .ok (.iconst 4, 1) := by decide +kernel
theorem d_Sha_compress_349 : decode prog_9_method_8_code 349 = .ok (.invokevirtual 66, 3) := by decide +kernel
theorem d_Sha_compress_352 : decode prog_9_method_8_code 352 = .ok (.aload_n 1, 1) := by decide +kernel
theorem d_Sha_compress_353 : decode prog_9_method_8_code 353 = .ok (.iconst 0, 1) := by decide +kernel
theorem d_Sha_compress_354 : decode prog_9_method_8_code 354 = .ok (.invokestatic 25, 3) := by decide +kernel
theorem d_Sha_compress_357 : decode prog_9_method_8_code 357 = .ok (.return_, 1) := by decide +kernel
theorem d_Sha_end_0 : decode prog_9_method_7_code 0 = .ok (.bipush (8), 2) := by decide +kernel
theorem d_Sha_end_2 : decode prog_9_method_7_code 2 = .ok (.aload_n 0, 1) := by decide +kernel
theorem d_Sha_end_3 : decode prog_9_method_7_code 3 = .ok (.getfield 31, 3) := by decide +kernel
theorem d_Sha_end_6 : decode prog_9_method_7_code 6 = .ok (.imul, 1) := by decide +kernel
theorem d_Sha_end_7 : decode prog_9_method_7_code 7 = .ok (.istore_n 2, 1) := by decide +kernel
theorem d_Sha_end_8 : decode prog_9_method_7_code 8 = .ok (.aload_n 0, 1) := by decide +kernel
theorem d_Sha_end_9 : decode prog_9_method_7_code 9 = .ok (.sipush (128), 3) := by decide +kernel
theorem d_Sha_end_12 : decode prog_9_method_7_code 12 = .ok (.invokevirtual 47, 3) := by decide +kernel
theorem d_Sha_end_15 : decode prog_9_method_7_code 15 = .ok (.bipush (56), 2) := by decide +kernel
theorem d_Sha_end_17 : decode prog_9_method_7_code 17 = .ok (.aload_n 0, 1) := by decide +kernel
theorem d_Sha_end_18 : decode prog_9_method_7_code 18 = .ok (.getfield 31, 3) := by decide +kernel
theorem d_Sha_end_21 : decode prog_9_method_7_code 21 = .ok (.isub, 1) := by decide +kernel
theorem d_Sha_end_22 : decode prog_9_method_7_code 22 = .ok (.bipush (63), 2) := by decide +kernel
theorem d_Sha_end_24 : decode prog_9_method_7_code 24 = .ok (.iand, 1) := by decide +kernel
theorem d_Sha_end_25 : decode prog_9_method_7_code 25 = .ok (.iconst 4, 1) := by decide +kernel
theorem d_Sha_end_26 : decode prog_9_method_7_code 26 = .ok (.iadd, 1) := by decide +kernel
theorem d_Sha_end_27 : decode prog_9_method_7_code 27 = .ok (.istore_n 3, 1) := by decide +kernel
theorem d_Sha_end_28 : decode prog_9_method_7_code 28 = .ok (.iconst 0, 1) := by decide +kernel
theorem d_Sha_end_29 : decode prog_9_method_7_code 29 = .ok (.istore 4, 2) := by decide +kernel
theorem d_Sha_end_31 : decode prog_9_method_7_code 31 = .ok (.iload 4, 2) := by decide +kernel
theorem d_Sha_end_33 : decode prog_9_method_7_code 33 = .ok (.iload_n 3, 1) := by decide +kernel
theorem d_Sha_end_34 : decode prog_9_method_7_code 34 = .ok (.if_icmp .ge (14), 3) := by decide +kernel
theorem d_Sha_end_37 : decode prog_9_method_7_code 37 = .ok (.aload_n 0, 1) := by decide +kernel
theorem d_Sha_end_38 : decode prog_9_method_7_code 38 = .ok (.iconst 0, 1) := by decide +kernel
theorem d_Sha_end_39 : decode prog_9_method_7_code 39 = .ok (.invokevirtual 47, 3) := by decide +kernel
theorem d_Sha_end_42 : decode prog_9_method_7_code 42 = .ok (.iinc 4 (1), 3) := by decide +kernel
theorem d_Sha_end_45 : decode prog_9_method_7_code 45 = .ok (.goto (-14), 3) := by decide +kernel
theorem d_Sha_end_48 : decode prog_9_method_7_code 48 = .ok (.bipush (24), 2) := by decide +kernel
theorem d_Sha_end_50 : decode prog_9_method_7_code 50 = .ok (.istore 4, 2) := by decide +kernel
theorem d_Sha_end_52 : decode prog_9_method_7_code 52 = .ok (.iload 4, 2) := by decide +kernel
theorem d_Sha_end_54 : decode prog_9_method_7_code 54 = .ok (.ifCond .lt (17), 3) := by decide +kernel
theorem d_Sha_end_57 : decode prog_9_method_7_code 57 = .ok (.aload_n 0, 1) := by decide +kernel
theorem d_Sha_end_58 : decode prog_9_method_7_code 58 = .ok (.iload_n 2, 1) := by decide +kernel
theorem d_Sha_end_59 : decode prog_9_method_7_code 59 = .ok (.iload 4, 2) := by decide +kernel
theorem d_Sha_end_61 : decode prog_9_method_7_code 61 = .ok (.iushr, 1) := by decide +kernel
theorem d_Sha_end_62 : decode prog_9_method_7_code 62 = .ok (.invokevirtual 47, 3) := by decide +kernel
theorem d_Sha_end_65 : decode prog_9_method_7_code 65 = .ok (.iinc 4 (-8), 3) := by decide +kernel
theorem d_Sha_end_68 : decode prog_9_method_7_code 68 = .ok (.goto (-16), 3) := by decide +kernel
theorem d_Sha_end_71 : decode prog_9_method_7_code 71 = .ok (.iconst 0, 1) := by decide +kernel
theorem d_Sha_end_72 : decode prog_9_method_7_code 72 = .ok (.istore 4, 2) := by decide +kernel
theorem d_Sha_end_74 : decode prog_9_method_7_code 74 = .ok (.iload 4, 2) := by decide +kernel
theorem d_Sha_end_76 : decode prog_9_method_7_code 76 = .ok (.bipush (8), 2) := by decide +kernel
theorem d_Sha_end_78 : decode prog_9_method_7_code 78 = .ok (.if_icmp .ge (38), 3) := by decide +kernel
theorem d_Sha_end_81 : decode prog_9_method_7_code 81 = .ok (.bipush (24), 2) := by decide +kernel
theorem d_Sha_end_83 : decode prog_9_method_7_code 83 = .ok (.istore 5, 2) := by decide +kernel
theorem d_Sha_end_85 : decode prog_9_method_7_code 85 = .ok (.iload 5, 2) := by decide +kernel
theorem d_Sha_end_87 : decode prog_9_method_7_code 87 = .ok (.ifCond .lt (23), 3) := by decide +kernel
theorem d_Sha_end_90 : decode prog_9_method_7_code 90 = .ok (.aload_n 1, 1) := by decide +kernel
theorem d_Sha_end_91 : decode prog_9_method_7_code 91 = .ok (.aload_n 0, 1) := by decide +kernel
theorem d_Sha_end_92 : decode prog_9_method_7_code 92 = .ok (.getfield 9, 3) := by decide +kernel
theorem d_Sha_end_95 : decode prog_9_method_7_code 95 = .ok (.iload 4, 2) := by decide +kernel
theorem d_Sha_end_97 : decode prog_9_method_7_code 97 = .ok (.iaload, 1) := by decide +kernel
theorem d_Sha_end_98 : decode prog_9_method_7_code 98 = .ok (.iload 5, 2) := by decide +kernel
theorem d_Sha_end_100 : decode prog_9_method_7_code 100 = .ok (.iushr, 1) := by decide +kernel
theorem d_Sha_end_101 : decode prog_9_method_7_code 101 = .ok (.invokevirtual 60, 3) := by decide +kernel
theorem d_Sha_end_104 : decode prog_9_method_7_code 104 = .ok (.iinc 5 (-8), 3) := by decide +kernel
theorem d_Sha_end_107 : decode prog_9_method_7_code 107 = .ok (.goto (-22), 3) := by decide +kernel
theorem d_Sha_end_110 : decode prog_9_method_7_code 110 = .ok (.iinc 4 (1), 3) := by decide +kernel
theorem d_Sha_end_113 : decode prog_9_method_7_code 113 = .ok (.goto (-39), 3) := by decide +kernel
theorem d_Sha_end_116 : decode prog_9_method_7_code 116 = .ok (.return_, 1) := by decide +kernel
theorem d_Sha_takeByte_0 : decode prog_9_method_3_code 0 = .ok (.aload_n 0, 1) := by decide +kernel
theorem d_Sha_takeByte_1 : decode prog_9_method_3_code 1 = .ok (.getfield 31, 3) := by decide +kernel
theorem d_Sha_takeByte_4 : decode prog_9_method_3_code 4 = .ok (.bipush (63), 2) := by decide +kernel
theorem d_Sha_takeByte_6 : decode prog_9_method_3_code 6 = .ok (.iand, 1) := by decide +kernel
theorem d_Sha_takeByte_7 : decode prog_9_method_3_code 7 = .ok (.istore_n 2, 1) := by decide +kernel
theorem d_Sha_takeByte_8 : decode prog_9_method_3_code 8 = .ok (.aload_n 0, 1) := by decide +kernel
theorem d_Sha_takeByte_9 : decode prog_9_method_3_code 9 = .ok (.getfield 13, 3) := by decide +kernel
theorem d_Sha_takeByte_12 : decode prog_9_method_3_code 12 = .ok (.iload_n 2, 1) := by decide +kernel
theorem d_Sha_takeByte_13 : decode prog_9_method_3_code 13 = .ok (.iconst 2, 1) := by decide +kernel
theorem d_Sha_takeByte_14 : decode prog_9_method_3_code 14 = .ok (.ishr, 1) := by decide +kernel
theorem d_Sha_takeByte_15 : decode prog_9_method_3_code 15 = .ok (.dup2, 1) := by decide +kernel
theorem d_Sha_takeByte_16 : decode prog_9_method_3_code 16 = .ok (.iaload, 1) := by decide +kernel
theorem d_Sha_takeByte_17 : decode prog_9_method_3_code 17 = .ok (.iload_n 1, 1) := by decide +kernel
theorem d_Sha_takeByte_18 : decode prog_9_method_3_code 18 = .ok (.sipush (255), 3) := by decide +kernel
theorem d_Sha_takeByte_21 : decode prog_9_method_3_code 21 = .ok (.iand, 1) := by decide +kernel
theorem d_Sha_takeByte_22 : decode prog_9_method_3_code 22 = .ok (.bipush (24), 2) := by decide +kernel
theorem d_Sha_takeByte_24 : decode prog_9_method_3_code 24 = .ok (.bipush (8), 2) := by decide +kernel
theorem d_Sha_takeByte_26 : decode prog_9_method_3_code 26 = .ok (.iload_n 2, 1) := by decide +kernel
theorem d_Sha_takeByte_27 : decode prog_9_method_3_code 27 = .ok (.iconst 3, 1) := by decide +kernel
theorem d_Sha_takeByte_28 : decode prog_9_method_3_code 28 = .ok (.iand, 1) := by decide +kernel
theorem d_Sha_takeByte_29 : decode prog_9_method_3_code 29 = .ok (.imul, 1) := by decide +kernel
theorem d_Sha_takeByte_30 : decode prog_9_method_3_code 30 = .ok (.isub, 1) := by decide +kernel
theorem d_Sha_takeByte_31 : decode prog_9_method_3_code 31 = .ok (.ishl, 1) := by decide +kernel
theorem d_Sha_takeByte_32 : decode prog_9_method_3_code 32 = .ok (.ior, 1) := by decide +kernel
theorem d_Sha_takeByte_33 : decode prog_9_method_3_code 33 = .ok (.iastore, 1) := by decide +kernel
theorem d_Sha_takeByte_34 : decode prog_9_method_3_code 34 = .ok (.aload_n 0, 1) := by decide +kernel
theorem d_Sha_takeByte_35 : decode prog_9_method_3_code 35 = .ok (.dup, 1) := by decide +kernel
theorem d_Sha_takeByte_36 : decode prog_9_method_3_code 36 = .ok (.getfield 31, 3) := by decide +kernel
theorem d_Sha_takeByte_39 : decode prog_9_method_3_code 39 = .ok (.iconst 1, 1) := by decide +kernel
theorem d_Sha_takeByte_40 : decode prog_9_method_3_code 40 = .ok (.iadd, 1) := by decide +kernel
theorem d_Sha_takeByte_41 : decode prog_9_method_3_code 41 = .ok (.putfield 31, 3) := by decide +kernel
theorem d_Sha_takeByte_44 : decode prog_9_method_3_code 44 = .ok (.iload_n 2, 1) := by decide +kernel
theorem d_Sha_takeByte_45 : decode prog_9_method_3_code 45 = .ok (.bipush (63), 2) := by decide +kernel
theorem d_Sha_takeByte_47 : decode prog_9_method_3_code 47 = .ok (.if_icmp .ne (7), 3) := by decide +kernel
theorem d_Sha_takeByte_50 : decode prog_9_method_3_code 50 = .ok (.aload_n 0, 1) := by decide +kernel
theorem d_Sha_takeByte_51 : decode prog_9_method_3_code 51 = .ok (.invokevirtual 35, 3) := by decide +kernel
theorem d_Sha_takeByte_54 : decode prog_9_method_3_code 54 = .ok (.return_, 1) := by decide +kernel
theorem d_Sha_takeRow_0 : decode prog_9_method_4_code 0 = .ok (.iconst 0, 1) := by decide +kernel
theorem d_Sha_takeRow_1 : decode prog_9_method_4_code 1 = .ok (.istore_n 2, 1) := by decide +kernel
theorem d_Sha_takeRow_2 : decode prog_9_method_4_code 2 = .ok (.iload_n 2, 1) := by decide +kernel
theorem d_Sha_takeRow_3 : decode prog_9_method_4_code 3 = .ok (.aload_n 1, 1) := by decide +kernel
theorem d_Sha_takeRow_4 : decode prog_9_method_4_code 4 = .ok (.getfield 38, 3) := by decide +kernel
theorem d_Sha_takeRow_7 : decode prog_9_method_4_code 7 = .ok (.if_icmp .ge (19), 3) := by decide +kernel
theorem d_Sha_takeRow_26 : decode prog_9_method_4_code 26 = .ok (.return_, 1) := by decide +kernel
theorem d_Sig_init_0 : decode prog_10_method_1_code 0 = .ok (.aload_n 0, 1) := by decide +kernel
theorem d_Sig_init_1 : decode prog_10_method_1_code 1 = .ok (.invokespecial 3, 3) := by decide +kernel
theorem d_Sig_init_4 : decode prog_10_method_1_code 4 = .ok (.aload_n 0, 1) := by decide +kernel
theorem d_Sig_init_5 : decode prog_10_method_1_code 5 = .ok (.new 9, 3) := by decide +kernel
theorem d_Sig_init_8 : decode prog_10_method_1_code 8 = .ok (.dup, 1) := by decide +kernel
theorem d_Sig_init_9 : decode prog_10_method_1_code 9 = .ok (.invokespecial 11, 3) := by decide +kernel
theorem d_Sig_init_12 : decode prog_10_method_1_code 12 = .ok (.putfield 12, 3) := by decide +kernel
theorem d_Sig_init_15 : decode prog_10_method_1_code 15 = .ok (.aload_n 0, 1) := by decide +kernel
theorem d_Sig_init_16 : decode prog_10_method_1_code 16 = .ok (.bipush (8), 2) := by decide +kernel
theorem d_Sig_init_18 : decode prog_10_method_1_code 18 = .ok (.newarray .int, 2) := by decide +kernel
theorem d_Sig_init_20 : decode prog_10_method_1_code 20 = .ok (.putfield 18, 3) := by decide +kernel
theorem d_Sig_init_23 : decode prog_10_method_1_code 23 = .ok (.aload_n 0, 1) := by decide +kernel
theorem d_Sig_init_24 : decode prog_10_method_1_code 24 = .ok (.bipush (8), 2) := by decide +kernel
theorem d_Sig_init_26 : decode prog_10_method_1_code 26 = .ok (.bipush (8), 2) := by decide +kernel
theorem d_Sig_init_28 : decode prog_10_method_1_code 28 = .ok (.multianewarray 22 2, 4) := by decide +kernel
theorem d_Sig_init_32 : decode prog_10_method_1_code 32 = .ok (.putfield 24, 3) := by decide +kernel
theorem d_Sig_init_35 : decode prog_10_method_1_code 35 = .ok (.aload_n 0, 1) := by decide +kernel
theorem d_Sig_init_36 : decode prog_10_method_1_code 36 = .ok (.bipush (8), 2) := by decide +kernel
theorem d_Sig_init_38 : decode prog_10_method_1_code 38 = .ok (.bipush (8), 2) := by decide +kernel
theorem d_Sig_init_40 : decode prog_10_method_1_code 40 = .ok (.multianewarray 22 2, 4) := by decide +kernel
theorem d_Sig_init_44 : decode prog_10_method_1_code 44 = .ok (.putfield 27, 3) := by decide +kernel
theorem d_Sig_init_47 : decode prog_10_method_1_code 47 = .ok (.aload_n 0, 1) := by decide +kernel
theorem d_Sig_init_48 : decode prog_10_method_1_code 48 = .ok (.bipush (8), 2) := by decide +kernel
theorem d_Sig_init_50 : decode prog_10_method_1_code 50 = .ok (.bipush (8), 2) := by decide +kernel
theorem d_Sig_init_52 : decode prog_10_method_1_code 52 = .ok (.multianewarray 22 2, 4) := by decide +kernel
theorem d_Sig_init_56 : decode prog_10_method_1_code 56 = .ok (.putfield 30, 3) := by decide +kernel
theorem d_Sig_init_59 : decode prog_10_method_1_code 59 = .ok (.return_, 1) := by decide +kernel
theorem d_Ter_init_0 : decode prog_11_method_1_code 0 = .ok (.aload_n 0, 1) := by decide +kernel
theorem d_Ter_init_1 : decode prog_11_method_1_code 1 = .ok (.invokespecial 3, 3) := by decide +kernel
theorem d_Ter_init_4 : decode prog_11_method_1_code 4 = .ok (.aload_n 0, 1) := by decide +kernel
theorem d_Ter_init_5 : decode prog_11_method_1_code 5 = .ok (.new 9, 3) := by decide +kernel
theorem d_Ter_init_8 : decode prog_11_method_1_code 8 = .ok (.dup, 1) := by decide +kernel
theorem d_Ter_init_9 : decode prog_11_method_1_code 9 = .ok (.invokespecial 11, 3) := by decide +kernel
theorem d_Ter_init_12 : decode prog_11_method_1_code 12 = .ok (.putfield 12, 3) := by decide +kernel
theorem d_Ter_init_15 : decode prog_11_method_1_code 15 = .ok (.aload_n 0, 1) := by decide +kernel
theorem d_Ter_init_16 : decode prog_11_method_1_code 16 = .ok (.bipush (8), 2) := by decide +kernel
theorem d_Ter_init_18 : decode prog_11_method_1_code 18 = .ok (.newarray .int, 2) := by decide +kernel
theorem d_Ter_init_20 : decode prog_11_method_1_code 20 = .ok (.putfield 18, 3) := by decide +kernel
theorem d_Ter_init_23 : decode prog_11_method_1_code 23 = .ok (.return_, 1) := by decide +kernel
theorem d_La_change_0 : decode method_5_code 0 = .ok (.aload_n 2, 1) := by decide +kernel
theorem d_La_change_1 : decode method_5_code 1 = .ok (.iconst 0, 1) := by decide +kernel
theorem d_La_change_2 : decode method_5_code 2 = .ok (.aload_n 0, 1) := by decide +kernel
theorem d_La_change_3 : decode method_5_code 3 = .ok (.iload_n 1, 1) := by decide +kernel
theorem d_La_change_4 : decode method_5_code 4 = .ok (.invokevirtual 19, 3) := by decide +kernel
theorem d_La_change_19 : decode method_5_code 19 = .ok (.astore_n 3, 1) := by decide +kernel
theorem d_La_change_20 : decode method_5_code 20 = .ok (.iconst 1, 1) := by decide +kernel
theorem d_La_change_21 : decode method_5_code 21 = .ok (.ireturn, 1) := by decide +kernel
theorem d_La_choose_0 : decode method_7_code 0 = .ok (.aload_n 0, 1) := by decide +kernel
theorem d_La_choose_1 : decode method_7_code 1 = .ok (.iload_n 1, 1) := by decide +kernel
theorem d_La_choose_2 : decode method_7_code 2 = .ok (.invokevirtual 31, 3) := by decide +kernel
theorem d_La_choose_8 : decode method_7_code 8 = .ok (.astore_n 2, 1) := by decide +kernel
theorem d_La_choose_9 : decode method_7_code 9 = .ok (.iconst 1, 1) := by decide +kernel
theorem d_La_choose_10 : decode method_7_code 10 = .ok (.ireturn, 1) := by decide +kernel
theorem d_La_commit_0 : decode method_6_code 0 = .ok (.aload_n 0, 1) := by decide +kernel
theorem d_La_commit_1 : decode method_6_code 1 = .ok (.iload_n 1, 1) := by decide +kernel
theorem d_La_commit_2 : decode method_6_code 2 = .ok (.invokevirtual 27, 3) := by decide +kernel
theorem d_La_commit_8 : decode method_6_code 8 = .ok (.astore_n 2, 1) := by decide +kernel
theorem d_La_commit_9 : decode method_6_code 9 = .ok (.iconst 1, 1) := by decide +kernel
theorem d_La_commit_10 : decode method_6_code 10 = .ok (.ireturn, 1) := by decide +kernel
theorem d_La_deal_0 : decode method_4_code 0 = .ok (.aload_n 0, 1) := by decide +kernel
theorem d_La_deal_1 : decode method_4_code 1 = .ok (.iload_n 1, 1) := by decide +kernel
theorem d_La_deal_2 : decode method_4_code 2 = .ok (.iload_n 2, 1) := by decide +kernel
theorem d_La_deal_3 : decode method_4_code 3 = .ok (.invokevirtual 15, 3) := by decide +kernel
theorem d_La_deal_9 : decode method_4_code 9 = .ok (.astore_n 3, 1) := by decide +kernel
theorem d_La_deal_10 : decode method_4_code 10 = .ok (.iconst 1, 1) := by decide +kernel
theorem d_La_deal_11 : decode method_4_code 11 = .ok (.ireturn, 1) := by decide +kernel
theorem d_La_gather_0 : decode method_11_code 0 = .ok (.aload_n 1, 1) := by decide +kernel
theorem d_La_gather_1 : decode method_11_code 1 = .ok (.iconst 0, 1) := by decide +kernel
theorem d_La_gather_2 : decode method_11_code 2 = .ok (.aload_n 0, 1) := by decide +kernel
theorem d_La_gather_3 : decode method_11_code 3 = .ok (.invokevirtual 43, 3) := by decide +kernel
theorem d_La_gather_11 : decode method_11_code 11 = .ok (.astore_n 2, 1) := by decide +kernel
theorem d_La_gather_12 : decode method_11_code 12 = .ok (.iconst 1, 1) := by decide +kernel
theorem d_La_gather_13 : decode method_11_code 13 = .ok (.ireturn, 1) := by decide +kernel
theorem d_La_holds_0 : decode method_12_code 0 = .ok (.aload_n 1, 1) := by decide +kernel
theorem d_La_holds_1 : decode method_12_code 1 = .ok (.iconst 0, 1) := by decide +kernel
theorem d_La_holds_2 : decode method_12_code 2 = .ok (.aload_n 0, 1) := by decide +kernel
theorem d_La_holds_3 : decode method_12_code 3 = .ok (.invokevirtual 46, 3) := by decide +kernel
theorem d_La_holds_18 : decode method_12_code 18 = .ok (.astore_n 2, 1) := by decide +kernel
theorem d_La_holds_19 : decode method_12_code 19 = .ok (.iconst 1, 1) := by decide +kernel
theorem d_La_holds_20 : decode method_12_code 20 = .ok (.ireturn, 1) := by decide +kernel
theorem d_La_law_0 : decode code 0 = .ok (.new 8, 3) := by decide +kernel
theorem d_La_law_3 : decode code 3 = .ok (.dup, 1) := by decide +kernel
theorem d_La_law_4 : decode code 4 = .ok (.invokespecial 50, 3) := by decide +kernel
theorem d_La_law_7 : decode code 7 = .ok (.astore_n 1, 1) := by decide +kernel
theorem d_La_law_8 : decode code 8 = .ok (.new 51, 3) := by decide +kernel
theorem d_La_law_11 : decode code 11 = .ok (.dup, 1) := by decide +kernel
theorem d_La_law_12 : decode code 12 = .ok (.invokespecial 53, 3) := by decide +kernel
theorem d_La_law_15 : decode code 15 = .ok (.astore_n 2, 1) := by decide +kernel
theorem d_La_law_16 : decode code 16 = .ok (.iconst 1, 1) := by decide +kernel
theorem d_La_law_17 : decode code 17 = .ok (.newarray .long, 2) := by decide +kernel
theorem d_La_law_19 : decode code 19 = .ok (.astore_n 3, 1) := by decide +kernel
theorem d_La_law_20 : decode code 20 = .ok (.iconst 0, 1) := by decide +kernel
theorem d_La_law_21 : decode code 21 = .ok (.istore 4, 2) := by decide +kernel
theorem d_La_law_23 : decode code 23 = .ok (.iload 4, 2) := by decide +kernel
theorem d_La_law_25 : decode code 25 = .ok (.aload_n 0, 1) := by decide +kernel
theorem d_La_law_26 : decode code 26 = .ok (.arraylength, 1) := by decide +kernel
theorem d_La_law_27 : decode code 27 = .ok (.bipush (7), 2) := by decide +kernel
theorem d_La_law_29 : decode code 29 = .ok (.isub, 1) := by decide +kernel
theorem d_La_law_30 : decode code 30 = .ok (.if_icmp .gt (719), 3) := by decide +kernel
theorem d_La_law_33 : decode code 33 = .ok (.aload_n 0, 1) := by decide +kernel
theorem d_La_law_34 : decode code 34 = .ok (.iload 4, 2) := by decide +kernel
theorem d_La_law_36 : decode code 36 = .ok (.iaload, 1) := by decide +kernel
theorem d_La_law_37 : decode code 37 = .ok (.bipush (15), 2) := by decide +kernel
theorem d_La_law_39 : decode code 39 = .ok (.iand, 1) := by decide +kernel
theorem d_La_law_40 : decode code 40 = .ok (.tableswitch (703) (0) (13) #[72, 159, 203, 251, 314, 350, 386, 422, 458, 521, 565, 616, 653, 678], 72) := by decide +kernel
theorem d_La_law_112 : decode code 112 = .ok (.aload_n 1, 1) := by decide +kernel
theorem d_La_law_113 : decode code 113 = .ok (.aload_n 0, 1) := by decide +kernel
theorem d_La_law_114 : decode code 114 = .ok (.iload 4, 2) := by decide +kernel
theorem d_La_law_116 : decode code 116 = .ok (.iconst 1, 1) := by decide +kernel
theorem d_La_law_117 : decode code 117 = .ok (.iadd, 1) := by decide +kernel
theorem d_La_law_118 : decode code 118 = .ok (.iaload, 1) := by decide +kernel
theorem d_La_law_119 : decode code 119 = .ok (.aload_n 0, 1) := by decide +kernel
theorem d_La_law_120 : decode code 120 = .ok (.iload 4, 2) := by decide +kernel
theorem d_La_law_122 : decode code 122 = .ok (.iconst 2, 1) := by decide +kernel
theorem d_La_law_123 : decode code 123 = .ok (.iadd, 1) := by decide +kernel
theorem d_La_law_124 : decode code 124 = .ok (.iaload, 1) := by decide +kernel
theorem d_La_law_125 : decode code 125 = .ok (.aload_n 0, 1) := by decide +kernel
theorem d_La_law_126 : decode code 126 = .ok (.iload 4, 2) := by decide +kernel
theorem d_La_law_128 : decode code 128 = .ok (.iconst 3, 1) := by decide +kernel
theorem d_La_law_129 : decode code 129 = .ok (.iadd, 1) := by decide +kernel
theorem d_La_law_130 : decode code 130 = .ok (.iaload, 1) := by decide +kernel
theorem d_La_law_131 : decode code 131 = .ok (.aload_n 0, 1) := by decide +kernel
theorem d_La_law_132 : decode code 132 = .ok (.iload 4, 2) := by decide +kernel
theorem d_La_law_134 : decode code 134 = .ok (.iconst 4, 1) := by decide +kernel
theorem d_La_law_135 : decode code 135 = .ok (.iadd, 1) := by decide +kernel
theorem d_La_law_136 : decode code 136 = .ok (.iaload, 1) := by decide +kernel
theorem d_La_law_137 : decode code 137 = .ok (.aload_n 0, 1) := by decide +kernel
theorem d_La_law_138 : decode code 138 = .ok (.iload 4, 2) := by decide +kernel
theorem d_La_law_140 : decode code 140 = .ok (.iconst 5, 1) := by decide +kernel
theorem d_La_law_141 : decode code 141 = .ok (.iadd, 1) := by decide +kernel
theorem d_La_law_142 : decode code 142 = .ok (.iaload, 1) := by decide +kernel
theorem d_La_law_143 : decode code 143 = .ok (.aload_n 0, 1) := by decide +kernel
theorem d_La_law_144 : decode code 144 = .ok (.iload 4, 2) := by decide +kernel
theorem d_La_law_146 : decode code 146 = .ok (.bipush (6), 2) := by decide +kernel
theorem d_La_law_148 : decode code 148 = .ok (.iadd, 1) := by decide +kernel
theorem d_La_law_149 : decode code 149 = .ok (.iaload, 1) := by decide +kernel
theorem d_La_law_150 : decode code 150 = .ok (.invokevirtual 54, 3) := by decide +kernel
theorem d_La_law_153 : decode code 153 = .ok (.aload_n 2, 1) := by decide +kernel
theorem d_La_law_154 : decode code 154 = .ok (.aload_n 0, 1) := by decide +kernel
theorem d_La_law_155 : decode code 155 = .ok (.iload 4, 2) := by decide +kernel
