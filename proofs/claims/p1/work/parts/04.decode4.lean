theorem d_Mo_init_108 : decode prog_14_method_1_code 108 = .ok (.ldc 24, 2) := by decide +kernel
theorem d_Mo_init_110 : decode prog_14_method_1_code 110 = .ok (.iastore, 1) := by decide +kernel
theorem d_Mo_init_111 : decode prog_14_method_1_code 111 = .ok (.dup, 1) := by decide +kernel
theorem d_Mo_init_112 : decode prog_14_method_1_code 112 = .ok (.bipush (18), 2) := by decide +kernel
theorem d_Mo_init_114 : decode prog_14_method_1_code 114 = .ok (.ldc 25, 2) := by decide +kernel
theorem d_Mo_init_116 : decode prog_14_method_1_code 116 = .ok (.iastore, 1) := by decide +kernel
theorem d_Mo_init_117 : decode prog_14_method_1_code 117 = .ok (.dup, 1) := by decide +kernel
theorem d_Mo_init_118 : decode prog_14_method_1_code 118 = .ok (.bipush (19), 2) := by decide +kernel
theorem d_Mo_init_120 : decode prog_14_method_1_code 120 = .ok (.ldc 26, 2) := by decide +kernel
theorem d_Mo_init_122 : decode prog_14_method_1_code 122 = .ok (.iastore, 1) := by decide +kernel
theorem d_Mo_init_123 : decode prog_14_method_1_code 123 = .ok (.dup, 1) := by decide +kernel
theorem d_Mo_init_124 : decode prog_14_method_1_code 124 = .ok (.bipush (20), 2) := by decide +kernel
theorem d_Mo_init_126 : decode prog_14_method_1_code 126 = .ok (.ldc 27, 2) := by decide +kernel
theorem d_Mo_init_128 : decode prog_14_method_1_code 128 = .ok (.iastore, 1) := by decide +kernel
theorem d_Mo_init_129 : decode prog_14_method_1_code 129 = .ok (.dup, 1) := by decide +kernel
theorem d_Mo_init_130 : decode prog_14_method_1_code 130 = .ok (.bipush (21), 2) := by decide +kernel
theorem d_Mo_init_132 : decode prog_14_method_1_code 132 = .ok (.ldc 28, 2) := by decide +kernel
theorem d_Mo_init_134 : decode prog_14_method_1_code 134 = .ok (.iastore, 1) := by decide +kernel
theorem d_Mo_init_135 : decode prog_14_method_1_code 135 = .ok (.dup, 1) := by decide +kernel
theorem d_Mo_init_136 : decode prog_14_method_1_code 136 = .ok (.bipush (22), 2) := by decide +kernel
theorem d_Mo_init_138 : decode prog_14_method_1_code 138 = .ok (.ldc 29, 2) := by decide +kernel
theorem d_Mo_init_140 : decode prog_14_method_1_code 140 = .ok (.iastore, 1) := by decide +kernel
theorem d_Mo_init_141 : decode prog_14_method_1_code 141 = .ok (.dup, 1) := by decide +kernel
theorem d_Mo_init_142 : decode prog_14_method_1_code 142 = .ok (.bipush (23), 2) := by decide +kernel
theorem d_Mo_init_144 : decode prog_14_method_1_code 144 = .ok (.ldc 30, 2) := by decide +kernel
theorem d_Mo_init_146 : decode prog_14_method_1_code 146 = .ok (.iastore, 1) := by decide +kernel
theorem d_Mo_init_147 : decode prog_14_method_1_code 147 = .ok (.dup, 1) := by decide +kernel
theorem d_Mo_init_148 : decode prog_14_method_1_code 148 = .ok (.bipush (24), 2) := by decide +kernel
theorem d_Mo_init_150 : decode prog_14_method_1_code 150 = .ok (.ldc 31, 2) := by decide +kernel
theorem d_Mo_init_152 : decode prog_14_method_1_code 152 = .ok (.iastore, 1) := by decide +kernel
theorem d_Mo_init_153 : decode prog_14_method_1_code 153 = .ok (.dup, 1) := by decide +kernel
theorem d_Mo_init_154 : decode prog_14_method_1_code 154 = .ok (.bipush (25), 2) := by decide +kernel
theorem d_Mo_init_156 : decode prog_14_method_1_code 156 = .ok (.ldc 32, 2) := by decide +kernel
theorem d_Mo_init_158 : decode prog_14_method_1_code 158 = .ok (.iastore, 1) := by decide +kernel
theorem d_Mo_init_159 : decode prog_14_method_1_code 159 = .ok (.dup, 1) := by decide +kernel
theorem d_Mo_init_160 : decode prog_14_method_1_code 160 = .ok (.bipush (26), 2) := by decide +kernel
theorem d_Mo_init_162 : decode prog_14_method_1_code 162 = .ok (.ldc 33, 2) := by decide +kernel
theorem d_Mo_init_164 : decode prog_14_method_1_code 164 = .ok (.iastore, 1) := by decide +kernel
theorem d_Mo_init_165 : decode prog_14_method_1_code 165 = .ok (.dup, 1) := by decide +kernel
theorem d_Mo_init_166 : decode prog_14_method_1_code 166 = .ok (.bipush (27), 2) := by decide +kernel
theorem d_Mo_init_168 : decode prog_14_method_1_code 168 = .ok (.ldc 34, 2) := by decide +kernel
theorem d_Mo_init_170 : decode prog_14_method_1_code 170 = .ok (.iastore, 1) := by decide +kernel
theorem d_Mo_init_171 : decode prog_14_method_1_code 171 = .ok (.dup, 1) := by decide +kernel
theorem d_Mo_init_172 : decode prog_14_method_1_code 172 = .ok (.bipush (28), 2) := by decide +kernel
theorem d_Mo_init_174 : decode prog_14_method_1_code 174 = .ok (.ldc 35, 2) := by decide +kernel
theorem d_Mo_init_176 : decode prog_14_method_1_code 176 = .ok (.iastore, 1) := by decide +kernel
theorem d_Mo_init_177 : decode prog_14_method_1_code 177 = .ok (.dup, 1) := by decide +kernel
theorem d_Mo_init_178 : decode prog_14_method_1_code 178 = .ok (.bipush (29), 2) := by decide +kernel
theorem d_Mo_init_180 : decode prog_14_method_1_code 180 = .ok (.ldc 36, 2) := by decide +kernel
theorem d_Mo_init_182 : decode prog_14_method_1_code 182 = .ok (.iastore, 1) := by decide +kernel
theorem d_Mo_init_183 : decode prog_14_method_1_code 183 = .ok (.dup, 1) := by decide +kernel
theorem d_Mo_init_184 : decode prog_14_method_1_code 184 = .ok (.bipush (30), 2) := by decide +kernel
theorem d_Mo_init_186 : decode prog_14_method_1_code 186 = .ok (.ldc 37, 2) := by decide +kernel
theorem d_Mo_init_188 : decode prog_14_method_1_code 188 = .ok (.iastore, 1) := by decide +kernel
theorem d_Mo_init_189 : decode prog_14_method_1_code 189 = .ok (.dup, 1) := by decide +kernel
theorem d_Mo_init_190 : decode prog_14_method_1_code 190 = .ok (.bipush (31), 2) := by decide +kernel
theorem d_Mo_init_192 : decode prog_14_method_1_code 192 = .ok (.ldc 38, 2) := by decide +kernel
theorem d_Mo_init_194 : decode prog_14_method_1_code 194 = .ok (.iastore, 1) := by decide +kernel
theorem d_Mo_init_195 : decode prog_14_method_1_code 195 = .ok (.dup, 1) := by decide +kernel
theorem d_Mo_init_196 : decode prog_14_method_1_code 196 = .ok (.bipush (32), 2) := by decide +kernel
theorem d_Mo_init_198 : decode prog_14_method_1_code 198 = .ok (.ldc 39, 2) := by decide +kernel
theorem d_Mo_init_200 : decode prog_14_method_1_code 200 = .ok (.iastore, 1) := by decide +kernel
theorem d_Mo_init_201 : decode prog_14_method_1_code 201 = .ok (.dup, 1) := by decide +kernel
theorem d_Mo_init_202 : decode prog_14_method_1_code 202 = .ok (.bipush (33), 2) := by decide +kernel
theorem d_Mo_init_204 : decode prog_14_method_1_code 204 = .ok (.ldc 40, 2) := by decide +kernel
theorem d_Mo_init_206 : decode prog_14_method_1_code 206 = .ok (.iastore, 1) := by decide +kernel
theorem d_Mo_init_207 : decode prog_14_method_1_code 207 = .ok (.dup, 1) := by decide +kernel
theorem d_Mo_init_208 : decode prog_14_method_1_code 208 = .ok (.bipush (34), 2) := by decide +kernel
theorem d_Mo_init_210 : decode prog_14_method_1_code 210 = .ok (.ldc 41, 2) := by decide +kernel
theorem d_Mo_init_212 : decode prog_14_method_1_code 212 = .ok (.iastore, 1) := by decide +kernel
theorem d_Mo_init_213 : decode prog_14_method_1_code 213 = .ok (.dup, 1) := by decide +kernel
theorem d_Mo_init_214 : decode prog_14_method_1_code 214 = .ok (.bipush (35), 2) := by decide +kernel
theorem d_Mo_init_216 : decode prog_14_method_1_code 216 = .ok (.ldc 42, 2) := by decide +kernel
theorem d_Mo_init_218 : decode prog_14_method_1_code 218 = .ok (.iastore, 1) := by decide +kernel
theorem d_Mo_init_219 : decode prog_14_method_1_code 219 = .ok (.dup, 1) := by decide +kernel
theorem d_Mo_init_220 : decode prog_14_method_1_code 220 = .ok (.bipush (36), 2) := by decide +kernel
theorem d_Mo_init_222 : decode prog_14_method_1_code 222 = .ok (.ldc 43, 2) := by decide +kernel
theorem d_Mo_init_224 : decode prog_14_method_1_code 224 = .ok (.iastore, 1) := by decide +kernel
theorem d_Mo_init_225 : decode prog_14_method_1_code 225 = .ok (.dup, 1) := by decide +kernel
theorem d_Mo_init_226 : decode prog_14_method_1_code 226 = .ok (.bipush (37), 2) := by decide +kernel
theorem d_Mo_init_228 : decode prog_14_method_1_code 228 = .ok (.ldc 44, 2) := by decide +kernel
theorem d_Mo_init_230 : decode prog_14_method_1_code 230 = .ok (.iastore, 1) := by decide +kernel
theorem d_Mo_init_231 : decode prog_14_method_1_code 231 = .ok (.dup, 1) := by decide +kernel
theorem d_Mo_init_232 : decode prog_14_method_1_code 232 = .ok (.bipush (38), 2) := by decide +kernel
theorem d_Mo_init_234 : decode prog_14_method_1_code 234 = .ok (.ldc 45, 2) := by decide +kernel
theorem d_Mo_init_236 : decode prog_14_method_1_code 236 = .ok (.iastore, 1) := by decide +kernel
theorem d_Mo_init_237 : decode prog_14_method_1_code 237 = .ok (.dup, 1) := by decide +kernel
theorem d_Mo_init_238 : decode prog_14_method_1_code 238 = .ok (.bipush (39), 2) := by decide +kernel
theorem d_Mo_init_240 : decode prog_14_method_1_code 240 = .ok (.ldc 46, 2) := by decide +kernel
theorem d_Mo_init_242 : decode prog_14_method_1_code 242 = .ok (.iastore, 1) := by decide +kernel
theorem d_Mo_init_243 : decode prog_14_method_1_code 243 = .ok (.dup, 1) := by decide +kernel
theorem d_Mo_init_244 : decode prog_14_method_1_code 244 = .ok (.bipush (40), 2) := by decide +kernel
theorem d_Mo_init_246 : decode prog_14_method_1_code 246 = .ok (.ldc 47, 2) := by decide +kernel
theorem d_Mo_init_248 : decode prog_14_method_1_code 248 = .ok (.iastore, 1) := by decide +kernel
theorem d_Mo_init_249 : decode prog_14_method_1_code 249 = .ok (.dup, 1) := by decide +kernel
theorem d_Mo_init_250 : decode prog_14_method_1_code 250 = .ok (.bipush (41), 2) := by decide +kernel
theorem d_Mo_init_252 : decode prog_14_method_1_code 252 = .ok (.ldc 48, 2) := by decide +kernel
theorem d_Mo_init_254 : decode prog_14_method_1_code 254 = .ok (.iastore, 1) := by decide +kernel
theorem d_Mo_init_255 : decode prog_14_method_1_code 255 = .ok (.dup, 1) := by decide +kernel
theorem d_Mo_init_256 : decode prog_14_method_1_code 256 = .ok (.bipush (42), 2) := by decide +kernel
theorem d_Mo_init_258 : decode prog_14_method_1_code 258 = .ok (.ldc 49, 2) := by decide +kernel
theorem d_Mo_init_260 : decode prog_14_method_1_code 260 = .ok (.iastore, 1) := by decide +kernel
theorem d_Mo_init_261 : decode prog_14_method_1_code 261 = .ok (.dup, 1) := by decide +kernel
theorem d_Mo_init_262 : decode prog_14_method_1_code 262 = .ok (.bipush (43), 2) := by decide +kernel
theorem d_Mo_init_264 : decode prog_14_method_1_code 264 = .ok (.ldc 50, 2) := by decide +kernel
theorem d_Mo_init_266 : decode prog_14_method_1_code 266 = .ok (.iastore, 1) := by decide +kernel
theorem d_Mo_init_267 : decode prog_14_method_1_code 267 = .ok (.dup, 1) := by decide +kernel
theorem d_Mo_init_268 : decode prog_14_method_1_code 268 = .ok (.bipush (44), 2) := by decide +kernel
theorem d_Mo_init_270 : decode prog_14_method_1_code 270 = .ok (.ldc 51, 2) := by decide +kernel
theorem d_Mo_init_272 : decode prog_14_method_1_code 272 = .ok (.iastore, 1) := by decide +kernel
theorem d_Mo_init_273 : decode prog_14_method_1_code 273 = .ok (.dup, 1) := by decide +kernel
theorem d_Mo_init_274 : decode prog_14_method_1_code 274 = .ok (.bipush (45), 2) := by decide +kernel
theorem d_Mo_init_276 : decode prog_14_method_1_code 276 = .ok (.ldc 52, 2) := by decide +kernel
theorem d_Mo_init_278 : decode prog_14_method_1_code 278 = .ok (.iastore, 1) := by decide +kernel
theorem d_Mo_init_279 : decode prog_14_method_1_code 279 = .ok (.dup, 1) := by decide +kernel
theorem d_Mo_init_280 : decode prog_14_method_1_code 280 = .ok (.bipush (46), 2) := by decide +kernel
theorem d_Mo_init_282 : decode prog_14_method_1_code 282 = .ok (.ldc 53, 2) := by decide +kernel
theorem d_Mo_init_284 : decode prog_14_method_1_code 284 = .ok (.iastore, 1) := by decide +kernel
theorem d_Mo_init_285 : decode prog_14_method_1_code 285 = .ok (.dup, 1) := by decide +kernel
theorem d_Mo_init_286 : decode prog_14_method_1_code 286 = .ok (.bipush (47), 2) := by decide +kernel
theorem d_Mo_init_288 : decode prog_14_method_1_code 288 = .ok (.ldc 54, 2) := by decide +kernel
theorem d_Mo_init_290 : decode prog_14_method_1_code 290 = .ok (.iastore, 1) := by decide +kernel
theorem d_Mo_init_291 : decode prog_14_method_1_code 291 = .ok (.dup, 1) := by decide +kernel
theorem d_Mo_init_292 : decode prog_14_method_1_code 292 = .ok (.bipush (48), 2) := by decide +kernel
theorem d_Mo_init_294 : decode prog_14_method_1_code 294 = .ok (.ldc 55, 2) := by decide +kernel
theorem d_Mo_init_296 : decode prog_14_method_1_code 296 = .ok (.iastore, 1) := by decide +kernel
theorem d_Mo_init_297 : decode prog_14_method_1_code 297 = .ok (.dup, 1) := by decide +kernel
theorem d_Mo_init_298 : decode prog_14_method_1_code 298 = .ok (.bipush (49), 2) := by decide +kernel
theorem d_Mo_init_300 : decode prog_14_method_1_code 300 = .ok (.ldc 56, 2) := by decide +kernel
theorem d_Mo_init_302 : decode prog_14_method_1_code 302 = .ok (.iastore, 1) := by decide +kernel
theorem d_Mo_init_303 : decode prog_14_method_1_code 303 = .ok (.dup, 1) := by decide +kernel
theorem d_Mo_init_304 : decode prog_14_method_1_code 304 = .ok (.bipush (50), 2) := by decide +kernel
theorem d_Mo_init_306 : decode prog_14_method_1_code 306 = .ok (.ldc 57, 2) := by decide +kernel
theorem d_Mo_init_308 : decode prog_14_method_1_code 308 = .ok (.iastore, 1) := by decide +kernel
theorem d_Mo_init_309 : decode prog_14_method_1_code 309 = .ok (.dup, 1) := by decide +kernel
theorem d_Mo_init_310 : decode prog_14_method_1_code 310 = .ok (.bipush (51), 2) := by decide +kernel
theorem d_Mo_init_312 : decode prog_14_method_1_code 312 = .ok (.ldc 58, 2) := by decide +kernel
theorem d_Mo_init_314 : decode prog_14_method_1_code 314 = .ok (.iastore, 1) := by decide +kernel
theorem d_Mo_init_315 : decode prog_14_method_1_code 315 = .ok (.dup, 1) := by decide +kernel
theorem d_Mo_init_316 : decode prog_14_method_1_code 316 = .ok (.bipush (52), 2) := by decide +kernel
theorem d_Mo_init_318 : decode prog_14_method_1_code 318 = .ok (.ldc 59, 2) := by decide +kernel
theorem d_Mo_init_320 : decode prog_14_method_1_code 320 = .ok (.iastore, 1) := by decide +kernel
theorem d_Mo_init_321 : decode prog_14_method_1_code 321 = .ok (.dup, 1) := by decide +kernel
theorem d_Mo_init_322 : decode prog_14_method_1_code 322 = .ok (.bipush (53), 2) := by decide +kernel
theorem d_Mo_init_324 : decode prog_14_method_1_code 324 = .ok (.ldc 60, 2) := by decide +kernel
theorem d_Mo_init_326 : decode prog_14_method_1_code 326 = .ok (.iastore, 1) := by decide +kernel
theorem d_Mo_init_327 : decode prog_14_method_1_code 327 = .ok (.dup, 1) := by decide +kernel
theorem d_Mo_init_328 : decode prog_14_method_1_code 328 = .ok (.bipush (54), 2) := by decide +kernel
theorem d_Mo_init_330 : decode prog_14_method_1_code 330 = .ok (.ldc 61, 2) := by decide +kernel
theorem d_Mo_init_332 : decode prog_14_method_1_code 332 = .ok (.iastore, 1) := by decide +kernel
theorem d_Mo_init_333 : decode prog_14_method_1_code 333 = .ok (.dup, 1) := by decide +kernel
theorem d_Mo_init_334 : decode prog_14_method_1_code 334 = .ok (.bipush (55), 2) := by decide +kernel
theorem d_Mo_init_336 : decode prog_14_method_1_code 336 = .ok (.ldc 62, 2) := by decide +kernel
theorem d_Mo_init_338 : decode prog_14_method_1_code 338 = .ok (.iastore, 1) := by decide +kernel
theorem d_Mo_init_339 : decode prog_14_method_1_code 339 = .ok (.dup, 1) := by decide +kernel
theorem d_Mo_init_340 : decode prog_14_method_1_code 340 = .ok (.bipush (56), 2) := by decide +kernel
theorem d_Mo_init_342 : decode prog_14_method_1_code 342 = .ok (.ldc 63, 2) := by decide +kernel
theorem d_Mo_init_344 : decode prog_14_method_1_code 344 = .ok (.iastore, 1) := by decide +kernel
theorem d_Mo_init_345 : decode prog_14_method_1_code 345 = .ok (.dup, 1) := by decide +kernel
theorem d_Mo_init_346 : decode prog_14_method_1_code 346 = .ok (.bipush (57), 2) := by decide +kernel
theorem d_Mo_init_348 : decode prog_14_method_1_code 348 = .ok (.ldc 64, 2) := by decide +kernel
theorem d_Mo_init_350 : decode prog_14_method_1_code 350 = .ok (.iastore, 1) := by decide +kernel
theorem d_Mo_init_351 : decode prog_14_method_1_code 351 = .ok (.dup, 1) := by decide +kernel
theorem d_Mo_init_352 : decode prog_14_method_1_code 352 = .ok (.bipush (58), 2) := by decide +kernel
theorem d_Mo_init_354 : decode prog_14_method_1_code 354 = .ok (.ldc 65, 2) := by decide +kernel
theorem d_Mo_init_356 : decode prog_14_method_1_code 356 = .ok (.iastore, 1) := by decide +kernel
theorem d_Mo_init_357 : decode prog_14_method_1_code 357 = .ok (.dup, 1) := by decide +kernel
theorem d_Mo_init_358 : decode prog_14_method_1_code 358 = .ok (.bipush (59), 2) := by decide +kernel
theorem d_Mo_init_360 : decode prog_14_method_1_code 360 = .ok (.ldc 66, 2) := by decide +kernel
theorem d_Mo_init_362 : decode prog_14_method_1_code 362 = .ok (.iastore, 1) := by decide +kernel
theorem d_Mo_init_363 : decode prog_14_method_1_code 363 = .ok (.dup, 1) := by decide +kernel
theorem d_Mo_init_364 : decode prog_14_method_1_code 364 = .ok (.bipush (60), 2) := by decide +kernel
theorem d_Mo_init_366 : decode prog_14_method_1_code 366 = .ok (.ldc 67, 2) := by decide +kernel
theorem d_Mo_init_368 : decode prog_14_method_1_code 368 = .ok (.iastore, 1) := by decide +kernel
theorem d_Mo_init_369 : decode prog_14_method_1_code 369 = .ok (.dup, 1) := by decide +kernel
theorem d_Mo_init_370 : decode prog_14_method_1_code 370 = .ok (.bipush (61), 2) := by decide +kernel
theorem d_Mo_init_372 : decode prog_14_method_1_code 372 = .ok (.ldc 68, 2) := by decide +kernel
theorem d_Mo_init_374 : decode prog_14_method_1_code 374 = .ok (.iastore, 1) := by decide +kernel
theorem d_Mo_init_375 : decode prog_14_method_1_code 375 = .ok (.dup, 1) := by decide +kernel
theorem d_Mo_init_376 : decode prog_14_method_1_code 376 = .ok (.bipush (62), 2) := by decide +kernel
theorem d_Mo_init_378 : decode prog_14_method_1_code 378 = .ok (.ldc 69, 2) := by decide +kernel
theorem d_Mo_init_380 : decode prog_14_method_1_code 380 = .ok (.iastore, 1) := by decide +kernel
theorem d_Mo_init_381 : decode prog_14_method_1_code 381 = .ok (.dup, 1) := by decide +kernel
theorem d_Mo_init_382 : decode prog_14_method_1_code 382 = .ok (.bipush (63), 2) := by decide +kernel
theorem d_Mo_init_384 : decode prog_14_method_1_code 384 = .ok (.ldc 70, 2) := by decide +kernel
theorem d_Mo_init_386 : decode prog_14_method_1_code 386 = .ok (.iastore, 1) := by decide +kernel
theorem d_Mo_init_387 : decode prog_14_method_1_code 387 = .ok (.putfield 71, 3) := by decide +kernel
theorem d_Mo_init_390 : decode prog_14_method_1_code 390 = .ok (.aload_n 0, 1) := by decide +kernel
theorem d_Mo_init_391 : decode prog_14_method_1_code 391 = .ok (.bipush (16), 2) := by decide +kernel
theorem d_Mo_init_393 : decode prog_14_method_1_code 393 = .ok (.newarray .int, 2) := by decide +kernel
theorem d_Mo_init_395 : decode prog_14_method_1_code 395 = .ok (.dup, 1) := by decide +kernel
theorem d_Mo_init_396 : decode prog_14_method_1_code 396 = .ok (.iconst 0, 1) := by decide +kernel
theorem d_Mo_init_397 : decode prog_14_method_1_code 397 = .ok (.ldc 77, 2) := by decide +kernel
theorem d_Mo_init_399 : decode prog_14_method_1_code 399 = .ok (.iastore, 1) := by decide +kernel
theorem d_Mo_init_400 : decode prog_14_method_1_code 400 = .ok (.dup, 1) := by decide +kernel
theorem d_Mo_init_401 : decode prog_14_method_1_code 401 = .ok (.iconst 1, 1) := by decide +kernel
theorem d_Mo_init_402 : decode prog_14_method_1_code 402 = .ok (.ldc 77, 2) := by decide +kernel
theorem d_Mo_init_404 : decode prog_14_method_1_code 404 = .ok (.iastore, 1) := by decide +kernel
theorem d_Mo_init_405 : decode prog_14_method_1_code 405 = .ok (.dup, 1) := by decide +kernel
theorem d_Mo_init_406 : decode prog_14_method_1_code 406 = .ok (.iconst 2, 1) := by decide +kernel
theorem d_Mo_init_407 : decode prog_14_method_1_code 407 = .ok (.ldc 77, 2) := by decide +kernel
theorem d_Mo_init_409 : decode prog_14_method_1_code 409 = .ok (.iastore, 1) := by decide +kernel
theorem d_Mo_init_410 : decode prog_14_method_1_code 410 = .ok (.dup, 1) := by decide +kernel
theorem d_Mo_init_411 : decode prog_14_method_1_code 411 = .ok (.iconst 3, 1) := by decide +kernel
theorem d_Mo_init_412 : decode prog_14_method_1_code 412 = .ok (.ldc 77, 2) := by decide +kernel
theorem d_Mo_init_414 : decode prog_14_method_1_code 414 = .ok (.iastore, 1) := by decide +kernel
theorem d_Mo_init_415 : decode prog_14_method_1_code 415 = .ok (.dup, 1) := by decide +kernel
theorem d_Mo_init_416 : decode prog_14_method_1_code 416 = .ok (.iconst 4, 1) := by decide +kernel
theorem d_Mo_init_417 : decode prog_14_method_1_code 417 = .ok (.ldc 77, 2) := by decide +kernel
theorem d_Mo_init_419 : decode prog_14_method_1_code 419 = .ok (.iastore, 1) := by decide +kernel
theorem d_Mo_init_420 : decode prog_14_method_1_code 420 = .ok (.dup, 1) := by decide +kernel
theorem d_Mo_init_421 : decode prog_14_method_1_code 421 = .ok (.iconst 5, 1) := by decide +kernel
theorem d_Mo_init_422 : decode prog_14_method_1_code 422 = .ok (.ldc 77, 2) := by decide +kernel
theorem d_Mo_init_424 : decode prog_14_method_1_code 424 = .ok (.iastore, 1) := by decide +kernel
theorem d_Mo_init_425 : decode prog_14_method_1_code 425 = .ok (.dup, 1) := by decide +kernel
theorem d_Mo_init_426 : decode prog_14_method_1_code 426 = .ok (.bipush (6), 2) := by decide +kernel
theorem d_Mo_init_428 : decode prog_14_method_1_code 428 = .ok (.ldc 77, 2) := by decide +kernel
theorem d_Mo_init_430 : decode prog_14_method_1_code 430 = .ok (.iastore, 1) := by decide +kernel
theorem d_Mo_init_431 : decode prog_14_method_1_code 431 = .ok (.dup, 1) := by decide +kernel
theorem d_Mo_init_432 : decode prog_14_method_1_code 432 = .ok (.bipush (7), 2) := by decide +kernel
theorem d_Mo_init_434 : decode prog_14_method_1_code 434 = .ok (.ldc 77, 2) := by decide +kernel
theorem d_Mo_init_436 : decode prog_14_method_1_code 436 = .ok (.iastore, 1) := by decide +kernel
theorem d_Mo_init_437 : decode prog_14_method_1_code 437 = .ok (.dup, 1) := by decide +kernel
theorem d_Mo_init_438 : decode prog_14_method_1_code 438 = .ok (.bipush (8), 2) := by decide +kernel
theorem d_Mo_init_440 : decode prog_14_method_1_code 440 = .ok (.ldc 77, 2) := by decide +kernel
theorem d_Mo_init_442 : decode prog_14_method_1_code 442 = .ok (.iastore, 1) := by decide +kernel
theorem d_Mo_init_443 : decode prog_14_method_1_code 443 = .ok (.dup, 1) := by decide +kernel
theorem d_Mo_init_444 : decode prog_14_method_1_code 444 = .ok (.bipush (9), 2) := by decide +kernel
theorem d_Mo_init_446 : decode prog_14_method_1_code 446 = .ok (.ldc 77, 2) := by decide +kernel
theorem d_Mo_init_448 : decode prog_14_method_1_code 448 = .ok (.iastore, 1) := by decide +kernel
theorem d_Mo_init_449 : decode prog_14_method_1_code 449 = .ok (.dup, 1) := by decide +kernel
theorem d_Mo_init_450 : decode prog_14_method_1_code 450 = .ok (.bipush (10), 2) := by decide +kernel
theorem d_Mo_init_452 : decode prog_14_method_1_code 452 = .ok (.ldc 77, 2) := by decide +kernel
theorem d_Mo_init_454 : decode prog_14_method_1_code 454 = .ok (.iastore, 1) := by decide +kernel
theorem d_Mo_init_455 : decode prog_14_method_1_code 455 = .ok (.dup, 1) := by decide +kernel
theorem d_Mo_init_456 : decode prog_14_method_1_code 456 = .ok (.bipush (11), 2) := by decide +kernel
theorem d_Mo_init_458 : decode prog_14_method_1_code 458 = .ok (.ldc 77, 2) := by decide +kernel
theorem d_Mo_init_460 : decode prog_14_method_1_code 460 = .ok (.iastore, 1) := by decide +kernel
theorem d_Mo_init_461 : decode prog_14_method_1_code 461 = .ok (.dup, 1) := by decide +kernel
theorem d_Mo_init_462 : decode prog_14_method_1_code 462 = .ok (.bipush (12), 2) := by decide +kernel
theorem d_Mo_init_464 : decode prog_14_method_1_code 464 = .ok (.ldc 77, 2) := by decide +kernel
theorem d_Mo_init_466 : decode prog_14_method_1_code 466 = .ok (.iastore, 1) := by decide +kernel
theorem d_Mo_init_467 : decode prog_14_method_1_code 467 = .ok (.dup, 1) := by decide +kernel
theorem d_Mo_init_468 : decode prog_14_method_1_code 468 = .ok (.bipush (13), 2) := by decide +kernel
theorem d_Mo_init_470 : decode prog_14_method_1_code 470 = .ok (.ldc 78, 2) := by decide +kernel
theorem d_Mo_init_472 : decode prog_14_method_1_code 472 = .ok (.iastore, 1) := by decide +kernel
theorem d_Mo_init_473 : decode prog_14_method_1_code 473 = .ok (.dup, 1) := by decide +kernel
theorem d_Mo_init_474 : decode prog_14_method_1_code 474 = .ok (.bipush (14), 2) := by decide +kernel
theorem d_Mo_init_476 : decode prog_14_method_1_code 476 = .ok (.ldc 77, 2) := by decide +kernel
theorem d_Mo_init_478 : decode prog_14_method_1_code 478 = .ok (.iastore, 1) := by decide +kernel
theorem d_Mo_init_479 : decode prog_14_method_1_code 479 = .ok (.dup, 1) := by decide +kernel
theorem d_Mo_init_480 : decode prog_14_method_1_code 480 = .ok (.bipush (15), 2) := by decide +kernel
theorem d_Mo_init_482 : decode prog_14_method_1_code 482 = .ok (.ldc 79, 2) := by decide +kernel
theorem d_Mo_init_484 : decode prog_14_method_1_code 484 = .ok (.iastore, 1) := by decide +kernel
theorem d_Mo_init_485 : decode prog_14_method_1_code 485 = .ok (.putfield 80, 3) := by decide +kernel
theorem d_Mo_init_488 : decode prog_14_method_1_code 488 = .ok (.aload_n 0, 1) := by decide +kernel
theorem d_Mo_init_489 : decode prog_14_method_1_code 489 = .ok (.bipush (16), 2) := by decide +kernel
theorem d_Mo_init_491 : decode prog_14_method_1_code 491 = .ok (.newarray .int, 2) := by decide +kernel
theorem d_Mo_init_493 : decode prog_14_method_1_code 493 = .ok (.dup, 1) := by decide +kernel
theorem d_Mo_init_494 : decode prog_14_method_1_code 494 = .ok (.iconst 0, 1) := by decide +kernel
theorem d_Mo_init_495 : decode prog_14_method_1_code 495 = .ok (.ldc 77, 2) := by decide +kernel
theorem d_Mo_init_497 : decode prog_14_method_1_code 497 = .ok (.iastore, 1) := by decide +kernel
theorem d_Mo_init_498 : decode prog_14_method_1_code 498 = .ok (.dup, 1) := by decide +kernel
theorem d_Mo_init_499 : decode prog_14_method_1_code 499 = .ok (.iconst 1, 1) := by decide +kernel
theorem d_Mo_init_500 : decode prog_14_method_1_code 500 = .ok (.ldc 77, 2) := by decide +kernel
theorem d_Mo_init_502 : decode prog_14_method_1_code 502 = .ok (.iastore, 1) := by decide +kernel
theorem d_Mo_init_503 : decode prog_14_method_1_code 503 = .ok (.dup, 1) := by decide +kernel
theorem d_Mo_init_504 : decode prog_14_method_1_code 504 = .ok (.iconst 2, 1) := by decide +kernel
theorem d_Mo_init_505 : decode prog_14_method_1_code 505 = .ok (.ldc 77, 2) := by decide +kernel
theorem d_Mo_init_507 : decode prog_14_method_1_code 507 = .ok (.iastore, 1) := by decide +kernel
theorem d_Mo_init_508 : decode prog_14_method_1_code 508 = .ok (.dup, 1) := by decide +kernel
theorem d_Mo_init_509 : decode prog_14_method_1_code 509 = .ok (.iconst 3, 1) := by decide +kernel
theorem d_Mo_init_510 : decode prog_14_method_1_code 510 = .ok (.ldc 77, 2) := by decide +kernel
theorem d_Mo_init_512 : decode prog_14_method_1_code 512 = .ok (.iastore, 1) := by decide +kernel
theorem d_Mo_init_513 : decode prog_14_method_1_code 513 = .ok (.dup, 1) := by decide +kernel
theorem d_Mo_init_514 : decode prog_14_method_1_code 514 = .ok (.iconst 4, 1) := by decide +kernel
theorem d_Mo_init_515 : decode prog_14_method_1_code 515 = .ok (.ldc 77, 2) := by decide +kernel
theorem d_Mo_init_517 : decode prog_14_method_1_code 517 = .ok (.iastore, 1) := by decide +kernel
theorem d_Mo_init_518 : decode prog_14_method_1_code 518 = .ok (.dup, 1) := by decide +kernel
theorem d_Mo_init_519 : decode prog_14_method_1_code 519 = .ok (.iconst 5, 1) := by decide +kernel
theorem d_Mo_init_520 : decode prog_14_method_1_code 520 = .ok (.ldc 77, 2) := by decide +kernel
theorem d_Mo_init_522 : decode prog_14_method_1_code 522 = .ok (.iastore, 1) := by decide +kernel
theorem d_Mo_init_523 : decode prog_14_method_1_code 523 = .ok (.dup, 1) := by decide +kernel
theorem d_Mo_init_524 : decode prog_14_method_1_code 524 = .ok (.bipush (6), 2) := by decide +kernel
theorem d_Mo_init_526 : decode prog_14_method_1_code 526 = .ok (.ldc 77, 2) := by decide +kernel
theorem d_Mo_init_528 : decode prog_14_method_1_code 528 = .ok (.iastore, 1) := by decide +kernel
theorem d_Mo_init_529 : decode prog_14_method_1_code 529 = .ok (.dup, 1) := by decide +kernel
theorem d_Mo_init_530 : decode prog_14_method_1_code 530 = .ok (.bipush (7), 2) := by decide +kernel
theorem d_Mo_init_532 : decode prog_14_method_1_code 532 = .ok (.ldc 78, 2) := by decide +kernel
theorem d_Mo_init_534 : decode prog_14_method_1_code 534 = .ok (.iastore, 1) := by decide +kernel
theorem d_Mo_init_535 : decode prog_14_method_1_code 535 = .ok (.dup, 1) := by decide +kernel
theorem d_Mo_init_536 : decode prog_14_method_1_code 536 = .ok (.bipush (8), 2) := by decide +kernel
theorem d_Mo_init_538 : decode prog_14_method_1_code 538 = .ok (.ldc 83, 2) := by decide +kernel
theorem d_Mo_init_540 : decode prog_14_method_1_code 540 = .ok (.iastore, 1) := by decide +kernel
theorem d_Mo_init_541 : decode prog_14_method_1_code 541 = .ok (.dup, 1) := by decide +kernel
theorem d_Mo_init_542 : decode prog_14_method_1_code 542 = .ok (.bipush (9), 2) := by decide +kernel
theorem d_Mo_init_544 : decode prog_14_method_1_code 544 = .ok (.ldc 84, 2) := by decide +kernel
theorem d_Mo_init_546 : decode prog_14_method_1_code 546 = .ok (.iastore, 1) := by decide +kernel
theorem d_Mo_init_547 : decode prog_14_method_1_code 547 = .ok (.dup, 1) := by decide +kernel
theorem d_Mo_init_548 : decode prog_14_method_1_code 548 = .ok (.bipush (10), 2) := by decide +kernel
theorem d_Mo_init_550 : decode prog_14_method_1_code 550 = .ok (.ldc 85, 2) := by decide +kernel
theorem d_Mo_init_552 : decode prog_14_method_1_code 552 = .ok (.iastore, 1) := by decide +kernel
theorem d_Mo_init_553 : decode prog_14_method_1_code 553 = .ok (.dup, 1) := by decide +kernel
theorem d_Mo_init_554 : decode prog_14_method_1_code 554 = .ok (.bipush (11), 2) := by decide +kernel
theorem d_Mo_init_556 : decode prog_14_method_1_code 556 = .ok (.ldc 86, 2) := by decide +kernel
theorem d_Mo_init_558 : decode prog_14_method_1_code 558 = .ok (.iastore, 1) := by decide +kernel
theorem d_Mo_init_559 : decode prog_14_method_1_code 559 = .ok (.dup, 1) := by decide +kernel
theorem d_Mo_init_560 : decode prog_14_method_1_code 560 = .ok (.bipush (12), 2) := by decide +kernel
theorem d_Mo_init_562 : decode prog_14_method_1_code 562 = .ok (.ldc 87, 2) := by decide +kernel
theorem d_Mo_init_564 : decode prog_14_method_1_code 564 = .ok (.iastore, 1) := by decide +kernel
theorem d_Mo_init_565 : decode prog_14_method_1_code 565 = .ok (.dup, 1) := by decide +kernel
theorem d_Mo_init_566 : decode prog_14_method_1_code 566 = .ok (.bipush (13), 2) := by decide +kernel
theorem d_Mo_init_568 : decode prog_14_method_1_code 568 = .ok (.sipush (24204), 3) := by decide +kernel
theorem d_Mo_init_571 : decode prog_14_method_1_code 571 = .ok (.iastore, 1) := by decide +kernel
theorem d_Mo_init_572 : decode prog_14_method_1_code 572 = .ok (.dup, 1) := by decide +kernel
theorem d_Mo_init_573 : decode prog_14_method_1_code 573 = .ok (.bipush (14), 2) := by decide +kernel
theorem d_Mo_init_575 : decode prog_14_method_1_code 575 = .ok (.ldc 88, 2) := by decide +kernel
theorem d_Mo_init_577 : decode prog_14_method_1_code 577 = .ok (.iastore, 1) := by decide +kernel
theorem d_Mo_init_578 : decode prog_14_method_1_code 578 = .ok (.dup, 1) := by decide +kernel
theorem d_Mo_init_579 : decode prog_14_method_1_code 579 = .ok (.bipush (15), 2) := by decide +kernel
theorem d_Mo_init_581 : decode prog_14_method_1_code 581 = .ok (.sipush (16705), 3) := by decide +kernel
theorem d_Mo_init_584 : decode prog_14_method_1_code 584 = .ok (.iastore, 1) := by decide +kernel
theorem d_Mo_init_585 : decode prog_14_method_1_code 585 = .ok (.putfield 89, 3) := by decide +kernel
theorem d_Mo_init_588 : decode prog_14_method_1_code 588 = .ok (.aload_n 0, 1) := by decide +kernel
theorem d_Mo_init_589 : decode prog_14_method_1_code 589 = .ok (.bipush (16), 2) := by decide +kernel
theorem d_Mo_init_591 : decode prog_14_method_1_code 591 = .ok (.newarray .int, 2) := by decide +kernel
theorem d_Mo_init_593 : decode prog_14_method_1_code 593 = .ok (.dup, 1) := by decide +kernel
theorem d_Mo_init_594 : decode prog_14_method_1_code 594 = .ok (.iconst 0, 1) := by decide +kernel
theorem d_Mo_init_595 : decode prog_14_method_1_code 595 = .ok (.sipush (31166), 3) := by decide +kernel
theorem d_Mo_init_598 : decode prog_14_method_1_code 598 = .ok (.iastore, 1) := by decide +kernel
theorem d_Mo_init_599 : decode prog_14_method_1_code 599 = .ok (.dup, 1) := by decide +kernel
theorem d_Mo_init_600 : decode prog_14_method_1_code 600 = .ok (.iconst 1, 1) := by decide +kernel
theorem d_Mo_init_601 : decode prog_14_method_1_code 601 = .ok (.sipush (26238), 3) := by decide +kernel
theorem d_Mo_init_604 : decode prog_14_method_1_code 604 = .ok (.iastore, 1) := by decide +kernel
theorem d_Mo_init_605 : decode prog_14_method_1_code 605 = .ok (.dup, 1) := by decide +kernel
theorem d_Mo_init_606 : decode prog_14_method_1_code 606 = .ok (.iconst 2, 1) := by decide +kernel
theorem d_Mo_init_607 : decode prog_14_method_1_code 607 = .ok (.ldc 92, 2) := by decide +kernel
theorem d_Mo_init_609 : decode prog_14_method_1_code 609 = .ok (.iastore, 1) := by decide +kernel
theorem d_Mo_init_610 : decode prog_14_method_1_code 610 = .ok (.dup, 1) := by decide +kernel
theorem d_Mo_init_611 : decode prog_14_method_1_code 611 = .ok (.iconst 3, 1) := by decide +kernel
theorem d_Mo_init_612 : decode prog_14_method_1_code 612 = .ok (.ldc 93, 2) := by decide +kernel
theorem d_Mo_init_614 : decode prog_14_method_1_code 614 = .ok (.iastore, 1) := by decide +kernel
theorem d_Mo_init_615 : decode prog_14_method_1_code 615 = .ok (.dup, 1) := by decide +kernel
theorem d_Mo_init_616 : decode prog_14_method_1_code 616 = .ok (.iconst 4, 1) := by decide +kernel
theorem d_Mo_init_617 : decode prog_14_method_1_code 617 = .ok (.sipush (21920), 3) := by decide +kernel
theorem d_Mo_init_620 : decode prog_14_method_1_code 620 = .ok (.iastore, 1) := by decide +kernel
theorem d_Mo_init_621 : decode prog_14_method_1_code 621 = .ok (.dup, 1) := by decide +kernel
theorem d_Mo_init_622 : decode prog_14_method_1_code 622 = .ok (.iconst 5, 1) := by decide +kernel
theorem d_Mo_init_623 : decode prog_14_method_1_code 623 = .ok (.sipush (25237), 3) := by decide +kernel
theorem d_Mo_init_626 : decode prog_14_method_1_code 626 = .ok (.iastore, 1) := by decide +kernel
theorem d_Mo_init_627 : decode prog_14_method_1_code 627 = .ok (.dup, 1) := by decide +kernel
theorem d_Mo_init_628 : decode prog_14_method_1_code 628 = .ok (.bipush (6), 2) := by decide +kernel
theorem d_Mo_init_630 : decode prog_14_method_1_code 630 = .ok (.ldc 94, 2) := by decide +kernel
theorem d_Mo_init_632 : decode prog_14_method_1_code 632 = .ok (.iastore, 1) := by decide +kernel
theorem d_Mo_init_633 : decode prog_14_method_1_code 633 = .ok (.dup, 1) := by decide +kernel
theorem d_Mo_init_634 : decode prog_14_method_1_code 634 = .ok (.bipush (7), 2) := by decide +kernel
theorem d_Mo_init_636 : decode prog_14_method_1_code 636 = .ok (.sipush (2823), 3) := by decide +kernel
theorem d_Mo_init_639 : decode prog_14_method_1_code 639 = .ok (.iastore, 1) := by decide +kernel
theorem d_Mo_init_640 : decode prog_14_method_1_code 640 = .ok (.dup, 1) := by decide +kernel
theorem d_Mo_init_641 : decode prog_14_method_1_code 641 = .ok (.bipush (8), 2) := by decide +kernel
theorem d_Mo_init_643 : decode prog_14_method_1_code 643 = .ok (.sipush (667), 3) := by decide +kernel
theorem d_Mo_init_646 : decode prog_14_method_1_code 646 = .ok (.iastore, 1) := by decide +kernel
theorem d_Mo_init_647 : decode prog_14_method_1_code 647 = .ok (.dup, 1) := by decide +kernel
theorem d_Mo_init_648 : decode prog_14_method_1_code 648 = .ok (.bipush (9), 2) := by decide +kernel
theorem d_Mo_init_650 : decode prog_14_method_1_code 650 = .ok (.ldc 95, 2) := by decide +kernel
theorem d_Mo_init_652 : decode prog_14_method_1_code 652 = .ok (.iastore, 1) := by decide +kernel
theorem d_Mo_init_653 : decode prog_14_method_1_code 653 = .ok (.dup, 1) := by decide +kernel
theorem d_Mo_init_654 : decode prog_14_method_1_code 654 = .ok (.bipush (10), 2) := by decide +kernel
theorem d_Mo_init_656 : decode prog_14_method_1_code 656 = .ok (.sipush (11726), 3) := by decide +kernel
theorem d_Mo_init_659 : decode prog_14_method_1_code 659 = .ok (.iastore, 1) := by decide +kernel
theorem d_Mo_init_660 : decode prog_14_method_1_code 660 = .ok (.dup, 1) := by decide +kernel
theorem d_Mo_init_661 : decode prog_14_method_1_code 661 = .ok (.bipush (11), 2) := by decide +kernel
theorem d_Mo_init_663 : decode prog_14_method_1_code 663 = .ok (.sipush (10457), 3) := by decide +kernel
theorem d_Mo_init_666 : decode prog_14_method_1_code 666 = .ok (.iastore, 1) := by decide +kernel
theorem d_Mo_init_667 : decode prog_14_method_1_code 667 = .ok (.dup, 1) := by decide +kernel
theorem d_Mo_init_668 : decode prog_14_method_1_code 668 = .ok (.bipush (12), 2) := by decide +kernel
theorem d_Mo_init_670 : decode prog_14_method_1_code 670 = .ok (.sipush (23026), 3) := by decide +kernel
theorem d_Mo_init_673 : decode prog_14_method_1_code 673 = .ok (.iastore, 1) := by decide +kernel
theorem d_Mo_init_674 : decode prog_14_method_1_code 674 = .ok (.dup, 1) := by decide +kernel
theorem d_Mo_init_675 : decode prog_14_method_1_code 675 = .ok (.bipush (13), 2) := by decide +kernel
theorem d_Mo_init_677 : decode prog_14_method_1_code 677 = .ok (.ldc 96, 2) := by decide +kernel
theorem d_Mo_init_679 : decode prog_14_method_1_code 679 = .ok (.iastore, 1) := by decide +kernel
theorem d_Mo_init_680 : decode prog_14_method_1_code 680 = .ok (.dup, 1) := by decide +kernel
theorem d_Mo_init_681 : decode prog_14_method_1_code 681 = .ok (.bipush (14), 2) := by decide +kernel
theorem d_Mo_init_683 : decode prog_14_method_1_code 683 = .ok (.sipush (5880), 3) := by decide +kernel
theorem d_Mo_init_686 : decode prog_14_method_1_code 686 = .ok (.iastore, 1) := by decide +kernel
theorem d_Mo_init_687 : decode prog_14_method_1_code 687 = .ok (.dup, 1) := by decide +kernel
theorem d_Mo_init_688 : decode prog_14_method_1_code 688 = .ok (.bipush (15), 2) := by decide +kernel
theorem d_Mo_init_690 : decode prog_14_method_1_code 690 = .ok (.sipush (6040), 3) := by decide +kernel
theorem d_Mo_init_693 : decode prog_14_method_1_code 693 = .ok (.iastore, 1) := by decide +kernel
theorem d_Mo_init_694 : decode prog_14_method_1_code 694 = .ok (.putfield 97, 3) := by decide +kernel
theorem d_Mo_init_697 : decode prog_14_method_1_code 697 = .ok (.aload_n 0, 1) := by decide +kernel
theorem d_Mo_init_698 : decode prog_14_method_1_code 698 = .ok (.bipush (16), 2) := by decide +kernel
theorem d_Mo_init_700 : decode prog_14_method_1_code 700 = .ok (.newarray .int, 2) := by decide +kernel
theorem d_Mo_init_702 : decode prog_14_method_1_code 702 = .ok (.dup, 1) := by decide +kernel
theorem d_Mo_init_703 : decode prog_14_method_1_code 703 = .ok (.iconst 0, 1) := by decide +kernel
theorem d_Mo_init_704 : decode prog_14_method_1_code 704 = .ok (.sipush (18490), 3) := by decide +kernel
theorem d_Mo_init_707 : decode prog_14_method_1_code 707 = .ok (.iastore, 1) := by decide +kernel
theorem d_Mo_init_708 : decode prog_14_method_1_code 708 = .ok (.dup, 1) := by decide +kernel
theorem d_Mo_init_709 : decode prog_14_method_1_code 709 = .ok (.iconst 1, 1) := by decide +kernel
