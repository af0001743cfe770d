theorem d_La_law_157 : decode code 157 = .ok (.iconst 1, 1) := by decide +kernel
theorem d_La_law_158 : decode code 158 = .ok (.iadd, 1) := by decide +kernel
theorem d_La_law_159 : decode code 159 = .ok (.iaload, 1) := by decide +kernel
theorem d_La_law_160 : decode code 160 = .ok (.aload_n 0, 1) := by decide +kernel
theorem d_La_law_161 : decode code 161 = .ok (.iload 4, 2) := by decide +kernel
theorem d_La_law_163 : decode code 163 = .ok (.iconst 2, 1) := by decide +kernel
theorem d_La_law_164 : decode code 164 = .ok (.iadd, 1) := by decide +kernel
theorem d_La_law_165 : decode code 165 = .ok (.iaload, 1) := by decide +kernel
theorem d_La_law_166 : decode code 166 = .ok (.aload_n 0, 1) := by decide +kernel
theorem d_La_law_167 : decode code 167 = .ok (.iload 4, 2) := by decide +kernel
theorem d_La_law_169 : decode code 169 = .ok (.iconst 3, 1) := by decide +kernel
theorem d_La_law_170 : decode code 170 = .ok (.iadd, 1) := by decide +kernel
theorem d_La_law_171 : decode code 171 = .ok (.iaload, 1) := by decide +kernel
theorem d_La_law_172 : decode code 172 = .ok (.aload_n 0, 1) := by decide +kernel
theorem d_La_law_173 : decode code 173 = .ok (.iload 4, 2) := by decide +kernel
theorem d_La_law_175 : decode code 175 = .ok (.iconst 4, 1) := by decide +kernel
theorem d_La_law_176 : decode code 176 = .ok (.iadd, 1) := by decide +kernel
theorem d_La_law_177 : decode code 177 = .ok (.iaload, 1) := by decide +kernel
theorem d_La_law_178 : decode code 178 = .ok (.aload_n 0, 1) := by decide +kernel
theorem d_La_law_179 : decode code 179 = .ok (.iload 4, 2) := by decide +kernel
theorem d_La_law_181 : decode code 181 = .ok (.iconst 5, 1) := by decide +kernel
theorem d_La_law_182 : decode code 182 = .ok (.iadd, 1) := by decide +kernel
theorem d_La_law_183 : decode code 183 = .ok (.iaload, 1) := by decide +kernel
theorem d_La_law_184 : decode code 184 = .ok (.aload_n 0, 1) := by decide +kernel
theorem d_La_law_185 : decode code 185 = .ok (.iload 4, 2) := by decide +kernel
theorem d_La_law_187 : decode code 187 = .ok (.bipush (6), 2) := by decide +kernel
theorem d_La_law_189 : decode code 189 = .ok (.iadd, 1) := by decide +kernel
theorem d_La_law_190 : decode code 190 = .ok (.iaload, 1) := by decide +kernel
theorem d_La_law_191 : decode code 191 = .ok (.invokevirtual 58, 3) := by decide +kernel
theorem d_La_law_194 : decode code 194 = .ok (.if_icmp .eq (549), 3) := by decide +kernel
theorem d_La_law_199 : decode code 199 = .ok (.aload_n 1, 1) := by decide +kernel
theorem d_La_law_200 : decode code 200 = .ok (.aload_n 3, 1) := by decide +kernel
theorem d_La_law_201 : decode code 201 = .ok (.invokestatic 59, 3) := by decide +kernel
theorem d_La_law_204 : decode code 204 = .ok (.istore 5, 2) := by decide +kernel
theorem d_La_law_206 : decode code 206 = .ok (.aload_n 2, 1) := by decide +kernel
theorem d_La_law_207 : decode code 207 = .ok (.invokevirtual 64, 3) := by decide +kernel
theorem d_La_law_210 : decode code 210 = .ok (.istore 6, 2) := by decide +kernel
theorem d_La_law_212 : decode code 212 = .ok (.aload_n 2, 1) := by decide +kernel
theorem d_La_law_213 : decode code 213 = .ok (.invokevirtual 65, 3) := by decide +kernel
theorem d_La_law_216 : decode code 216 = .ok (.iload 5, 2) := by decide +kernel
theorem d_La_law_218 : decode code 218 = .ok (.if_icmp .eq (5), 3) := by decide +kernel
theorem d_La_law_223 : decode code 223 = .ok (.iload 5, 2) := by decide +kernel
theorem d_La_law_225 : decode code 225 = .ok (.ifCond .ne (15), 3) := by decide +kernel
theorem d_La_law_228 : decode code 228 = .ok (.aload_n 3, 1) := by decide +kernel
theorem d_La_law_229 : decode code 229 = .ok (.iconst 0, 1) := by decide +kernel
theorem d_La_law_230 : decode code 230 = .ok (.laload, 1) := by decide +kernel
theorem d_La_law_231 : decode code 231 = .ok (.iload 6, 2) := by decide +kernel
theorem d_La_law_233 : decode code 233 = .ok (.i2l, 1) := by decide +kernel
theorem d_La_law_234 : decode code 234 = .ok (.lcmp, 1) := by decide +kernel
theorem d_La_law_235 : decode code 235 = .ok (.ifCond .eq (5), 3) := by decide +kernel
theorem d_La_law_240 : decode code 240 = .ok (.goto (503), 3) := by decide +kernel
theorem d_La_law_243 : decode code 243 = .ok (.aload_n 1, 1) := by decide +kernel
theorem d_La_law_244 : decode code 244 = .ok (.aload_n 0, 1) := by decide +kernel
theorem d_La_law_245 : decode code 245 = .ok (.iload 4, 2) := by decide +kernel
theorem d_La_law_247 : decode code 247 = .ok (.iconst 1, 1) := by decide +kernel
theorem d_La_law_248 : decode code 248 = .ok (.iadd, 1) := by decide +kernel
theorem d_La_law_249 : decode code 249 = .ok (.iaload, 1) := by decide +kernel
theorem d_La_law_250 : decode code 250 = .ok (.aload_n 0, 1) := by decide +kernel
theorem d_La_law_251 : decode code 251 = .ok (.iload 4, 2) := by decide +kernel
theorem d_La_law_253 : decode code 253 = .ok (.iconst 2, 1) := by decide +kernel
theorem d_La_law_254 : decode code 254 = .ok (.iadd, 1) := by decide +kernel
theorem d_La_law_255 : decode code 255 = .ok (.iaload, 1) := by decide +kernel
theorem d_La_law_256 : decode code 256 = .ok (.invokestatic 68, 3) := by decide +kernel
theorem d_La_law_259 : decode code 259 = .ok (.istore 5, 2) := by decide +kernel
theorem d_La_law_261 : decode code 261 = .ok (.aload_n 2, 1) := by decide +kernel
theorem d_La_law_262 : decode code 262 = .ok (.aload_n 0, 1) := by decide +kernel
theorem d_La_law_263 : decode code 263 = .ok (.iload 4, 2) := by decide +kernel
theorem d_La_law_265 : decode code 265 = .ok (.iconst 1, 1) := by decide +kernel
theorem d_La_law_266 : decode code 266 = .ok (.iadd, 1) := by decide +kernel
theorem d_La_law_267 : decode code 267 = .ok (.iaload, 1) := by decide +kernel
theorem d_La_law_268 : decode code 268 = .ok (.aload_n 0, 1) := by decide +kernel
theorem d_La_law_269 : decode code 269 = .ok (.iload 4, 2) := by decide +kernel
theorem d_La_law_271 : decode code 271 = .ok (.iconst 2, 1) := by decide +kernel
theorem d_La_law_272 : decode code 272 = .ok (.iadd, 1) := by decide +kernel
theorem d_La_law_273 : decode code 273 = .ok (.iaload, 1) := by decide +kernel
theorem d_La_law_274 : decode code 274 = .ok (.invokevirtual 71, 3) := by decide +kernel
theorem d_La_law_277 : decode code 277 = .ok (.aload_n 2, 1) := by decide +kernel
theorem d_La_law_278 : decode code 278 = .ok (.invokevirtual 65, 3) := by decide +kernel
theorem d_La_law_281 : decode code 281 = .ok (.iload 5, 2) := by decide +kernel
theorem d_La_law_283 : decode code 283 = .ok (.if_icmp .eq (5), 3) := by decide +kernel
theorem d_La_law_288 : decode code 288 = .ok (.goto (455), 3) := by decide +kernel
theorem d_La_law_291 : decode code 291 = .ok (.aload_n 1, 1) := by decide +kernel
theorem d_La_law_292 : decode code 292 = .ok (.aload_n 0, 1) := by decide +kernel
theorem d_La_law_293 : decode code 293 = .ok (.iload 4, 2) := by decide +kernel
theorem d_La_law_295 : decode code 295 = .ok (.iconst 1, 1) := by decide +kernel
theorem d_La_law_296 : decode code 296 = .ok (.iadd, 1) := by decide +kernel
theorem d_La_law_297 : decode code 297 = .ok (.iaload, 1) := by decide +kernel
theorem d_La_law_298 : decode code 298 = .ok (.aload_n 3, 1) := by decide +kernel
theorem d_La_law_299 : decode code 299 = .ok (.invokestatic 72, 3) := by decide +kernel
theorem d_La_law_302 : decode code 302 = .ok (.istore 5, 2) := by decide +kernel
theorem d_La_law_304 : decode code 304 = .ok (.aload_n 2, 1) := by decide +kernel
theorem d_La_law_305 : decode code 305 = .ok (.aload_n 0, 1) := by decide +kernel
theorem d_La_law_306 : decode code 306 = .ok (.iload 4, 2) := by decide +kernel
theorem d_La_law_308 : decode code 308 = .ok (.iconst 1, 1) := by decide +kernel
theorem d_La_law_309 : decode code 309 = .ok (.iadd, 1) := by decide +kernel
theorem d_La_law_310 : decode code 310 = .ok (.iaload, 1) := by decide +kernel
theorem d_La_law_311 : decode code 311 = .ok (.invokevirtual 75, 3) := by decide +kernel
theorem d_La_law_314 : decode code 314 = .ok (.istore 6, 2) := by decide +kernel
theorem d_La_law_316 : decode code 316 = .ok (.aload_n 2, 1) := by decide +kernel
theorem d_La_law_317 : decode code 317 = .ok (.invokevirtual 65, 3) := by decide +kernel
theorem d_La_law_320 : decode code 320 = .ok (.iload 5, 2) := by decide +kernel
theorem d_La_law_322 : decode code 322 = .ok (.if_icmp .eq (5), 3) := by decide +kernel
theorem d_La_law_327 : decode code 327 = .ok (.iload 5, 2) := by decide +kernel
theorem d_La_law_329 : decode code 329 = .ok (.ifCond .ne (22), 3) := by decide +kernel
theorem d_La_law_351 : decode code 351 = .ok (.goto (392), 3) := by decide +kernel
theorem d_La_law_354 : decode code 354 = .ok (.aload_n 1, 1) := by decide +kernel
theorem d_La_law_355 : decode code 355 = .ok (.aload_n 0, 1) := by decide +kernel
theorem d_La_law_356 : decode code 356 = .ok (.iload 4, 2) := by decide +kernel
theorem d_La_law_358 : decode code 358 = .ok (.iconst 1, 1) := by decide +kernel
theorem d_La_law_359 : decode code 359 = .ok (.iadd, 1) := by decide +kernel
theorem d_La_law_360 : decode code 360 = .ok (.iaload, 1) := by decide +kernel
theorem d_La_law_361 : decode code 361 = .ok (.invokestatic 76, 3) := by decide +kernel
theorem d_La_law_364 : decode code 364 = .ok (.istore 5, 2) := by decide +kernel
theorem d_La_law_366 : decode code 366 = .ok (.aload_n 2, 1) := by decide +kernel
theorem d_La_law_367 : decode code 367 = .ok (.aload_n 0, 1) := by decide +kernel
theorem d_La_law_368 : decode code 368 = .ok (.iload 4, 2) := by decide +kernel
theorem d_La_law_370 : decode code 370 = .ok (.iconst 1, 1) := by decide +kernel
theorem d_La_law_371 : decode code 371 = .ok (.iadd, 1) := by decide +kernel
theorem d_La_law_372 : decode code 372 = .ok (.iaload, 1) := by decide +kernel
theorem d_La_law_373 : decode code 373 = .ok (.invokevirtual 79, 3) := by decide +kernel
theorem d_La_law_376 : decode code 376 = .ok (.aload_n 2, 1) := by decide +kernel
theorem d_La_law_377 : decode code 377 = .ok (.invokevirtual 65, 3) := by decide +kernel
theorem d_La_law_380 : decode code 380 = .ok (.iload 5, 2) := by decide +kernel
theorem d_La_law_382 : decode code 382 = .ok (.if_icmp .eq (5), 3) := by decide +kernel
theorem d_La_law_387 : decode code 387 = .ok (.goto (356), 3) := by decide +kernel
theorem d_La_law_390 : decode code 390 = .ok (.aload_n 1, 1) := by decide +kernel
theorem d_La_law_391 : decode code 391 = .ok (.aload_n 0, 1) := by decide +kernel
theorem d_La_law_392 : decode code 392 = .ok (.iload 4, 2) := by decide +kernel
theorem d_La_law_394 : decode code 394 = .ok (.iconst 1, 1) := by decide +kernel
theorem d_La_law_395 : decode code 395 = .ok (.iadd, 1) := by decide +kernel
theorem d_La_law_396 : decode code 396 = .ok (.iaload, 1) := by decide +kernel
theorem d_La_law_397 : decode code 397 = .ok (.invokestatic 80, 3) := by decide +kernel
theorem d_La_law_400 : decode code 400 = .ok (.istore 5, 2) := by decide +kernel
theorem d_La_law_402 : decode code 402 = .ok (.aload_n 2, 1) := by decide +kernel
theorem d_La_law_403 : decode code 403 = .ok (.aload_n 0, 1) := by decide +kernel
theorem d_La_law_404 : decode code 404 = .ok (.iload 4, 2) := by decide +kernel
theorem d_La_law_406 : decode code 406 = .ok (.iconst 1, 1) := by decide +kernel
theorem d_La_law_407 : decode code 407 = .ok (.iadd, 1) := by decide +kernel
theorem d_La_law_408 : decode code 408 = .ok (.iaload, 1) := by decide +kernel
theorem d_La_law_409 : decode code 409 = .ok (.invokevirtual 82, 3) := by decide +kernel
theorem d_La_law_412 : decode code 412 = .ok (.aload_n 2, 1) := by decide +kernel
theorem d_La_law_413 : decode code 413 = .ok (.invokevirtual 65, 3) := by decide +kernel
theorem d_La_law_416 : decode code 416 = .ok (.iload 5, 2) := by decide +kernel
theorem d_La_law_418 : decode code 418 = .ok (.if_icmp .eq (5), 3) := by decide +kernel
theorem d_La_law_423 : decode code 423 = .ok (.goto (320), 3) := by decide +kernel
theorem d_La_law_426 : decode code 426 = .ok (.aload_n 1, 1) := by decide +kernel
theorem d_La_law_427 : decode code 427 = .ok (.aload_n 0, 1) := by decide +kernel
theorem d_La_law_428 : decode code 428 = .ok (.iload 4, 2) := by decide +kernel
theorem d_La_law_430 : decode code 430 = .ok (.iconst 1, 1) := by decide +kernel
theorem d_La_law_431 : decode code 431 = .ok (.iadd, 1) := by decide +kernel
theorem d_La_law_432 : decode code 432 = .ok (.iaload, 1) := by decide +kernel
theorem d_La_law_433 : decode code 433 = .ok (.invokestatic 83, 3) := by decide +kernel
theorem d_La_law_436 : decode code 436 = .ok (.istore 5, 2) := by decide +kernel
theorem d_La_law_438 : decode code 438 = .ok (.aload_n 2, 1) := by decide +kernel
theorem d_La_law_439 : decode code 439 = .ok (.aload_n 0, 1) := by decide +kernel
theorem d_La_law_440 : decode code 440 = .ok (.iload 4, 2) := by decide +kernel
theorem d_La_law_442 : decode code 442 = .ok (.iconst 1, 1) := by decide +kernel
theorem d_La_law_443 : decode code 443 = .ok (.iadd, 1) := by decide +kernel
theorem d_La_law_444 : decode code 444 = .ok (.iaload, 1) := by decide +kernel
theorem d_La_law_445 : decode code 445 = .ok (.invokevirtual 85, 3) := by decide +kernel
theorem d_La_law_448 : decode code 448 = .ok (.aload_n 2, 1) := by decide +kernel
theorem d_La_law_449 : decode code 449 = .ok (.invokevirtual 65, 3) := by decide +kernel
theorem d_La_law_452 : decode code 452 = .ok (.iload 5, 2) := by decide +kernel
theorem d_La_law_454 : decode code 454 = .ok (.if_icmp .eq (5), 3) := by decide +kernel
theorem d_La_law_459 : decode code 459 = .ok (.goto (284), 3) := by decide +kernel
theorem d_La_law_462 : decode code 462 = .ok (.aload_n 1, 1) := by decide +kernel
theorem d_La_law_463 : decode code 463 = .ok (.aload_n 0, 1) := by decide +kernel
theorem d_La_law_464 : decode code 464 = .ok (.iload 4, 2) := by decide +kernel
theorem d_La_law_466 : decode code 466 = .ok (.iconst 1, 1) := by decide +kernel
theorem d_La_law_467 : decode code 467 = .ok (.iadd, 1) := by decide +kernel
theorem d_La_law_468 : decode code 468 = .ok (.iaload, 1) := by decide +kernel
theorem d_La_law_469 : decode code 469 = .ok (.invokestatic 86, 3) := by decide +kernel
theorem d_La_law_472 : decode code 472 = .ok (.istore 5, 2) := by decide +kernel
theorem d_La_law_474 : decode code 474 = .ok (.aload_n 2, 1) := by decide +kernel
theorem d_La_law_475 : decode code 475 = .ok (.aload_n 0, 1) := by decide +kernel
theorem d_La_law_476 : decode code 476 = .ok (.iload 4, 2) := by decide +kernel
theorem d_La_law_478 : decode code 478 = .ok (.iconst 1, 1) := by decide +kernel
theorem d_La_law_479 : decode code 479 = .ok (.iadd, 1) := by decide +kernel
theorem d_La_law_480 : decode code 480 = .ok (.iaload, 1) := by decide +kernel
theorem d_La_law_481 : decode code 481 = .ok (.invokevirtual 88, 3) := by decide +kernel
theorem d_La_law_484 : decode code 484 = .ok (.aload_n 2, 1) := by decide +kernel
theorem d_La_law_485 : decode code 485 = .ok (.invokevirtual 65, 3) := by decide +kernel
theorem d_La_law_488 : decode code 488 = .ok (.iload 5, 2) := by decide +kernel
theorem d_La_law_490 : decode code 490 = .ok (.if_icmp .eq (5), 3) := by decide +kernel
theorem d_La_law_495 : decode code 495 = .ok (.goto (248), 3) := by decide +kernel
theorem d_La_law_498 : decode code 498 = .ok (.aload_n 1, 1) := by decide +kernel
theorem d_La_law_499 : decode code 499 = .ok (.aload_n 0, 1) := by decide +kernel
theorem d_La_law_500 : decode code 500 = .ok (.iload 4, 2) := by decide +kernel
theorem d_La_law_502 : decode code 502 = .ok (.iconst 1, 1) := by decide +kernel
theorem d_La_law_503 : decode code 503 = .ok (.iadd, 1) := by decide +kernel
theorem d_La_law_504 : decode code 504 = .ok (.iaload, 1) := by decide +kernel
theorem d_La_law_505 : decode code 505 = .ok (.aload_n 3, 1) := by decide +kernel
theorem d_La_law_506 : decode code 506 = .ok (.invokestatic 89, 3) := by decide +kernel
theorem d_La_law_509 : decode code 509 = .ok (.istore 5, 2) := by decide +kernel
theorem d_La_law_511 : decode code 511 = .ok (.aload_n 2, 1) := by decide +kernel
theorem d_La_law_512 : decode code 512 = .ok (.aload_n 0, 1) := by decide +kernel
theorem d_La_law_513 : decode code 513 = .ok (.iload 4, 2) := by decide +kernel
theorem d_La_law_515 : decode code 515 = .ok (.iconst 1, 1) := by decide +kernel
theorem d_La_law_516 : decode code 516 = .ok (.iadd, 1) := by decide +kernel
theorem d_La_law_517 : decode code 517 = .ok (.iaload, 1) := by decide +kernel
theorem d_La_law_518 : decode code 518 = .ok (.invokevirtual 91, 3) := by decide +kernel
theorem d_La_law_521 : decode code 521 = .ok (.istore 6, 2) := by decide +kernel
theorem d_La_law_523 : decode code 523 = .ok (.aload_n 2, 1) := by decide +kernel
theorem d_La_law_524 : decode code 524 = .ok (.invokevirtual 65, 3) := by decide +kernel
theorem d_La_law_527 : decode code 527 = .ok (.iload 5, 2) := by decide +kernel
theorem d_La_law_529 : decode code 529 = .ok (.if_icmp .eq (5), 3) := by decide +kernel
theorem d_La_law_534 : decode code 534 = .ok (.iload 5, 2) := by decide +kernel
theorem d_La_law_536 : decode code 536 = .ok (.ifCond .ne (22), 3) := by decide +kernel
theorem d_La_law_558 : decode code 558 = .ok (.goto (185), 3) := by decide +kernel
theorem d_La_law_561 : decode code 561 = .ok (.aload_n 1, 1) := by decide +kernel
theorem d_La_law_562 : decode code 562 = .ok (.aload_n 3, 1) := by decide +kernel
theorem d_La_law_563 : decode code 563 = .ok (.invokestatic 92, 3) := by decide +kernel
theorem d_La_law_566 : decode code 566 = .ok (.istore 5, 2) := by decide +kernel
theorem d_La_law_568 : decode code 568 = .ok (.aload_n 2, 1) := by decide +kernel
theorem d_La_law_569 : decode code 569 = .ok (.invokevirtual 94, 3) := by decide +kernel
theorem d_La_law_572 : decode code 572 = .ok (.istore 6, 2) := by decide +kernel
theorem d_La_law_574 : decode code 574 = .ok (.aload_n 2, 1) := by decide +kernel
theorem d_La_law_575 : decode code 575 = .ok (.invokevirtual 65, 3) := by decide +kernel
theorem d_La_law_578 : decode code 578 = .ok (.iload 5, 2) := by decide +kernel
theorem d_La_law_580 : decode code 580 = .ok (.if_icmp .eq (5), 3) := by decide +kernel
theorem d_La_law_585 : decode code 585 = .ok (.iload 5, 2) := by decide +kernel
theorem d_La_law_587 : decode code 587 = .ok (.ifCond .ne (15), 3) := by decide +kernel
theorem d_La_law_602 : decode code 602 = .ok (.goto (141), 3) := by decide +kernel
theorem d_La_law_605 : decode code 605 = .ok (.aload_n 1, 1) := by decide +kernel
theorem d_La_law_606 : decode code 606 = .ok (.aload_n 3, 1) := by decide +kernel
theorem d_La_law_607 : decode code 607 = .ok (.invokestatic 95, 3) := by decide +kernel
theorem d_La_law_610 : decode code 610 = .ok (.istore 5, 2) := by decide +kernel
theorem d_La_law_612 : decode code 612 = .ok (.aload_n 2, 1) := by decide +kernel
theorem d_La_law_613 : decode code 613 = .ok (.invokevirtual 97, 3) := by decide +kernel
theorem d_La_law_616 : decode code 616 = .ok (.istore 6, 2) := by decide +kernel
theorem d_La_law_618 : decode code 618 = .ok (.aload_n 2, 1) := by decide +kernel
theorem d_La_law_619 : decode code 619 = .ok (.invokevirtual 65, 3) := by decide +kernel
theorem d_La_law_622 : decode code 622 = .ok (.iload 5, 2) := by decide +kernel
theorem d_La_law_624 : decode code 624 = .ok (.if_icmp .eq (5), 3) := by decide +kernel
theorem d_La_law_629 : decode code 629 = .ok (.iload 5, 2) := by decide +kernel
theorem d_La_law_631 : decode code 631 = .ok (.ifCond .ne (22), 3) := by decide +kernel
theorem d_La_law_653 : decode code 653 = .ok (.goto (90), 3) := by decide +kernel
theorem d_La_law_656 : decode code 656 = .ok (.aload_n 1, 1) := by decide +kernel
theorem d_La_law_657 : decode code 657 = .ok (.aload_n 0, 1) := by decide +kernel
theorem d_La_law_658 : decode code 658 = .ok (.iload 4, 2) := by decide +kernel
theorem d_La_law_660 : decode code 660 = .ok (.iconst 1, 1) := by decide +kernel
theorem d_La_law_661 : decode code 661 = .ok (.iadd, 1) := by decide +kernel
theorem d_La_law_662 : decode code 662 = .ok (.iaload, 1) := by decide +kernel
theorem d_La_law_663 : decode code 663 = .ok (.aload_n 0, 1) := by decide +kernel
theorem d_La_law_664 : decode code 664 = .ok (.iload 4, 2) := by decide +kernel
theorem d_La_law_666 : decode code 666 = .ok (.iconst 2, 1) := by decide +kernel
theorem d_La_law_667 : decode code 667 = .ok (.iadd, 1) := by decide +kernel
theorem d_La_law_668 : decode code 668 = .ok (.iaload, 1) := by decide +kernel
theorem d_La_law_669 : decode code 669 = .ok (.invokevirtual 98, 3) := by decide +kernel
theorem d_La_law_672 : decode code 672 = .ok (.aload_n 2, 1) := by decide +kernel
theorem d_La_law_673 : decode code 673 = .ok (.aload_n 0, 1) := by decide +kernel
theorem d_La_law_674 : decode code 674 = .ok (.iload 4, 2) := by decide +kernel
theorem d_La_law_676 : decode code 676 = .ok (.iconst 1, 1) := by decide +kernel
theorem d_La_law_677 : decode code 677 = .ok (.iadd, 1) := by decide +kernel
theorem d_La_law_678 : decode code 678 = .ok (.iaload, 1) := by decide +kernel
theorem d_La_law_679 : decode code 679 = .ok (.aload_n 0, 1) := by decide +kernel
theorem d_La_law_680 : decode code 680 = .ok (.iload 4, 2) := by decide +kernel
theorem d_La_law_682 : decode code 682 = .ok (.iconst 2, 1) := by decide +kernel
theorem d_La_law_683 : decode code 683 = .ok (.iadd, 1) := by decide +kernel
theorem d_La_law_684 : decode code 684 = .ok (.iaload, 1) := by decide +kernel
theorem d_La_law_685 : decode code 685 = .ok (.invokevirtual 102, 3) := by decide +kernel
theorem d_La_law_688 : decode code 688 = .ok (.if_icmp .eq (55), 3) := by decide +kernel
theorem d_La_law_693 : decode code 693 = .ok (.aload_n 1, 1) := by decide +kernel
theorem d_La_law_694 : decode code 694 = .ok (.aload_n 0, 1) := by decide +kernel
theorem d_La_law_695 : decode code 695 = .ok (.iload 4, 2) := by decide +kernel
theorem d_La_law_697 : decode code 697 = .ok (.iconst 1, 1) := by decide +kernel
theorem d_La_law_698 : decode code 698 = .ok (.iadd, 1) := by decide +kernel
theorem d_La_law_699 : decode code 699 = .ok (.iaload, 1) := by decide +kernel
theorem d_La_law_700 : decode code 700 = .ok (.invokevirtual 103, 3) := by decide +kernel
theorem d_La_law_703 : decode code 703 = .ok (.aload_n 2, 1) := by decide +kernel
theorem d_La_law_704 : decode code 704 = .ok (.aload_n 0, 1) := by decide +kernel
theorem d_La_law_705 : decode code 705 = .ok (.iload 4, 2) := by decide +kernel
theorem d_La_law_707 : decode code 707 = .ok (.iconst 1, 1) := by decide +kernel
theorem d_La_law_708 : decode code 708 = .ok (.iadd, 1) := by decide +kernel
theorem d_La_law_709 : decode code 709 = .ok (.iaload, 1) := by decide +kernel
theorem d_La_law_710 : decode code 710 = .ok (.invokevirtual 107, 3) := by decide +kernel
theorem d_La_law_713 : decode code 713 = .ok (.if_icmp .eq (30), 3) := by decide +kernel
theorem d_La_law_718 : decode code 718 = .ok (.aload_n 1, 1) := by decide +kernel
theorem d_La_law_719 : decode code 719 = .ok (.aload_n 0, 1) := by decide +kernel
theorem d_La_law_720 : decode code 720 = .ok (.iload 4, 2) := by decide +kernel
theorem d_La_law_722 : decode code 722 = .ok (.iconst 1, 1) := by decide +kernel
theorem d_La_law_723 : decode code 723 = .ok (.iadd, 1) := by decide +kernel
theorem d_La_law_724 : decode code 724 = .ok (.iaload, 1) := by decide +kernel
theorem d_La_law_725 : decode code 725 = .ok (.invokevirtual 108, 3) := by decide +kernel
theorem d_La_law_728 : decode code 728 = .ok (.aload_n 2, 1) := by decide +kernel
theorem d_La_law_729 : decode code 729 = .ok (.aload_n 0, 1) := by decide +kernel
theorem d_La_law_730 : decode code 730 = .ok (.iload 4, 2) := by decide +kernel
theorem d_La_law_732 : decode code 732 = .ok (.iconst 1, 1) := by decide +kernel
theorem d_La_law_733 : decode code 733 = .ok (.iadd, 1) := by decide +kernel
theorem d_La_law_734 : decode code 734 = .ok (.iaload, 1) := by decide +kernel
theorem d_La_law_735 : decode code 735 = .ok (.invokevirtual 111, 3) := by decide +kernel
theorem d_La_law_738 : decode code 738 = .ok (.if_icmp .eq (5), 3) := by decide +kernel
theorem d_La_law_743 : decode code 743 = .ok (.iinc 4 (7), 3) := by decide +kernel
theorem d_La_law_746 : decode code 746 = .ok (.goto (-723), 3) := by decide +kernel
theorem d_La_law_749 : decode code 749 = .ok (.iconst 1, 1) := by decide +kernel
theorem d_La_law_750 : decode code 750 = .ok (.ireturn, 1) := by decide +kernel
theorem d_La_message_0 : decode method_3_code 0 = .ok (.aload_n 1, 1) := by decide +kernel
theorem d_La_message_1 : decode method_3_code 1 = .ok (.iconst 0, 1) := by decide +kernel
theorem d_La_message_2 : decode method_3_code 2 = .ok (.aload_n 0, 1) := by decide +kernel
theorem d_La_message_3 : decode method_3_code 3 = .ok (.invokevirtual 7, 3) := by decide +kernel
theorem d_La_message_6 : decode method_3_code 6 = .ok (.i2l, 1) := by decide +kernel
theorem d_La_message_7 : decode method_3_code 7 = .ok (.lastore, 1) := by decide +kernel
theorem d_La_message_8 : decode method_3_code 8 = .ok (.goto (6), 3) := by decide +kernel
theorem d_La_message_14 : decode method_3_code 14 = .ok (.iconst 0, 1) := by decide +kernel
theorem d_La_message_15 : decode method_3_code 15 = .ok (.ireturn, 1) := by decide +kernel
theorem d_La_other_0 : decode method_9_code 0 = .ok (.aload_n 0, 1) := by decide +kernel
theorem d_La_other_1 : decode method_9_code 1 = .ok (.iload_n 1, 1) := by decide +kernel
theorem d_La_other_2 : decode method_9_code 2 = .ok (.invokevirtual 37, 3) := by decide +kernel
theorem d_La_other_8 : decode method_9_code 8 = .ok (.astore_n 2, 1) := by decide +kernel
theorem d_La_other_9 : decode method_9_code 9 = .ok (.iconst 1, 1) := by decide +kernel
theorem d_La_other_10 : decode method_9_code 10 = .ok (.ireturn, 1) := by decide +kernel
theorem d_La_right_0 : decode method_10_code 0 = .ok (.aload_n 2, 1) := by decide +kernel
theorem d_La_right_1 : decode method_10_code 1 = .ok (.iconst 0, 1) := by decide +kernel
theorem d_La_right_2 : decode method_10_code 2 = .ok (.aload_n 0, 1) := by decide +kernel
theorem d_La_right_3 : decode method_10_code 3 = .ok (.iload_n 1, 1) := by decide +kernel
theorem d_La_right_4 : decode method_10_code 4 = .ok (.invokevirtual 40, 3) := by decide +kernel
theorem d_La_right_19 : decode method_10_code 19 = .ok (.astore_n 3, 1) := by decide +kernel
theorem d_La_right_20 : decode method_10_code 20 = .ok (.iconst 1, 1) := by decide +kernel
theorem d_La_right_21 : decode method_10_code 21 = .ok (.ireturn, 1) := by decide +kernel
theorem d_La_share_0 : decode method_8_code 0 = .ok (.aload_n 0, 1) := by decide +kernel
theorem d_La_share_1 : decode method_8_code 1 = .ok (.iload_n 1, 1) := by decide +kernel
theorem d_La_share_2 : decode method_8_code 2 = .ok (.invokevirtual 34, 3) := by decide +kernel
theorem d_La_share_8 : decode method_8_code 8 = .ok (.astore_n 2, 1) := by decide +kernel
theorem d_La_share_9 : decode method_8_code 9 = .ok (.iconst 1, 1) := by decide +kernel
theorem d_La_share_10 : decode method_8_code 10 = .ok (.ireturn, 1) := by decide +kernel
theorem d_Mo_init_0 : decode prog_14_method_1_code 0 = .ok (.aload_n 0, 1) := by decide +kernel
theorem d_Mo_init_1 : decode prog_14_method_1_code 1 = .ok (.invokespecial 1, 3) := by decide +kernel
theorem d_Mo_init_4 : decode prog_14_method_1_code 4 = .ok (.aload_n 0, 1) := by decide +kernel
theorem d_Mo_init_5 : decode prog_14_method_1_code 5 = .ok (.bipush (64), 2) := by decide +kernel
theorem d_Mo_init_7 : decode prog_14_method_1_code 7 = .ok (.newarray .int, 2) := by decide +kernel
theorem d_Mo_init_9 : decode prog_14_method_1_code 9 = .ok (.dup, 1) := by decide +kernel
theorem d_Mo_init_10 : decode prog_14_method_1_code 10 = .ok (.iconst 0, 1) := by decide +kernel
theorem d_Mo_init_11 : decode prog_14_method_1_code 11 = .ok (.ldc 7, 2) := by decide +kernel
theorem d_Mo_init_13 : decode prog_14_method_1_code 13 = .ok (.iastore, 1) := by decide +kernel
theorem d_Mo_init_14 : decode prog_14_method_1_code 14 = .ok (.dup, 1) := by decide +kernel
theorem d_Mo_init_15 : decode prog_14_method_1_code 15 = .ok (.iconst 1, 1) := by decide +kernel
theorem d_Mo_init_16 : decode prog_14_method_1_code 16 = .ok (.ldc 8, 2) := by decide +kernel
theorem d_Mo_init_18 : decode prog_14_method_1_code 18 = .ok (.iastore, 1) := by decide +kernel
theorem d_Mo_init_19 : decode prog_14_method_1_code 19 = .ok (.dup, 1) := by decide +kernel
theorem d_Mo_init_20 : decode prog_14_method_1_code 20 = .ok (.iconst 2, 1) := by decide +kernel
theorem d_Mo_init_21 : decode prog_14_method_1_code 21 = .ok (.ldc 9, 2) := by decide +kernel
theorem d_Mo_init_23 : decode prog_14_method_1_code 23 = .ok (.iastore, 1) := by decide +kernel
theorem d_Mo_init_24 : decode prog_14_method_1_code 24 = .ok (.dup, 1) := by decide +kernel
theorem d_Mo_init_25 : decode prog_14_method_1_code 25 = .ok (.iconst 3, 1) := by decide +kernel
theorem d_Mo_init_26 : decode prog_14_method_1_code 26 = .ok (.ldc 10, 2) := by decide +kernel
theorem d_Mo_init_28 : decode prog_14_method_1_code 28 = .ok (.iastore, 1) := by decide +kernel
theorem d_Mo_init_29 : decode prog_14_method_1_code 29 = .ok (.dup, 1) := by decide +kernel
theorem d_Mo_init_30 : decode prog_14_method_1_code 30 = .ok (.iconst 4, 1) := by decide +kernel
theorem d_Mo_init_31 : decode prog_14_method_1_code 31 = .ok (.ldc 11, 2) := by decide +kernel
theorem d_Mo_init_33 : decode prog_14_method_1_code 33 = .ok (.iastore, 1) := by decide +kernel
theorem d_Mo_init_34 : decode prog_14_method_1_code 34 = .ok (.dup, 1) := by decide +kernel
theorem d_Mo_init_35 : decode prog_14_method_1_code 35 = .ok (.iconst 5, 1) := by decide +kernel
theorem d_Mo_init_36 : decode prog_14_method_1_code 36 = .ok (.ldc 12, 2) := by decide +kernel
theorem d_Mo_init_38 : decode prog_14_method_1_code 38 = .ok (.iastore, 1) := by decide +kernel
theorem d_Mo_init_39 : decode prog_14_method_1_code 39 = .ok (.dup, 1) := by decide +kernel
theorem d_Mo_init_40 : decode prog_14_method_1_code 40 = .ok (.bipush (6), 2) := by decide +kernel
theorem d_Mo_init_42 : decode prog_14_method_1_code 42 = .ok (.ldc 13, 2) := by decide +kernel
theorem d_Mo_init_44 : decode prog_14_method_1_code 44 = .ok (.iastore, 1) := by decide +kernel
theorem d_Mo_init_45 : decode prog_14_method_1_code 45 = .ok (.dup, 1) := by decide +kernel
theorem d_Mo_init_46 : decode prog_14_method_1_code 46 = .ok (.bipush (7), 2) := by decide +kernel
theorem d_Mo_init_48 : decode prog_14_method_1_code 48 = .ok (.ldc 14, 2) := by decide +kernel
theorem d_Mo_init_50 : decode prog_14_method_1_code 50 = .ok (.iastore, 1) := by decide +kernel
theorem d_Mo_init_51 : decode prog_14_method_1_code 51 = .ok (.dup, 1) := by decide +kernel
theorem d_Mo_init_52 : decode prog_14_method_1_code 52 = .ok (.bipush (8), 2) := by decide +kernel
theorem d_Mo_init_54 : decode prog_14_method_1_code 54 = .ok (.ldc 15, 2) := by decide +kernel
theorem d_Mo_init_56 : decode prog_14_method_1_code 56 = .ok (.iastore, 1) := by decide +kernel
theorem d_Mo_init_57 : decode prog_14_method_1_code 57 = .ok (.dup, 1) := by decide +kernel
theorem d_Mo_init_58 : decode prog_14_method_1_code 58 = .ok (.bipush (9), 2) := by decide +kernel
theorem d_Mo_init_60 : decode prog_14_method_1_code 60 = .ok (.ldc 16, 2) := by decide +kernel
theorem d_Mo_init_62 : decode prog_14_method_1_code 62 = .ok (.iastore, 1) := by decide +kernel
theorem d_Mo_init_63 : decode prog_14_method_1_code 63 = .ok (.dup, 1) := by decide +kernel
theorem d_Mo_init_64 : decode prog_14_method_1_code 64 = .ok (.bipush (10), 2) := by decide +kernel
theorem d_Mo_init_66 : decode prog_14_method_1_code 66 = .ok (.ldc 17, 2) := by decide +kernel
theorem d_Mo_init_68 : decode prog_14_method_1_code 68 = .ok (.iastore, 1) := by decide +kernel
theorem d_Mo_init_69 : decode prog_14_method_1_code 69 = .ok (.dup, 1) := by decide +kernel
theorem d_Mo_init_70 : decode prog_14_method_1_code 70 = .ok (.bipush (11), 2) := by decide +kernel
theorem d_Mo_init_72 : decode prog_14_method_1_code 72 = .ok (.ldc 18, 2) := by decide +kernel
theorem d_Mo_init_74 : decode prog_14_method_1_code 74 = .ok (.iastore, 1) := by decide +kernel
theorem d_Mo_init_75 : decode prog_14_method_1_code 75 = .ok (.dup, 1) := by decide +kernel
theorem d_Mo_init_76 : decode prog_14_method_1_code 76 = .ok (.bipush (12), 2) := by decide +kernel
theorem d_Mo_init_78 : decode prog_14_method_1_code 78 = .ok (.ldc 19, 2) := by decide +kernel
theorem d_Mo_init_80 : decode prog_14_method_1_code 80 = .ok (.iastore, 1) := by decide +kernel
theorem d_Mo_init_81 : decode prog_14_method_1_code 81 = .ok (.dup, 1) := by decide +kernel
theorem d_Mo_init_82 : decode prog_14_method_1_code 82 = .ok (.bipush (13), 2) := by decide +kernel
theorem d_Mo_init_84 : decode prog_14_method_1_code 84 = .ok (.ldc 20, 2) := by decide +kernel
theorem d_Mo_init_86 : decode prog_14_method_1_code 86 = .ok (.iastore, 1) := by decide +kernel
theorem d_Mo_init_87 : decode prog_14_method_1_code 87 = .ok (.dup, 1) := by decide +kernel
theorem d_Mo_init_88 : decode prog_14_method_1_code 88 = .ok (.bipush (14), 2) := by decide +kernel
theorem d_Mo_init_90 : decode prog_14_method_1_code 90 = .ok (.ldc 21, 2) := by decide +kernel
theorem d_Mo_init_92 : decode prog_14_method_1_code 92 = .ok (.iastore, 1) := by decide +kernel
theorem d_Mo_init_93 : decode prog_14_method_1_code 93 = .ok (.dup, 1) := by decide +kernel
theorem d_Mo_init_94 : decode prog_14_method_1_code 94 = .ok (.bipush (15), 2) := by decide +kernel
theorem d_Mo_init_96 : decode prog_14_method_1_code 96 = .ok (.ldc 22, 2) := by decide +kernel
theorem d_Mo_init_98 : decode prog_14_method_1_code 98 = .ok (.iastore, 1) := by decide +kernel
theorem d_Mo_init_99 : decode prog_14_method_1_code 99 = .ok (.dup, 1) := by decide +kernel
theorem d_Mo_init_100 : decode prog_14_method_1_code 100 = .ok (.bipush (16), 2) := by decide +kernel
theorem d_Mo_init_102 : decode prog_14_method_1_code 102 = .ok (.ldc 23, 2) := by decide +kernel
theorem d_Mo_init_104 : decode prog_14_method_1_code 104 = .ok (.iastore, 1) := by decide +kernel
theorem d_Mo_init_105 : decode prog_14_method_1_code 105 = .ok (.dup, 1) := by decide +kernel
theorem d_Mo_init_106 : decode prog_14_method_1_code 106 = .ok (.bipush (17), 2) := by decide +kernel
