theorem dL_does_136 : decode cL_does 136 = .ok (.iconst 1, 1) := by decide +kernel
theorem dL_does_137 : decode cL_does 137 = .ok (.aload_n 0, 1) := by decide +kernel
theorem dL_does_138 : decode cL_does 138 = .ok (.bipush 10, 2) := by decide +kernel
theorem dL_does_140 : decode cL_does 140 = .ok (.invokevirtual 8, 3) := by decide +kernel
theorem dL_does_143 : decode cL_does 143 = .ok (.ishl, 1) := by decide +kernel
theorem dL_does_144 : decode cL_does 144 = .ok (.irem, 1) := by decide +kernel
theorem dL_does_145 : decode cL_does 145 = .ok (.if_icmp .ne 16, 3) := by decide +kernel
theorem dL_does_148 : decode cL_does 148 = .ok (.aload_n 0, 1) := by decide +kernel
theorem dL_does_149 : decode cL_does 149 = .ok (.invokevirtual 41, 3) := by decide +kernel
theorem dL_does_152 : decode cL_does 152 = .ok (.bipush (-5), 2) := by decide +kernel
theorem dL_does_154 : decode cL_does 154 = .ok (.if_icmp .ne 7, 3) := by decide +kernel
theorem dL_does_157 : decode cL_does 157 = .ok (.iconst 1, 1) := by decide +kernel
theorem dL_does_158 : decode cL_does 158 = .ok (.goto 4, 3) := by decide +kernel
theorem dL_does_161 : decode cL_does 161 = .ok (.iconst 0, 1) := by decide +kernel
theorem dL_does_162 : decode cL_does 162 = .ok (.ireturn, 1) := by decide +kernel
theorem dL_does_163 : decode cL_does 163 = .ok (.iconst 1, 1) := by decide +kernel
theorem dL_does_164 : decode cL_does 164 = .ok (.iload_n 1, 1) := by decide +kernel
theorem dL_does_165 : decode cL_does 165 = .ok (.bipush 7, 2) := by decide +kernel
theorem dL_does_167 : decode cL_does 167 = .ok (.ishr, 1) := by decide +kernel
theorem dL_does_168 : decode cL_does 168 = .ok (.iload_n 1, 1) := by decide +kernel
theorem dL_does_169 : decode cL_does 169 = .ok (.bipush 12, 2) := by decide +kernel
theorem dL_does_171 : decode cL_does 171 = .ok (.ishr, 1) := by decide +kernel
theorem dL_does_172 : decode cL_does 172 = .ok (.iconst 3, 1) := by decide +kernel
theorem dL_does_173 : decode cL_does 173 = .ok (.iand, 1) := by decide +kernel
theorem dL_does_174 : decode cL_does 174 = .ok (.ifCond .ne 8, 3) := by decide +kernel
theorem dL_does_177 : decode cL_does 177 = .ok (.bipush 20, 2) := by decide +kernel
theorem dL_does_179 : decode cL_does 179 = .ok (.goto 5, 3) := by decide +kernel
theorem dL_does_182 : decode cL_does 182 = .ok (.bipush 6, 2) := by decide +kernel
theorem dL_does_184 : decode cL_does 184 = .ok (.invokestatic 56, 3) := by decide +kernel
theorem dL_does_187 : decode cL_does 187 = .ok (.iadd, 1) := by decide +kernel
theorem dL_does_188 : decode cL_does 188 = .ok (.istore 6, 2) := by decide +kernel
theorem dL_does_190 : decode cL_does 190 = .ok (.aload_n 0, 1) := by decide +kernel
theorem dL_does_191 : decode cL_does 191 = .ok (.iload_n 2, 1) := by decide +kernel
theorem dL_does_192 : decode cL_does 192 = .ok (.iconst 0, 1) := by decide +kernel
theorem dL_does_193 : decode cL_does 193 = .ok (.invokevirtual 14, 3) := by decide +kernel
theorem dL_does_196 : decode cL_does 196 = .ok (.istore 7, 2) := by decide +kernel
theorem dL_does_198 : decode cL_does 198 = .ok (.aload_n 0, 1) := by decide +kernel
theorem dL_does_199 : decode cL_does 199 = .ok (.iload_n 2, 1) := by decide +kernel
theorem dL_does_200 : decode cL_does 200 = .ok (.iload 6, 2) := by decide +kernel
theorem dL_does_202 : decode cL_does 202 = .ok (.invokevirtual 38, 3) := by decide +kernel
theorem dL_does_205 : decode cL_does 205 = .ok (.iload_n 2, 1) := by decide +kernel
theorem dL_does_206 : decode cL_does 206 = .ok (.aload_n 0, 1) := by decide +kernel
theorem dL_does_207 : decode cL_does 207 = .ok (.bipush 10, 2) := by decide +kernel
theorem dL_does_209 : decode cL_does 209 = .ok (.invokevirtual 8, 3) := by decide +kernel
theorem dL_does_212 : decode cL_does 212 = .ok (.if_icmp .ge 8, 3) := by decide +kernel
theorem dL_does_215 : decode cL_does 215 = .ok (.iload 7, 2) := by decide +kernel
theorem dL_does_217 : decode cL_does 217 = .ok (.goto 4, 3) := by decide +kernel
theorem dL_does_220 : decode cL_does 220 = .ok (.iconst (-1), 1) := by decide +kernel
theorem dL_does_221 : decode cL_does 221 = .ok (.if_icmp .ne 28, 3) := by decide +kernel
theorem dL_does_224 : decode cL_does 224 = .ok (.iload_n 2, 1) := by decide +kernel
theorem dL_does_225 : decode cL_does 225 = .ok (.aload_n 0, 1) := by decide +kernel
theorem dL_does_226 : decode cL_does 226 = .ok (.bipush 10, 2) := by decide +kernel
theorem dL_does_228 : decode cL_does 228 = .ok (.invokevirtual 8, 3) := by decide +kernel
theorem dL_does_231 : decode cL_does 231 = .ok (.if_icmp .ge 14, 3) := by decide +kernel
theorem dL_does_234 : decode cL_does 234 = .ok (.aload_n 0, 1) := by decide +kernel
theorem dL_does_235 : decode cL_does 235 = .ok (.iload_n 2, 1) := by decide +kernel
theorem dL_does_236 : decode cL_does 236 = .ok (.iconst 0, 1) := by decide +kernel
theorem dL_does_237 : decode cL_does 237 = .ok (.invokevirtual 14, 3) := by decide +kernel
theorem dL_does_240 : decode cL_does 240 = .ok (.iload 6, 2) := by decide +kernel
theorem dL_does_242 : decode cL_does 242 = .ok (.if_icmp .ne 7, 3) := by decide +kernel
theorem dL_does_245 : decode cL_does 245 = .ok (.iconst 1, 1) := by decide +kernel
theorem dL_does_246 : decode cL_does 246 = .ok (.goto 4, 3) := by decide +kernel
theorem dL_does_249 : decode cL_does 249 = .ok (.iconst 0, 1) := by decide +kernel
theorem dL_does_250 : decode cL_does 250 = .ok (.ireturn, 1) := by decide +kernel
theorem dL_does_251 : decode cL_does 251 = .ok (.aload_n 0, 1) := by decide +kernel
theorem dL_does_252 : decode cL_does 252 = .ok (.iconst 1, 1) := by decide +kernel
theorem dL_does_253 : decode cL_does 253 = .ok (.invokevirtual 8, 3) := by decide +kernel
theorem dL_does_256 : decode cL_does 256 = .ok (.istore 8, 2) := by decide +kernel
theorem dL_does_258 : decode cL_does 258 = .ok (.aload_n 0, 1) := by decide +kernel
theorem dL_does_259 : decode cL_does 259 = .ok (.invokevirtual 44, 3) := by decide +kernel
theorem dL_does_262 : decode cL_does 262 = .ok (.istore 9, 2) := by decide +kernel
theorem dL_does_264 : decode cL_does 264 = .ok (.iload_n 3, 1) := by decide +kernel
theorem dL_does_265 : decode cL_does 265 = .ok (.bipush 99, 2) := by decide +kernel
theorem dL_does_267 : decode cL_does 267 = .ok (.if_icmp .lt 18, 3) := by decide +kernel
theorem dL_does_270 : decode cL_does 270 = .ok (.iload 9, 2) := by decide +kernel
theorem dL_does_272 : decode cL_does 272 = .ok (.bipush (-4), 2) := by decide +kernel
theorem dL_does_274 : decode cL_does 274 = .ok (.if_icmp .ne 7, 3) := by decide +kernel
theorem dL_does_277 : decode cL_does 277 = .ok (.iconst 1, 1) := by decide +kernel
theorem dL_does_278 : decode cL_does 278 = .ok (.goto 91, 3) := by decide +kernel
theorem dL_does_281 : decode cL_does 281 = .ok (.iconst 0, 1) := by decide +kernel
theorem dL_does_282 : decode cL_does 282 = .ok (.goto 87, 3) := by decide +kernel
theorem dL_does_285 : decode cL_does 285 = .ok (.iload 9, 2) := by decide +kernel
theorem dL_does_287 : decode cL_does 287 = .ok (.iload 8, 2) := by decide +kernel
theorem dL_does_289 : decode cL_does 289 = .ok (.if_icmp .ne 79, 3) := by decide +kernel
theorem dL_does_292 : decode cL_does 292 = .ok (.aload_n 0, 1) := by decide +kernel
theorem dL_does_293 : decode cL_does 293 = .ok (.aload_n 0, 1) := by decide +kernel
theorem dL_does_294 : decode cL_does 294 = .ok (.iconst 4, 1) := by decide +kernel
theorem dL_does_295 : decode cL_does 295 = .ok (.invokevirtual 8, 3) := by decide +kernel
theorem dL_does_298 : decode cL_does 298 = .ok (.iconst 1, 1) := by decide +kernel
theorem dL_does_299 : decode cL_does 299 = .ok (.isub, 1) := by decide +kernel
theorem dL_does_300 : decode cL_does 300 = .ok (.iconst 0, 1) := by decide +kernel
theorem dL_does_301 : decode cL_does 301 = .ok (.invokevirtual 28, 3) := by decide +kernel
theorem dL_does_304 : decode cL_does 304 = .ok (.iload 8, 2) := by decide +kernel
theorem dL_does_306 : decode cL_does 306 = .ok (.if_icmp .ne 62, 3) := by decide +kernel
theorem dL_does_309 : decode cL_does 309 = .ok (.aload_n 0, 1) := by decide +kernel
theorem dL_does_310 : decode cL_does 310 = .ok (.aload_n 0, 1) := by decide +kernel
theorem dL_does_311 : decode cL_does 311 = .ok (.iconst 4, 1) := by decide +kernel
theorem dL_does_312 : decode cL_does 312 = .ok (.invokevirtual 8, 3) := by decide +kernel
theorem dL_does_315 : decode cL_does 315 = .ok (.iconst 1, 1) := by decide +kernel
theorem dL_does_316 : decode cL_does 316 = .ok (.isub, 1) := by decide +kernel
theorem dL_does_317 : decode cL_does 317 = .ok (.iconst 1, 1) := by decide +kernel
theorem dL_does_318 : decode cL_does 318 = .ok (.invokevirtual 28, 3) := by decide +kernel
theorem dL_does_321 : decode cL_does 321 = .ok (.aload_n 0, 1) := by decide +kernel
theorem dL_does_322 : decode cL_does 322 = .ok (.iconst 0, 1) := by decide +kernel
theorem dL_does_323 : decode cL_does 323 = .ok (.invokevirtual 8, 3) := by decide +kernel
theorem dL_does_326 : decode cL_does 326 = .ok (.if_icmp .ne 42, 3) := by decide +kernel
theorem dL_does_329 : decode cL_does 329 = .ok (.aload_n 0, 1) := by decide +kernel
theorem dL_does_330 : decode cL_does 330 = .ok (.aload_n 0, 1) := by decide +kernel
theorem dL_does_331 : decode cL_does 331 = .ok (.iconst 4, 1) := by decide +kernel
theorem dL_does_332 : decode cL_does 332 = .ok (.invokevirtual 8, 3) := by decide +kernel
theorem dL_does_335 : decode cL_does 335 = .ok (.iconst 1, 1) := by decide +kernel
theorem dL_does_336 : decode cL_does 336 = .ok (.isub, 1) := by decide +kernel
theorem dL_does_337 : decode cL_does 337 = .ok (.iconst 2, 1) := by decide +kernel
theorem dL_does_338 : decode cL_does 338 = .ok (.invokevirtual 28, 3) := by decide +kernel
theorem dL_does_341 : decode cL_does 341 = .ok (.aload_n 0, 1) := by decide +kernel
theorem dL_does_342 : decode cL_does 342 = .ok (.iconst 2, 1) := by decide +kernel
theorem dL_does_343 : decode cL_does 343 = .ok (.invokevirtual 8, 3) := by decide +kernel
theorem dL_does_346 : decode cL_does 346 = .ok (.if_icmp .ne 22, 3) := by decide +kernel
theorem dL_does_349 : decode cL_does 349 = .ok (.aload_n 0, 1) := by decide +kernel
theorem dL_does_350 : decode cL_does 350 = .ok (.aload_n 0, 1) := by decide +kernel
theorem dL_does_351 : decode cL_does 351 = .ok (.iconst 4, 1) := by decide +kernel
theorem dL_does_352 : decode cL_does 352 = .ok (.invokevirtual 8, 3) := by decide +kernel
theorem dL_does_355 : decode cL_does 355 = .ok (.iconst 1, 1) := by decide +kernel
theorem dL_does_356 : decode cL_does 356 = .ok (.isub, 1) := by decide +kernel
theorem dL_does_357 : decode cL_does 357 = .ok (.iconst 3, 1) := by decide +kernel
theorem dL_does_358 : decode cL_does 358 = .ok (.invokevirtual 28, 3) := by decide +kernel
theorem dL_does_361 : decode cL_does 361 = .ok (.ifCond .ne 7, 3) := by decide +kernel
theorem dL_does_364 : decode cL_does 364 = .ok (.iconst 1, 1) := by decide +kernel
theorem dL_does_365 : decode cL_does 365 = .ok (.goto 4, 3) := by decide +kernel
theorem dL_does_368 : decode cL_does 368 = .ok (.iconst 0, 1) := by decide +kernel
theorem dL_does_369 : decode cL_does 369 = .ok (.ireturn, 1) := by decide +kernel
theorem dL_does_370 : decode cL_does 370 = .ok (.aload_n 0, 1) := by decide +kernel
theorem dL_does_371 : decode cL_does 371 = .ok (.bipush 9, 2) := by decide +kernel
theorem dL_does_373 : decode cL_does 373 = .ok (.invokevirtual 8, 3) := by decide +kernel
theorem dL_does_376 : decode cL_does 376 = .ok (.istore 10, 2) := by decide +kernel
theorem dL_does_378 : decode cL_does 378 = .ok (.aload_n 0, 1) := by decide +kernel
theorem dL_does_379 : decode cL_does 379 = .ok (.invokevirtual 61, 3) := by decide +kernel
theorem dL_does_382 : decode cL_does 382 = .ok (.iload 10, 2) := by decide +kernel
theorem dL_does_384 : decode cL_does 384 = .ok (.iconst 1, 1) := by decide +kernel
theorem dL_does_385 : decode cL_does 385 = .ok (.if_icmp .ne 8, 3) := by decide +kernel
theorem dL_does_388 : decode cL_does 388 = .ok (.bipush (-5), 2) := by decide +kernel
theorem dL_does_390 : decode cL_does 390 = .ok (.goto 15, 3) := by decide +kernel
theorem dL_does_393 : decode cL_does 393 = .ok (.iload_n 3, 1) := by decide +kernel
theorem dL_does_394 : decode cL_does 394 = .ok (.bipush 99, 2) := by decide +kernel
theorem dL_does_396 : decode cL_does 396 = .ok (.if_icmp .lt 8, 3) := by decide +kernel
theorem dL_does_399 : decode cL_does 399 = .ok (.bipush (-4), 2) := by decide +kernel
theorem dL_does_401 : decode cL_does 401 = .ok (.goto 4, 3) := by decide +kernel
theorem dL_does_404 : decode cL_does 404 = .ok (.iconst 1, 1) := by decide +kernel
theorem dL_does_405 : decode cL_does 405 = .ok (.if_icmp .ne 23, 3) := by decide +kernel
theorem dL_does_408 : decode cL_does 408 = .ok (.iload_n 3, 1) := by decide +kernel
theorem dL_does_409 : decode cL_does 409 = .ok (.bipush 99, 2) := by decide +kernel
theorem dL_does_411 : decode cL_does 411 = .ok (.if_icmp .ge 13, 3) := by decide +kernel
theorem dL_does_414 : decode cL_does 414 = .ok (.aload_n 0, 1) := by decide +kernel
theorem dL_does_415 : decode cL_does 415 = .ok (.bipush 9, 2) := by decide +kernel
theorem dL_does_417 : decode cL_does 417 = .ok (.invokevirtual 8, 3) := by decide +kernel
theorem dL_does_420 : decode cL_does 420 = .ok (.iconst 1, 1) := by decide +kernel
theorem dL_does_421 : decode cL_does 421 = .ok (.if_icmp .ne 7, 3) := by decide +kernel
theorem dL_does_424 : decode cL_does 424 = .ok (.iconst 1, 1) := by decide +kernel
theorem dL_does_425 : decode cL_does 425 = .ok (.goto 4, 3) := by decide +kernel
theorem dL_does_428 : decode cL_does 428 = .ok (.iconst 0, 1) := by decide +kernel
theorem dL_does_429 : decode cL_does 429 = .ok (.ireturn, 1) := by decide +kernel
theorem dL_does_430 : decode cL_does 430 = .ok (.iload_n 1, 1) := by decide +kernel
theorem dL_does_431 : decode cL_does 431 = .ok (.iconst 4, 1) := by decide +kernel
theorem dL_does_432 : decode cL_does 432 = .ok (.ishr, 1) := by decide +kernel
theorem dL_does_433 : decode cL_does 433 = .ok (.bipush 21, 2) := by decide +kernel
theorem dL_does_435 : decode cL_does 435 = .ok (.invokestatic 56, 3) := by decide +kernel
theorem dL_does_438 : decode cL_does 438 = .ok (.istore 11, 2) := by decide +kernel
theorem dL_does_440 : decode cL_does 440 = .ok (.aload_n 0, 1) := by decide +kernel
theorem dL_does_441 : decode cL_does 441 = .ok (.bipush 11, 2) := by decide +kernel
theorem dL_does_443 : decode cL_does 443 = .ok (.invokevirtual 8, 3) := by decide +kernel
theorem dL_does_446 : decode cL_does 446 = .ok (.istore 12, 2) := by decide +kernel
theorem dL_does_448 : decode cL_does 448 = .ok (.iload_n 1, 1) := by decide +kernel
theorem dL_does_449 : decode cL_does 449 = .ok (.bipush 9, 2) := by decide +kernel
theorem dL_does_451 : decode cL_does 451 = .ok (.ishr, 1) := by decide +kernel
theorem dL_does_452 : decode cL_does 452 = .ok (.iconst 1, 1) := by decide +kernel
theorem dL_does_453 : decode cL_does 453 = .ok (.iand, 1) := by decide +kernel
theorem dL_does_454 : decode cL_does 454 = .ok (.ifCond .eq 26, 3) := by decide +kernel
theorem dL_does_457 : decode cL_does 457 = .ok (.aload_n 0, 1) := by decide +kernel
theorem dL_does_458 : decode cL_does 458 = .ok (.iconst 1, 1) := by decide +kernel
theorem dL_does_459 : decode cL_does 459 = .ok (.iload 11, 2) := by decide +kernel
theorem dL_does_461 : decode cL_does 461 = .ok (.invokevirtual 35, 3) := by decide +kernel
theorem dL_does_464 : decode cL_does 464 = .ok (.iload 12, 2) := by decide +kernel
theorem dL_does_466 : decode cL_does 466 = .ok (.if_icmp .ne 18, 3) := by decide +kernel
theorem dL_does_469 : decode cL_does 469 = .ok (.aload_n 0, 1) := by decide +kernel
theorem dL_does_470 : decode cL_does 470 = .ok (.bipush 11, 2) := by decide +kernel
theorem dL_does_472 : decode cL_does 472 = .ok (.invokevirtual 8, 3) := by decide +kernel
theorem dL_does_475 : decode cL_does 475 = .ok (.iload 11, 2) := by decide +kernel
theorem dL_does_477 : decode cL_does 477 = .ok (.if_icmp .ne 7, 3) := by decide +kernel
theorem dL_does_480 : decode cL_does 480 = .ok (.iconst 1, 1) := by decide +kernel
theorem dL_does_481 : decode cL_does 481 = .ok (.goto 4, 3) := by decide +kernel
theorem dL_does_484 : decode cL_does 484 = .ok (.iconst 0, 1) := by decide +kernel
theorem dL_does_485 : decode cL_does 485 = .ok (.ireturn, 1) := by decide +kernel
theorem dL_does_486 : decode cL_does 486 = .ok (.aload_n 0, 1) := by decide +kernel
theorem dL_does_487 : decode cL_does 487 = .ok (.bipush 10, 2) := by decide +kernel
theorem dL_does_489 : decode cL_does 489 = .ok (.invokevirtual 8, 3) := by decide +kernel
theorem dL_does_492 : decode cL_does 492 = .ok (.istore 13, 2) := by decide +kernel
theorem dL_does_494 : decode cL_does 494 = .ok (.aload_n 0, 1) := by decide +kernel
theorem dL_does_495 : decode cL_does 495 = .ok (.iconst 0, 1) := by decide +kernel
theorem dL_does_496 : decode cL_does 496 = .ok (.invokevirtual 8, 3) := by decide +kernel
theorem dL_does_499 : decode cL_does 499 = .ok (.istore 14, 2) := by decide +kernel
theorem dL_does_501 : decode cL_does 501 = .ok (.iload_n 1, 1) := by decide +kernel
theorem dL_does_502 : decode cL_does 502 = .ok (.iconst 4, 1) := by decide +kernel
theorem dL_does_503 : decode cL_does 503 = .ok (.ishr, 1) := by decide +kernel
theorem dL_does_504 : decode cL_does 504 = .ok (.bipush 7, 2) := by decide +kernel
theorem dL_does_506 : decode cL_does 506 = .ok (.iand, 1) := by decide +kernel
theorem dL_does_507 : decode cL_does 507 = .ok (.ifCond .ne 84, 3) := by decide +kernel
theorem dL_does_510 : decode cL_does 510 = .ok (.aload_n 0, 1) := by decide +kernel
theorem dL_does_511 : decode cL_does 511 = .ok (.iconst 0, 1) := by decide +kernel
theorem dL_does_512 : decode cL_does 512 = .ok (.iconst 1, 1) := by decide +kernel
theorem dL_does_513 : decode cL_does 513 = .ok (.iload_n 1, 1) := by decide +kernel
theorem dL_does_514 : decode cL_does 514 = .ok (.bipush 7, 2) := by decide +kernel
theorem dL_does_516 : decode cL_does 516 = .ok (.ishr, 1) := by decide +kernel
theorem dL_does_517 : decode cL_does 517 = .ok (.iconst 5, 1) := by decide +kernel
theorem dL_does_518 : decode cL_does 518 = .ok (.invokestatic 56, 3) := by decide +kernel
theorem dL_does_521 : decode cL_does 521 = .ok (.iadd, 1) := by decide +kernel
theorem dL_does_522 : decode cL_does 522 = .ok (.invokevirtual 35, 3) := by decide +kernel
theorem dL_does_525 : decode cL_does 525 = .ok (.iload 13, 2) := by decide +kernel
theorem dL_does_527 : decode cL_does 527 = .ok (.if_icmp .ne 68, 3) := by decide +kernel
theorem dL_does_530 : decode cL_does 530 = .ok (.aload_n 0, 1) := by decide +kernel
theorem dL_does_531 : decode cL_does 531 = .ok (.iconst 1, 1) := by decide +kernel
theorem dL_does_532 : decode cL_does 532 = .ok (.invokevirtual 8, 3) := by decide +kernel
theorem dL_does_535 : decode cL_does 535 = .ok (.aload_n 0, 1) := by decide +kernel
theorem dL_does_536 : decode cL_does 536 = .ok (.iconst 2, 1) := by decide +kernel
theorem dL_does_537 : decode cL_does 537 = .ok (.invokevirtual 8, 3) := by decide +kernel
theorem dL_does_540 : decode cL_does 540 = .ok (.iadd, 1) := by decide +kernel
theorem dL_does_541 : decode cL_does 541 = .ok (.aload_n 0, 1) := by decide +kernel
theorem dL_does_542 : decode cL_does 542 = .ok (.iconst 3, 1) := by decide +kernel
theorem dL_does_543 : decode cL_does 543 = .ok (.invokevirtual 8, 3) := by decide +kernel
theorem dL_does_546 : decode cL_does 546 = .ok (.iadd, 1) := by decide +kernel
theorem dL_does_547 : decode cL_does 547 = .ok (.aload_n 0, 1) := by decide +kernel
theorem dL_does_548 : decode cL_does 548 = .ok (.iconst 4, 1) := by decide +kernel
theorem dL_does_549 : decode cL_does 549 = .ok (.invokevirtual 8, 3) := by decide +kernel
theorem dL_does_552 : decode cL_does 552 = .ok (.iadd, 1) := by decide +kernel
theorem dL_does_553 : decode cL_does 553 = .ok (.aload_n 0, 1) := by decide +kernel
theorem dL_does_554 : decode cL_does 554 = .ok (.bipush 6, 2) := by decide +kernel
theorem dL_does_556 : decode cL_does 556 = .ok (.invokevirtual 8, 3) := by decide +kernel
theorem dL_does_559 : decode cL_does 559 = .ok (.iadd, 1) := by decide +kernel
theorem dL_does_560 : decode cL_does 560 = .ok (.aload_n 0, 1) := by decide +kernel
theorem dL_does_561 : decode cL_does 561 = .ok (.bipush 9, 2) := by decide +kernel
theorem dL_does_563 : decode cL_does 563 = .ok (.invokevirtual 8, 3) := by decide +kernel
theorem dL_does_566 : decode cL_does 566 = .ok (.iadd, 1) := by decide +kernel
theorem dL_does_567 : decode cL_does 567 = .ok (.ifCond .ne 28, 3) := by decide +kernel
theorem dL_does_570 : decode cL_does 570 = .ok (.aload_n 0, 1) := by decide +kernel
theorem dL_does_571 : decode cL_does 571 = .ok (.iconst 0, 1) := by decide +kernel
theorem dL_does_572 : decode cL_does 572 = .ok (.invokevirtual 8, 3) := by decide +kernel
theorem dL_does_575 : decode cL_does 575 = .ok (.iload 14, 2) := by decide +kernel
theorem dL_does_577 : decode cL_does 577 = .ok (.if_icmp .ne 18, 3) := by decide +kernel
theorem dL_does_580 : decode cL_does 580 = .ok (.aload_n 0, 1) := by decide +kernel
theorem dL_does_581 : decode cL_does 581 = .ok (.bipush 8, 2) := by decide +kernel
theorem dL_does_583 : decode cL_does 583 = .ok (.invokevirtual 8, 3) := by decide +kernel
theorem dL_does_586 : decode cL_does 586 = .ok (.iload 14, 2) := by decide +kernel
theorem dL_does_588 : decode cL_does 588 = .ok (.if_icmp .ne 7, 3) := by decide +kernel
theorem dL_does_591 : decode cL_does 591 = .ok (.iconst 1, 1) := by decide +kernel
theorem dL_does_592 : decode cL_does 592 = .ok (.goto 4, 3) := by decide +kernel
theorem dL_does_595 : decode cL_does 595 = .ok (.iconst 0, 1) := by decide +kernel
theorem dL_does_596 : decode cL_does 596 = .ok (.ireturn, 1) := by decide +kernel
theorem dL_does_597 : decode cL_does 597 = .ok (.aload_n 0, 1) := by decide +kernel
theorem dL_does_598 : decode cL_does 598 = .ok (.iconst 1, 1) := by decide +kernel
theorem dL_does_599 : decode cL_does 599 = .ok (.iload_n 1, 1) := by decide +kernel
theorem dL_does_600 : decode cL_does 600 = .ok (.iconst 4, 1) := by decide +kernel
theorem dL_does_601 : decode cL_does 601 = .ok (.ishr, 1) := by decide +kernel
theorem dL_does_602 : decode cL_does 602 = .ok (.iload_n 1, 1) := by decide +kernel
theorem dL_does_603 : decode cL_does 603 = .ok (.bipush 9, 2) := by decide +kernel
theorem dL_does_605 : decode cL_does 605 = .ok (.ishr, 1) := by decide +kernel
theorem dL_does_606 : decode cL_does 606 = .ok (.iconst 3, 1) := by decide +kernel
theorem dL_does_607 : decode cL_does 607 = .ok (.iand, 1) := by decide +kernel
theorem dL_does_608 : decode cL_does 608 = .ok (.ifCond .ne 8, 3) := by decide +kernel
theorem dL_does_611 : decode cL_does 611 = .ok (.bipush 70, 2) := by decide +kernel
theorem dL_does_613 : decode cL_does 613 = .ok (.goto 4, 3) := by decide +kernel
theorem dL_does_616 : decode cL_does 616 = .ok (.iconst 5, 1) := by decide +kernel
theorem dL_does_617 : decode cL_does 617 = .ok (.invokestatic 56, 3) := by decide +kernel
theorem dL_does_620 : decode cL_does 620 = .ok (.iadd, 1) := by decide +kernel
theorem dL_does_621 : decode cL_does 621 = .ok (.invokestatic 64, 3) := by decide +kernel
theorem dL_does_624 : decode cL_does 624 = .ok (.ireturn, 1) := by decide +kernel
theorem dL_law_0 : decode cL_law 0 = .ok (.new 9, 3) := by decide +kernel
theorem dL_law_3 : decode cL_law 3 = .ok (.dup, 1) := by decide +kernel
theorem dL_law_4 : decode cL_law 4 = .ok (.invokespecial 34, 3) := by decide +kernel
theorem dL_law_7 : decode cL_law 7 = .ok (.astore_n 1, 1) := by decide +kernel
theorem dL_law_8 : decode cL_law 8 = .ok (.aload_n 1, 1) := by decide +kernel
theorem dL_law_9 : decode cL_law 9 = .ok (.bipush 10, 2) := by decide +kernel
theorem dL_law_11 : decode cL_law 11 = .ok (.invokevirtual 8, 3) := by decide +kernel
theorem dL_law_14 : decode cL_law 14 = .ok (.iconst 4, 1) := by decide +kernel
theorem dL_law_15 : decode cL_law 15 = .ok (.if_icmp .ne 39, 3) := by decide +kernel
theorem dL_law_18 : decode cL_law 18 = .ok (.aload_n 1, 1) := by decide +kernel
theorem dL_law_19 : decode cL_law 19 = .ok (.bipush 11, 2) := by decide +kernel
theorem dL_law_21 : decode cL_law 21 = .ok (.invokevirtual 8, 3) := by decide +kernel
theorem dL_law_24 : decode cL_law 24 = .ok (.iconst 2, 1) := by decide +kernel
theorem dL_law_25 : decode cL_law 25 = .ok (.if_icmp .ne 29, 3) := by decide +kernel
theorem dL_law_28 : decode cL_law 28 = .ok (.aload_n 1, 1) := by decide +kernel
theorem dL_law_29 : decode cL_law 29 = .ok (.invokevirtual 68, 3) := by decide +kernel
theorem dL_law_32 : decode cL_law 32 = .ok (.bipush (-5), 2) := by decide +kernel
theorem dL_law_34 : decode cL_law 34 = .ok (.if_icmp .ne 20, 3) := by decide +kernel
theorem dL_law_37 : decode cL_law 37 = .ok (.aload_n 1, 1) := by decide +kernel
theorem dL_law_38 : decode cL_law 38 = .ok (.iconst 1, 1) := by decide +kernel
theorem dL_law_39 : decode cL_law 39 = .ok (.invokevirtual 71, 3) := by decide +kernel
theorem dL_law_42 : decode cL_law 42 = .ok (.bipush (-5), 2) := by decide +kernel
theorem dL_law_44 : decode cL_law 44 = .ok (.if_icmp .ne 10, 3) := by decide +kernel
theorem dL_law_47 : decode cL_law 47 = .ok (.aload_n 1, 1) := by decide +kernel
theorem dL_law_48 : decode cL_law 48 = .ok (.invokestatic 74, 3) := by decide +kernel
theorem dL_law_51 : decode cL_law 51 = .ok (.ifCond .ne 5, 3) := by decide +kernel
theorem dL_law_54 : decode cL_law 54 = .ok (.iconst 0, 1) := by decide +kernel
theorem dL_law_55 : decode cL_law 55 = .ok (.ireturn, 1) := by decide +kernel
theorem dL_law_56 : decode cL_law 56 = .ok (.iconst 0, 1) := by decide +kernel
theorem dL_law_57 : decode cL_law 57 = .ok (.istore_n 2, 1) := by decide +kernel
theorem dL_law_58 : decode cL_law 58 = .ok (.iload_n 2, 1) := by decide +kernel
theorem dL_law_59 : decode cL_law 59 = .ok (.bipush 110, 2) := by decide +kernel
theorem dL_law_61 : decode cL_law 61 = .ok (.if_icmp .ge 103, 3) := by decide +kernel
theorem dL_law_64 : decode cL_law 64 = .ok (.aload_n 0, 1) := by decide +kernel
theorem dL_law_65 : decode cL_law 65 = .ok (.iload_n 2, 1) := by decide +kernel
theorem dL_law_66 : decode cL_law 66 = .ok (.invokestatic 78, 3) := by decide +kernel
theorem dL_law_69 : decode cL_law 69 = .ok (.istore_n 3, 1) := by decide +kernel
theorem dL_law_70 : decode cL_law 70 = .ok (.aload_n 1, 1) := by decide +kernel
theorem dL_law_71 : decode cL_law 71 = .ok (.iload_n 3, 1) := by decide +kernel
theorem dL_law_72 : decode cL_law 72 = .ok (.invokestatic 82, 3) := by decide +kernel
theorem dL_law_75 : decode cL_law 75 = .ok (.ifCond .eq 24, 3) := by decide +kernel
theorem dL_law_78 : decode cL_law 78 = .ok (.aload_n 1, 1) := by decide +kernel
theorem dL_law_79 : decode cL_law 79 = .ok (.invokestatic 74, 3) := by decide +kernel
theorem dL_law_82 : decode cL_law 82 = .ok (.ifCond .eq 17, 3) := by decide +kernel
theorem dL_law_85 : decode cL_law 85 = .ok (.iload_n 2, 1) := by decide +kernel
theorem dL_law_86 : decode cL_law 86 = .ok (.iconst 5, 1) := by decide +kernel
theorem dL_law_87 : decode cL_law 87 = .ok (.irem, 1) := by decide +kernel
theorem dL_law_88 : decode cL_law 88 = .ok (.iconst 3, 1) := by decide +kernel
theorem dL_law_89 : decode cL_law 89 = .ok (.if_icmp .ne 12, 3) := by decide +kernel
theorem dL_law_92 : decode cL_law 92 = .ok (.aload_n 1, 1) := by decide +kernel
theorem dL_law_93 : decode cL_law 93 = .ok (.invokestatic 85, 3) := by decide +kernel
theorem dL_law_96 : decode cL_law 96 = .ok (.ifCond .ne 5, 3) := by decide +kernel
theorem dL_law_99 : decode cL_law 99 = .ok (.iconst 0, 1) := by decide +kernel
theorem dL_law_100 : decode cL_law 100 = .ok (.ireturn, 1) := by decide +kernel
theorem dL_law_101 : decode cL_law 101 = .ok (.iload_n 2, 1) := by decide +kernel
theorem dL_law_102 : decode cL_law 102 = .ok (.bipush 11, 2) := by decide +kernel
theorem dL_law_104 : decode cL_law 104 = .ok (.irem, 1) := by decide +kernel
theorem dL_law_105 : decode cL_law 105 = .ok (.bipush 7, 2) := by decide +kernel
theorem dL_law_107 : decode cL_law 107 = .ok (.if_icmp .ne 20, 3) := by decide +kernel
theorem dL_law_110 : decode cL_law 110 = .ok (.aload_n 1, 1) := by decide +kernel
theorem dL_law_111 : decode cL_law 111 = .ok (.iconst 1, 1) := by decide +kernel
theorem dL_law_112 : decode cL_law 112 = .ok (.iload_n 3, 1) := by decide +kernel
theorem dL_law_113 : decode cL_law 113 = .ok (.iconst 3, 1) := by decide +kernel
theorem dL_law_114 : decode cL_law 114 = .ok (.ishr, 1) := by decide +kernel
theorem dL_law_115 : decode cL_law 115 = .ok (.bipush 50, 2) := by decide +kernel
theorem dL_law_117 : decode cL_law 117 = .ok (.invokestatic 56, 3) := by decide +kernel
theorem dL_law_120 : decode cL_law 120 = .ok (.iadd, 1) := by decide +kernel
theorem dL_law_121 : decode cL_law 121 = .ok (.invokestatic 88, 3) := by decide +kernel
theorem dL_law_124 : decode cL_law 124 = .ok (.ifCond .eq 32, 3) := by decide +kernel
theorem dL_law_127 : decode cL_law 127 = .ok (.iload_n 2, 1) := by decide +kernel
theorem dL_law_128 : decode cL_law 128 = .ok (.bipush 50, 2) := by decide +kernel
theorem dL_law_130 : decode cL_law 130 = .ok (.irem, 1) := by decide +kernel
theorem dL_law_131 : decode cL_law 131 = .ok (.bipush 31, 2) := by decide +kernel
theorem dL_law_133 : decode cL_law 133 = .ok (.if_icmp .ne 10, 3) := by decide +kernel
theorem dL_law_136 : decode cL_law 136 = .ok (.aload_n 1, 1) := by decide +kernel
theorem dL_law_137 : decode cL_law 137 = .ok (.invokestatic 91, 3) := by decide +kernel
theorem dL_law_140 : decode cL_law 140 = .ok (.ifCond .eq 16, 3) := by decide +kernel
theorem dL_law_143 : decode cL_law 143 = .ok (.iload_n 2, 1) := by decide +kernel
theorem dL_law_144 : decode cL_law 144 = .ok (.bipush 90, 2) := by decide +kernel
theorem dL_law_146 : decode cL_law 146 = .ok (.if_icmp .ne 12, 3) := by decide +kernel
theorem dL_law_149 : decode cL_law 149 = .ok (.aload_n 1, 1) := by decide +kernel
theorem dL_law_150 : decode cL_law 150 = .ok (.invokestatic 94, 3) := by decide +kernel
theorem dL_law_153 : decode cL_law 153 = .ok (.ifCond .ne 5, 3) := by decide +kernel
theorem dL_law_156 : decode cL_law 156 = .ok (.iconst 0, 1) := by decide +kernel
theorem dL_law_157 : decode cL_law 157 = .ok (.ireturn, 1) := by decide +kernel
theorem dL_law_158 : decode cL_law 158 = .ok (.iinc 2 1, 3) := by decide +kernel
theorem dL_law_161 : decode cL_law 161 = .ok (.goto (-103), 3) := by decide +kernel
theorem dL_law_164 : decode cL_law 164 = .ok (.aload_n 1, 1) := by decide +kernel
theorem dL_law_165 : decode cL_law 165 = .ok (.iconst 0, 1) := by decide +kernel
theorem dL_law_166 : decode cL_law 166 = .ok (.bipush 6, 2) := by decide +kernel
theorem dL_law_168 : decode cL_law 168 = .ok (.invokevirtual 35, 3) := by decide +kernel
theorem dL_law_171 : decode cL_law 171 = .ok (.bipush (-2), 2) := by decide +kernel
theorem dL_law_173 : decode cL_law 173 = .ok (.if_icmp .ne 72, 3) := by decide +kernel
theorem dL_law_176 : decode cL_law 176 = .ok (.aload_n 1, 1) := by decide +kernel
theorem dL_law_177 : decode cL_law 177 = .ok (.iconst 2, 1) := by decide +kernel
theorem dL_law_178 : decode cL_law 178 = .ok (.iconst 1, 1) := by decide +kernel
theorem dL_law_179 : decode cL_law 179 = .ok (.invokevirtual 35, 3) := by decide +kernel
theorem dL_law_182 : decode cL_law 182 = .ok (.bipush (-2), 2) := by decide +kernel
theorem dL_law_184 : decode cL_law 184 = .ok (.if_icmp .ne 61, 3) := by decide +kernel
theorem dL_law_187 : decode cL_law 187 = .ok (.aload_n 1, 1) := by decide +kernel
theorem dL_law_188 : decode cL_law 188 = .ok (.iconst 0, 1) := by decide +kernel
theorem dL_law_189 : decode cL_law 189 = .ok (.bipush 21, 2) := by decide +kernel
theorem dL_law_191 : decode cL_law 191 = .ok (.invokevirtual 38, 3) := by decide +kernel
theorem dL_law_194 : decode cL_law 194 = .ok (.bipush (-2), 2) := by decide +kernel
theorem dL_law_196 : decode cL_law 196 = .ok (.if_icmp .ne 49, 3) := by decide +kernel
theorem dL_law_199 : decode cL_law 199 = .ok (.aload_n 1, 1) := by decide +kernel
theorem dL_law_200 : decode cL_law 200 = .ok (.iconst 0, 1) := by decide +kernel
theorem dL_law_201 : decode cL_law 201 = .ok (.invokevirtual 31, 3) := by decide +kernel
theorem dL_law_204 : decode cL_law 204 = .ok (.bipush (-2), 2) := by decide +kernel
theorem dL_law_206 : decode cL_law 206 = .ok (.if_icmp .ne 39, 3) := by decide +kernel
theorem dL_law_209 : decode cL_law 209 = .ok (.aload_n 1, 1) := by decide +kernel
theorem dL_law_210 : decode cL_law 210 = .ok (.bipush 51, 2) := by decide +kernel
theorem dL_law_212 : decode cL_law 212 = .ok (.invokevirtual 47, 3) := by decide +kernel
theorem dL_law_215 : decode cL_law 215 = .ok (.bipush (-2), 2) := by decide +kernel
theorem dL_law_217 : decode cL_law 217 = .ok (.if_icmp .ne 28, 3) := by decide +kernel
theorem dL_law_220 : decode cL_law 220 = .ok (.aload_n 1, 1) := by decide +kernel
theorem dL_law_221 : decode cL_law 221 = .ok (.iconst 2, 1) := by decide +kernel
theorem dL_law_222 : decode cL_law 222 = .ok (.invokevirtual 53, 3) := by decide +kernel
theorem dL_law_225 : decode cL_law 225 = .ok (.bipush (-2), 2) := by decide +kernel
theorem dL_law_227 : decode cL_law 227 = .ok (.if_icmp .ne 18, 3) := by decide +kernel
theorem dL_law_230 : decode cL_law 230 = .ok (.aload_n 1, 1) := by decide +kernel
theorem dL_law_231 : decode cL_law 231 = .ok (.bipush 14, 2) := by decide +kernel
theorem dL_law_233 : decode cL_law 233 = .ok (.invokevirtual 8, 3) := by decide +kernel
theorem dL_law_236 : decode cL_law 236 = .ok (.bipush (-2), 2) := by decide +kernel
theorem dL_law_238 : decode cL_law 238 = .ok (.if_icmp .ne 7, 3) := by decide +kernel
theorem dL_law_241 : decode cL_law 241 = .ok (.iconst 1, 1) := by decide +kernel
theorem dL_law_242 : decode cL_law 242 = .ok (.goto 4, 3) := by decide +kernel
theorem dL_law_245 : decode cL_law 245 = .ok (.iconst 0, 1) := by decide +kernel
theorem dL_law_246 : decode cL_law 246 = .ok (.ireturn, 1) := by decide +kernel
