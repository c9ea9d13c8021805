theorem dL_lands_175 : decode cL_lands 175 = .ok (.iconst 2, 1) := by decide +kernel
theorem dL_lands_176 : decode cL_lands 176 = .ok (.invokestatic 182, 3) := by decide +kernel
theorem dL_lands_179 : decode cL_lands 179 = .ok (.ifCond .eq 72, 3) := by decide +kernel
theorem dL_lands_182 : decode cL_lands 182 = .ok (.aload_n 0, 1) := by decide +kernel
theorem dL_lands_183 : decode cL_lands 183 = .ok (.iconst 2, 1) := by decide +kernel
theorem dL_lands_184 : decode cL_lands 184 = .ok (.bipush 12, 2) := by decide +kernel
theorem dL_lands_186 : decode cL_lands 186 = .ok (.iconst 0, 1) := by decide +kernel
theorem dL_lands_187 : decode cL_lands 187 = .ok (.iconst 4, 1) := by decide +kernel
theorem dL_lands_188 : decode cL_lands 188 = .ok (.iconst 0, 1) := by decide +kernel
theorem dL_lands_189 : decode cL_lands 189 = .ok (.invokestatic 182, 3) := by decide +kernel
theorem dL_lands_192 : decode cL_lands 192 = .ok (.ifCond .eq 59, 3) := by decide +kernel
theorem dL_lands_195 : decode cL_lands 195 = .ok (.aload_n 0, 1) := by decide +kernel
theorem dL_lands_196 : decode cL_lands 196 = .ok (.iconst 3, 1) := by decide +kernel
theorem dL_lands_197 : decode cL_lands 197 = .ok (.bipush 8, 2) := by decide +kernel
theorem dL_lands_199 : decode cL_lands 199 = .ok (.iconst 4, 1) := by decide +kernel
theorem dL_lands_200 : decode cL_lands 200 = .ok (.iconst 4, 1) := by decide +kernel
theorem dL_lands_201 : decode cL_lands 201 = .ok (.iconst 0, 1) := by decide +kernel
theorem dL_lands_202 : decode cL_lands 202 = .ok (.invokestatic 182, 3) := by decide +kernel
theorem dL_lands_205 : decode cL_lands 205 = .ok (.ifCond .eq 46, 3) := by decide +kernel
theorem dL_lands_208 : decode cL_lands 208 = .ok (.aload_n 0, 1) := by decide +kernel
theorem dL_lands_209 : decode cL_lands 209 = .ok (.iconst 4, 1) := by decide +kernel
theorem dL_lands_210 : decode cL_lands 210 = .ok (.bipush 12, 2) := by decide +kernel
theorem dL_lands_212 : decode cL_lands 212 = .ok (.iconst 4, 1) := by decide +kernel
theorem dL_lands_213 : decode cL_lands 213 = .ok (.iconst 4, 1) := by decide +kernel
theorem dL_lands_214 : decode cL_lands 214 = .ok (.iconst 0, 1) := by decide +kernel
theorem dL_lands_215 : decode cL_lands 215 = .ok (.invokestatic 182, 3) := by decide +kernel
theorem dL_lands_218 : decode cL_lands 218 = .ok (.ifCond .eq 33, 3) := by decide +kernel
theorem dL_lands_221 : decode cL_lands 221 = .ok (.aload_n 0, 1) := by decide +kernel
theorem dL_lands_222 : decode cL_lands 222 = .ok (.iconst 5, 1) := by decide +kernel
theorem dL_lands_223 : decode cL_lands 223 = .ok (.iconst 0, 1) := by decide +kernel
theorem dL_lands_224 : decode cL_lands 224 = .ok (.bipush 8, 2) := by decide +kernel
theorem dL_lands_226 : decode cL_lands 226 = .ok (.bipush 8, 2) := by decide +kernel
theorem dL_lands_228 : decode cL_lands 228 = .ok (.iconst 0, 1) := by decide +kernel
theorem dL_lands_229 : decode cL_lands 229 = .ok (.invokestatic 182, 3) := by decide +kernel
theorem dL_lands_232 : decode cL_lands 232 = .ok (.ifCond .eq 19, 3) := by decide +kernel
theorem dL_lands_235 : decode cL_lands 235 = .ok (.aload_n 0, 1) := by decide +kernel
theorem dL_lands_236 : decode cL_lands 236 = .ok (.bipush 6, 2) := by decide +kernel
theorem dL_lands_238 : decode cL_lands 238 = .ok (.bipush 8, 2) := by decide +kernel
theorem dL_lands_240 : decode cL_lands 240 = .ok (.bipush 8, 2) := by decide +kernel
theorem dL_lands_242 : decode cL_lands 242 = .ok (.bipush 8, 2) := by decide +kernel
theorem dL_lands_244 : decode cL_lands 244 = .ok (.iconst 0, 1) := by decide +kernel
theorem dL_lands_245 : decode cL_lands 245 = .ok (.invokestatic 182, 3) := by decide +kernel
theorem dL_lands_248 : decode cL_lands 248 = .ok (.ifCond .ne 5, 3) := by decide +kernel
theorem dL_lands_251 : decode cL_lands 251 = .ok (.iconst 0, 1) := by decide +kernel
theorem dL_lands_252 : decode cL_lands 252 = .ok (.ireturn, 1) := by decide +kernel
theorem dL_lands_253 : decode cL_lands 253 = .ok (.aload_n 0, 1) := by decide +kernel
theorem dL_lands_254 : decode cL_lands 254 = .ok (.iconst 0, 1) := by decide +kernel
theorem dL_lands_255 : decode cL_lands 255 = .ok (.invokevirtual 88, 3) := by decide +kernel
theorem dL_lands_258 : decode cL_lands 258 = .ok (.iconst 5, 1) := by decide +kernel
theorem dL_lands_259 : decode cL_lands 259 = .ok (.if_icmp .ne 353, 3) := by decide +kernel
theorem dL_lands_262 : decode cL_lands 262 = .ok (.aload_n 0, 1) := by decide +kernel
theorem dL_lands_263 : decode cL_lands 263 = .ok (.iconst 0, 1) := by decide +kernel
theorem dL_lands_264 : decode cL_lands 264 = .ok (.invokevirtual 91, 3) := by decide +kernel
theorem dL_lands_267 : decode cL_lands 267 = .ok (.sipush 176, 3) := by decide +kernel
theorem dL_lands_270 : decode cL_lands 270 = .ok (.if_icmp .ne 342, 3) := by decide +kernel
theorem dL_lands_273 : decode cL_lands 273 = .ok (.aload_n 0, 1) := by decide +kernel
theorem dL_lands_274 : decode cL_lands 274 = .ok (.iconst 0, 1) := by decide +kernel
theorem dL_lands_275 : decode cL_lands 275 = .ok (.invokevirtual 94, 3) := by decide +kernel
theorem dL_lands_278 : decode cL_lands 278 = .ok (.sipush 176, 3) := by decide +kernel
theorem dL_lands_281 : decode cL_lands 281 = .ok (.if_icmp .ne 331, 3) := by decide +kernel
theorem dL_lands_284 : decode cL_lands 284 = .ok (.aload_n 0, 1) := by decide +kernel
theorem dL_lands_285 : decode cL_lands 285 = .ok (.iconst 1, 1) := by decide +kernel
theorem dL_lands_286 : decode cL_lands 286 = .ok (.iconst 2, 1) := by decide +kernel
theorem dL_lands_287 : decode cL_lands 287 = .ok (.invokevirtual 103, 3) := by decide +kernel
theorem dL_lands_290 : decode cL_lands 290 = .ok (.iconst 4, 1) := by decide +kernel
theorem dL_lands_291 : decode cL_lands 291 = .ok (.if_icmp .ne 321, 3) := by decide +kernel
theorem dL_lands_294 : decode cL_lands 294 = .ok (.aload_n 0, 1) := by decide +kernel
theorem dL_lands_295 : decode cL_lands 295 = .ok (.iconst 0, 1) := by decide +kernel
theorem dL_lands_296 : decode cL_lands 296 = .ok (.iconst 1, 1) := by decide +kernel
theorem dL_lands_297 : decode cL_lands 297 = .ok (.invokevirtual 103, 3) := by decide +kernel
theorem dL_lands_300 : decode cL_lands 300 = .ok (.bipush 12, 2) := by decide +kernel
theorem dL_lands_302 : decode cL_lands 302 = .ok (.if_icmp .ne 310, 3) := by decide +kernel
theorem dL_lands_305 : decode cL_lands 305 = .ok (.aload_n 0, 1) := by decide +kernel
theorem dL_lands_306 : decode cL_lands 306 = .ok (.iconst 2, 1) := by decide +kernel
theorem dL_lands_307 : decode cL_lands 307 = .ok (.iconst 0, 1) := by decide +kernel
theorem dL_lands_308 : decode cL_lands 308 = .ok (.invokevirtual 103, 3) := by decide +kernel
theorem dL_lands_311 : decode cL_lands 311 = .ok (.bipush 8, 2) := by decide +kernel
theorem dL_lands_313 : decode cL_lands 313 = .ok (.if_icmp .ne 299, 3) := by decide +kernel
theorem dL_lands_316 : decode cL_lands 316 = .ok (.aload_n 0, 1) := by decide +kernel
theorem dL_lands_317 : decode cL_lands 317 = .ok (.iconst 1, 1) := by decide +kernel
theorem dL_lands_318 : decode cL_lands 318 = .ok (.iconst 1, 1) := by decide +kernel
theorem dL_lands_319 : decode cL_lands 319 = .ok (.invokevirtual 103, 3) := by decide +kernel
theorem dL_lands_322 : decode cL_lands 322 = .ok (.ifCond .ne 290, 3) := by decide +kernel
theorem dL_lands_325 : decode cL_lands 325 = .ok (.aload_n 0, 1) := by decide +kernel
theorem dL_lands_326 : decode cL_lands 326 = .ok (.iconst 0, 1) := by decide +kernel
theorem dL_lands_327 : decode cL_lands 327 = .ok (.bipush 20, 2) := by decide +kernel
theorem dL_lands_329 : decode cL_lands 329 = .ok (.iconst 1, 1) := by decide +kernel
theorem dL_lands_330 : decode cL_lands 330 = .ok (.invokestatic 186, 3) := by decide +kernel
theorem dL_lands_333 : decode cL_lands 333 = .ok (.ifCond .eq 279, 3) := by decide +kernel
theorem dL_lands_336 : decode cL_lands 336 = .ok (.aload_n 0, 1) := by decide +kernel
theorem dL_lands_337 : decode cL_lands 337 = .ok (.iconst 1, 1) := by decide +kernel
theorem dL_lands_338 : decode cL_lands 338 = .ok (.bipush 16, 2) := by decide +kernel
theorem dL_lands_340 : decode cL_lands 340 = .ok (.iconst 0, 1) := by decide +kernel
theorem dL_lands_341 : decode cL_lands 341 = .ok (.invokestatic 186, 3) := by decide +kernel
theorem dL_lands_344 : decode cL_lands 344 = .ok (.ifCond .eq 268, 3) := by decide +kernel
theorem dL_lands_347 : decode cL_lands 347 = .ok (.aload_n 0, 1) := by decide +kernel
theorem dL_lands_348 : decode cL_lands 348 = .ok (.iconst 2, 1) := by decide +kernel
theorem dL_lands_349 : decode cL_lands 349 = .ok (.bipush 12, 2) := by decide +kernel
theorem dL_lands_351 : decode cL_lands 351 = .ok (.iconst 0, 1) := by decide +kernel
theorem dL_lands_352 : decode cL_lands 352 = .ok (.invokestatic 186, 3) := by decide +kernel
theorem dL_lands_355 : decode cL_lands 355 = .ok (.ifCond .eq 257, 3) := by decide +kernel
theorem dL_lands_358 : decode cL_lands 358 = .ok (.aload_n 0, 1) := by decide +kernel
theorem dL_lands_359 : decode cL_lands 359 = .ok (.iconst 0, 1) := by decide +kernel
theorem dL_lands_360 : decode cL_lands 360 = .ok (.invokevirtual 106, 3) := by decide +kernel
theorem dL_lands_363 : decode cL_lands 363 = .ok (.iconst 5, 1) := by decide +kernel
theorem dL_lands_364 : decode cL_lands 364 = .ok (.if_icmp .ne 248, 3) := by decide +kernel
theorem dL_lands_367 : decode cL_lands 367 = .ok (.aload_n 0, 1) := by decide +kernel
theorem dL_lands_368 : decode cL_lands 368 = .ok (.iconst 1, 1) := by decide +kernel
theorem dL_lands_369 : decode cL_lands 369 = .ok (.invokevirtual 109, 3) := by decide +kernel
theorem dL_lands_372 : decode cL_lands 372 = .ok (.ifCond .ne 240, 3) := by decide +kernel
theorem dL_lands_375 : decode cL_lands 375 = .ok (.aload_n 0, 1) := by decide +kernel
theorem dL_lands_376 : decode cL_lands 376 = .ok (.iconst 3, 1) := by decide +kernel
theorem dL_lands_377 : decode cL_lands 377 = .ok (.invokevirtual 109, 3) := by decide +kernel
theorem dL_lands_380 : decode cL_lands 380 = .ok (.iconst (-1), 1) := by decide +kernel
theorem dL_lands_381 : decode cL_lands 381 = .ok (.if_icmp .ne 231, 3) := by decide +kernel
theorem dL_lands_384 : decode cL_lands 384 = .ok (.aload_n 0, 1) := by decide +kernel
theorem dL_lands_385 : decode cL_lands 385 = .ok (.bipush 9, 2) := by decide +kernel
theorem dL_lands_387 : decode cL_lands 387 = .ok (.bipush 9, 2) := by decide +kernel
theorem dL_lands_389 : decode cL_lands 389 = .ok (.invokevirtual 85, 3) := by decide +kernel
theorem dL_lands_392 : decode cL_lands 392 = .ok (.sipush 128, 3) := by decide +kernel
theorem dL_lands_395 : decode cL_lands 395 = .ok (.if_icmp .ne 217, 3) := by decide +kernel
theorem dL_lands_398 : decode cL_lands 398 = .ok (.aload_n 0, 1) := by decide +kernel
theorem dL_lands_399 : decode cL_lands 399 = .ok (.iconst 3, 1) := by decide +kernel
theorem dL_lands_400 : decode cL_lands 400 = .ok (.iconst 3, 1) := by decide +kernel
theorem dL_lands_401 : decode cL_lands 401 = .ok (.bipush 9, 2) := by decide +kernel
theorem dL_lands_403 : decode cL_lands 403 = .ok (.bipush 9, 2) := by decide +kernel
theorem dL_lands_405 : decode cL_lands 405 = .ok (.iconst 0, 1) := by decide +kernel
theorem dL_lands_406 : decode cL_lands 406 = .ok (.invokestatic 150, 3) := by decide +kernel
theorem dL_lands_409 : decode cL_lands 409 = .ok (.sipush (-2013), 3) := by decide +kernel
theorem dL_lands_412 : decode cL_lands 412 = .ok (.if_icmp .ne 200, 3) := by decide +kernel
theorem dL_lands_415 : decode cL_lands 415 = .ok (.aload_n 0, 1) := by decide +kernel
theorem dL_lands_416 : decode cL_lands 416 = .ok (.iconst 3, 1) := by decide +kernel
theorem dL_lands_417 : decode cL_lands 417 = .ok (.bipush 13, 2) := by decide +kernel
theorem dL_lands_419 : decode cL_lands 419 = .ok (.iconst 1, 1) := by decide +kernel
theorem dL_lands_420 : decode cL_lands 420 = .ok (.invokevirtual 22, 3) := by decide +kernel
theorem dL_lands_423 : decode cL_lands 423 = .ok (.bipush 32, 2) := by decide +kernel
theorem dL_lands_425 : decode cL_lands 425 = .ok (.if_icmp .ne 187, 3) := by decide +kernel
theorem dL_lands_428 : decode cL_lands 428 = .ok (.aload_n 0, 1) := by decide +kernel
theorem dL_lands_429 : decode cL_lands 429 = .ok (.iconst 3, 1) := by decide +kernel
theorem dL_lands_430 : decode cL_lands 430 = .ok (.invokevirtual 112, 3) := by decide +kernel
theorem dL_lands_433 : decode cL_lands 433 = .ok (.bipush 68, 2) := by decide +kernel
theorem dL_lands_435 : decode cL_lands 435 = .ok (.if_icmp .ne 177, 3) := by decide +kernel
theorem dL_lands_438 : decode cL_lands 438 = .ok (.aload_n 0, 1) := by decide +kernel
theorem dL_lands_439 : decode cL_lands 439 = .ok (.iconst 0, 1) := by decide +kernel
theorem dL_lands_440 : decode cL_lands 440 = .ok (.invokevirtual 112, 3) := by decide +kernel
theorem dL_lands_443 : decode cL_lands 443 = .ok (.bipush 32, 2) := by decide +kernel
theorem dL_lands_445 : decode cL_lands 445 = .ok (.if_icmp .ne 167, 3) := by decide +kernel
theorem dL_lands_448 : decode cL_lands 448 = .ok (.aload_n 0, 1) := by decide +kernel
theorem dL_lands_449 : decode cL_lands 449 = .ok (.iconst 3, 1) := by decide +kernel
theorem dL_lands_450 : decode cL_lands 450 = .ok (.bipush 8, 2) := by decide +kernel
theorem dL_lands_452 : decode cL_lands 452 = .ok (.iconst 4, 1) := by decide +kernel
theorem dL_lands_453 : decode cL_lands 453 = .ok (.iconst 2, 1) := by decide +kernel
theorem dL_lands_454 : decode cL_lands 454 = .ok (.invokevirtual 26, 3) := by decide +kernel
theorem dL_lands_457 : decode cL_lands 457 = .ok (.bipush 8, 2) := by decide +kernel
theorem dL_lands_459 : decode cL_lands 459 = .ok (.if_icmp .ne 153, 3) := by decide +kernel
theorem dL_lands_462 : decode cL_lands 462 = .ok (.aload_n 0, 1) := by decide +kernel
theorem dL_lands_463 : decode cL_lands 463 = .ok (.invokevirtual 128, 3) := by decide +kernel
theorem dL_lands_466 : decode cL_lands 466 = .ok (.bipush 10, 2) := by decide +kernel
theorem dL_lands_468 : decode cL_lands 468 = .ok (.if_icmp .ne 144, 3) := by decide +kernel
theorem dL_lands_471 : decode cL_lands 471 = .ok (.aload_n 0, 1) := by decide +kernel
theorem dL_lands_472 : decode cL_lands 472 = .ok (.iconst 3, 1) := by decide +kernel
theorem dL_lands_473 : decode cL_lands 473 = .ok (.bipush 8, 2) := by decide +kernel
theorem dL_lands_475 : decode cL_lands 475 = .ok (.iconst 4, 1) := by decide +kernel
theorem dL_lands_476 : decode cL_lands 476 = .ok (.iconst 2, 1) := by decide +kernel
theorem dL_lands_477 : decode cL_lands 477 = .ok (.iconst 3, 1) := by decide +kernel
theorem dL_lands_478 : decode cL_lands 478 = .ok (.invokestatic 182, 3) := by decide +kernel
theorem dL_lands_481 : decode cL_lands 481 = .ok (.ifCond .eq 131, 3) := by decide +kernel
theorem dL_lands_484 : decode cL_lands 484 = .ok (.aload_n 0, 1) := by decide +kernel
theorem dL_lands_485 : decode cL_lands 485 = .ok (.bipush 6, 2) := by decide +kernel
theorem dL_lands_487 : decode cL_lands 487 = .ok (.bipush 10, 2) := by decide +kernel
theorem dL_lands_489 : decode cL_lands 489 = .ok (.bipush 6, 2) := by decide +kernel
theorem dL_lands_491 : decode cL_lands 491 = .ok (.iconst 2, 1) := by decide +kernel
theorem dL_lands_492 : decode cL_lands 492 = .ok (.iconst 0, 1) := by decide +kernel
theorem dL_lands_493 : decode cL_lands 493 = .ok (.invokestatic 182, 3) := by decide +kernel
theorem dL_lands_496 : decode cL_lands 496 = .ok (.ifCond .eq 116, 3) := by decide +kernel
theorem dL_lands_499 : decode cL_lands 499 = .ok (.aload_n 0, 1) := by decide +kernel
theorem dL_lands_500 : decode cL_lands 500 = .ok (.bipush 9, 2) := by decide +kernel
theorem dL_lands_502 : decode cL_lands 502 = .ok (.bipush 8, 2) := by decide +kernel
theorem dL_lands_504 : decode cL_lands 504 = .ok (.bipush 8, 2) := by decide +kernel
theorem dL_lands_506 : decode cL_lands 506 = .ok (.bipush 8, 2) := by decide +kernel
theorem dL_lands_508 : decode cL_lands 508 = .ok (.iconst 0, 1) := by decide +kernel
theorem dL_lands_509 : decode cL_lands 509 = .ok (.invokestatic 182, 3) := by decide +kernel
theorem dL_lands_512 : decode cL_lands 512 = .ok (.ifCond .eq 100, 3) := by decide +kernel
theorem dL_lands_515 : decode cL_lands 515 = .ok (.aload_n 0, 1) := by decide +kernel
theorem dL_lands_516 : decode cL_lands 516 = .ok (.iconst 4, 1) := by decide +kernel
theorem dL_lands_517 : decode cL_lands 517 = .ok (.iconst 3, 1) := by decide +kernel
theorem dL_lands_518 : decode cL_lands 518 = .ok (.bipush 8, 2) := by decide +kernel
theorem dL_lands_520 : decode cL_lands 520 = .ok (.iconst 4, 1) := by decide +kernel
theorem dL_lands_521 : decode cL_lands 521 = .ok (.iconst 4, 1) := by decide +kernel
theorem dL_lands_522 : decode cL_lands 522 = .ok (.invokestatic 150, 3) := by decide +kernel
theorem dL_lands_525 : decode cL_lands 525 = .ok (.sipush (-2013), 3) := by decide +kernel
theorem dL_lands_528 : decode cL_lands 528 = .ok (.if_icmp .ne 84, 3) := by decide +kernel
theorem dL_lands_531 : decode cL_lands 531 = .ok (.aload_n 0, 1) := by decide +kernel
theorem dL_lands_532 : decode cL_lands 532 = .ok (.iconst 4, 1) := by decide +kernel
theorem dL_lands_533 : decode cL_lands 533 = .ok (.iconst 1, 1) := by decide +kernel
theorem dL_lands_534 : decode cL_lands 534 = .ok (.iconst 0, 1) := by decide +kernel
theorem dL_lands_535 : decode cL_lands 535 = .ok (.iconst 0, 1) := by decide +kernel
theorem dL_lands_536 : decode cL_lands 536 = .ok (.iconst 2, 1) := by decide +kernel
theorem dL_lands_537 : decode cL_lands 537 = .ok (.invokestatic 150, 3) := by decide +kernel
theorem dL_lands_540 : decode cL_lands 540 = .ok (.sipush (-2013), 3) := by decide +kernel
theorem dL_lands_543 : decode cL_lands 543 = .ok (.if_icmp .ne 69, 3) := by decide +kernel
theorem dL_lands_546 : decode cL_lands 546 = .ok (.aload_n 0, 1) := by decide +kernel
theorem dL_lands_547 : decode cL_lands 547 = .ok (.iconst 3, 1) := by decide +kernel
theorem dL_lands_548 : decode cL_lands 548 = .ok (.iconst 1, 1) := by decide +kernel
theorem dL_lands_549 : decode cL_lands 549 = .ok (.bipush 7, 2) := by decide +kernel
theorem dL_lands_551 : decode cL_lands 551 = .ok (.bipush 7, 2) := by decide +kernel
theorem dL_lands_553 : decode cL_lands 553 = .ok (.iconst 0, 1) := by decide +kernel
theorem dL_lands_554 : decode cL_lands 554 = .ok (.invokestatic 150, 3) := by decide +kernel
theorem dL_lands_557 : decode cL_lands 557 = .ok (.sipush (-2013), 3) := by decide +kernel
theorem dL_lands_560 : decode cL_lands 560 = .ok (.if_icmp .ne 52, 3) := by decide +kernel
theorem dL_lands_563 : decode cL_lands 563 = .ok (.aload_n 0, 1) := by decide +kernel
theorem dL_lands_564 : decode cL_lands 564 = .ok (.iconst 1, 1) := by decide +kernel
theorem dL_lands_565 : decode cL_lands 565 = .ok (.bipush 8, 2) := by decide +kernel
theorem dL_lands_567 : decode cL_lands 567 = .ok (.iconst 4, 1) := by decide +kernel
theorem dL_lands_568 : decode cL_lands 568 = .ok (.iconst 2, 1) := by decide +kernel
theorem dL_lands_569 : decode cL_lands 569 = .ok (.invokevirtual 26, 3) := by decide +kernel
theorem dL_lands_572 : decode cL_lands 572 = .ok (.bipush 8, 2) := by decide +kernel
theorem dL_lands_574 : decode cL_lands 574 = .ok (.if_icmp .ne 38, 3) := by decide +kernel
theorem dL_lands_577 : decode cL_lands 577 = .ok (.aload_n 0, 1) := by decide +kernel
theorem dL_lands_578 : decode cL_lands 578 = .ok (.iconst 1, 1) := by decide +kernel
theorem dL_lands_579 : decode cL_lands 579 = .ok (.invokevirtual 112, 3) := by decide +kernel
theorem dL_lands_582 : decode cL_lands 582 = .ok (.bipush 92, 2) := by decide +kernel
theorem dL_lands_584 : decode cL_lands 584 = .ok (.if_icmp .ne 28, 3) := by decide +kernel
theorem dL_lands_587 : decode cL_lands 587 = .ok (.aload_n 0, 1) := by decide +kernel
theorem dL_lands_588 : decode cL_lands 588 = .ok (.iconst 3, 1) := by decide +kernel
theorem dL_lands_589 : decode cL_lands 589 = .ok (.invokevirtual 112, 3) := by decide +kernel
theorem dL_lands_592 : decode cL_lands 592 = .ok (.bipush 68, 2) := by decide +kernel
theorem dL_lands_594 : decode cL_lands 594 = .ok (.if_icmp .ne 18, 3) := by decide +kernel
theorem dL_lands_597 : decode cL_lands 597 = .ok (.aload_n 0, 1) := by decide +kernel
theorem dL_lands_598 : decode cL_lands 598 = .ok (.invokevirtual 137, 3) := by decide +kernel
theorem dL_lands_601 : decode cL_lands 601 = .ok (.iconst 3, 1) := by decide +kernel
theorem dL_lands_602 : decode cL_lands 602 = .ok (.if_icmp .ne 10, 3) := by decide +kernel
theorem dL_lands_605 : decode cL_lands 605 = .ok (.aload_n 0, 1) := by decide +kernel
theorem dL_lands_606 : decode cL_lands 606 = .ok (.invokestatic 196, 3) := by decide +kernel
