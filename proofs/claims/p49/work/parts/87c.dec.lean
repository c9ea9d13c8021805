theorem dL_texts_250 : decode cL_texts 250 = .ok (.if_icmp .ne 151, 3) := by decide +kernel
theorem dL_texts_253 : decode cL_texts 253 = .ok (.aload_n 0, 1) := by decide +kernel
theorem dL_texts_254 : decode cL_texts 254 = .ok (.ldc2_w 258, 3) := by decide +kernel
theorem dL_texts_257 : decode cL_texts 257 = .ok (.invokestatic 207, 3) := by decide +kernel
theorem dL_texts_260 : decode cL_texts 260 = .ok (.ifCond .eq 141, 3) := by decide +kernel
theorem dL_texts_263 : decode cL_texts 263 = .ok (.aload_n 0, 1) := by decide +kernel
theorem dL_texts_264 : decode cL_texts 264 = .ok (.ldc2_w 260, 3) := by decide +kernel
theorem dL_texts_267 : decode cL_texts 267 = .ok (.invokestatic 207, 3) := by decide +kernel
theorem dL_texts_270 : decode cL_texts 270 = .ok (.ifCond .eq 131, 3) := by decide +kernel
theorem dL_texts_273 : decode cL_texts 273 = .ok (.aload_n 0, 1) := by decide +kernel
theorem dL_texts_274 : decode cL_texts 274 = .ok (.invokevirtual 38, 3) := by decide +kernel
theorem dL_texts_277 : decode cL_texts 277 = .ok (.iconst 1, 1) := by decide +kernel
theorem dL_texts_278 : decode cL_texts 278 = .ok (.if_icmp .ne 123, 3) := by decide +kernel
theorem dL_texts_281 : decode cL_texts 281 = .ok (.aload_n 0, 1) := by decide +kernel
theorem dL_texts_282 : decode cL_texts 282 = .ok (.invokevirtual 262, 3) := by decide +kernel
theorem dL_texts_285 : decode cL_texts 285 = .ok (.ifCond .ne 116, 3) := by decide +kernel
theorem dL_texts_288 : decode cL_texts 288 = .ok (.aload_n 0, 1) := by decide +kernel
theorem dL_texts_289 : decode cL_texts 289 = .ok (.invokevirtual 128, 3) := by decide +kernel
theorem dL_texts_292 : decode cL_texts 292 = .ok (.iconst 4, 1) := by decide +kernel
theorem dL_texts_293 : decode cL_texts 293 = .ok (.if_icmp .ne 108, 3) := by decide +kernel
theorem dL_texts_296 : decode cL_texts 296 = .ok (.aload_n 0, 1) := by decide +kernel
theorem dL_texts_297 : decode cL_texts 297 = .ok (.ldc2_w 265, 3) := by decide +kernel
theorem dL_texts_300 : decode cL_texts 300 = .ok (.invokestatic 207, 3) := by decide +kernel
theorem dL_texts_303 : decode cL_texts 303 = .ok (.ifCond .eq 98, 3) := by decide +kernel
theorem dL_texts_306 : decode cL_texts 306 = .ok (.aload_n 0, 1) := by decide +kernel
theorem dL_texts_307 : decode cL_texts 307 = .ok (.invokevirtual 38, 3) := by decide +kernel
theorem dL_texts_310 : decode cL_texts 310 = .ok (.ifCond .ne 91, 3) := by decide +kernel
theorem dL_texts_313 : decode cL_texts 313 = .ok (.aload_n 0, 1) := by decide +kernel
theorem dL_texts_314 : decode cL_texts 314 = .ok (.ldc2_w 267, 3) := by decide +kernel
theorem dL_texts_317 : decode cL_texts 317 = .ok (.invokestatic 207, 3) := by decide +kernel
theorem dL_texts_320 : decode cL_texts 320 = .ok (.ifCond .eq 81, 3) := by decide +kernel
theorem dL_texts_323 : decode cL_texts 323 = .ok (.aload_n 0, 1) := by decide +kernel
theorem dL_texts_324 : decode cL_texts 324 = .ok (.ldc2_w 269, 3) := by decide +kernel
theorem dL_texts_327 : decode cL_texts 327 = .ok (.invokestatic 207, 3) := by decide +kernel
theorem dL_texts_330 : decode cL_texts 330 = .ok (.ifCond .eq 71, 3) := by decide +kernel
theorem dL_texts_333 : decode cL_texts 333 = .ok (.aload_n 0, 1) := by decide +kernel
theorem dL_texts_334 : decode cL_texts 334 = .ok (.invokevirtual 38, 3) := by decide +kernel
theorem dL_texts_337 : decode cL_texts 337 = .ok (.iconst 3, 1) := by decide +kernel
theorem dL_texts_338 : decode cL_texts 338 = .ok (.if_icmp .ne 63, 3) := by decide +kernel
theorem dL_texts_341 : decode cL_texts 341 = .ok (.aload_n 0, 1) := by decide +kernel
theorem dL_texts_342 : decode cL_texts 342 = .ok (.invokevirtual 190, 3) := by decide +kernel
theorem dL_texts_345 : decode cL_texts 345 = .ok (.dconst 0, 1) := by decide +kernel
theorem dL_texts_346 : decode cL_texts 346 = .ok (.dcmp .l, 1) := by decide +kernel
theorem dL_texts_347 : decode cL_texts 347 = .ok (.ifCond .ne 54, 3) := by decide +kernel
theorem dL_texts_350 : decode cL_texts 350 = .ok (.aload_n 0, 1) := by decide +kernel
theorem dL_texts_351 : decode cL_texts 351 = .ok (.invokevirtual 140, 3) := by decide +kernel
theorem dL_texts_354 : decode cL_texts 354 = .ok (.iconst 1, 1) := by decide +kernel
theorem dL_texts_355 : decode cL_texts 355 = .ok (.if_icmp .ne 46, 3) := by decide +kernel
theorem dL_texts_358 : decode cL_texts 358 = .ok (.aload_n 0, 1) := by decide +kernel
theorem dL_texts_359 : decode cL_texts 359 = .ok (.invokevirtual 128, 3) := by decide +kernel
theorem dL_texts_362 : decode cL_texts 362 = .ok (.iconst 1, 1) := by decide +kernel
theorem dL_texts_363 : decode cL_texts 363 = .ok (.if_icmp .ne 38, 3) := by decide +kernel
theorem dL_texts_366 : decode cL_texts 366 = .ok (.aload_n 0, 1) := by decide +kernel
theorem dL_texts_367 : decode cL_texts 367 = .ok (.invokevirtual 174, 3) := by decide +kernel
theorem dL_texts_370 : decode cL_texts 370 = .ok (.iconst 3, 1) := by decide +kernel
theorem dL_texts_371 : decode cL_texts 371 = .ok (.if_icmp .ne 30, 3) := by decide +kernel
theorem dL_texts_374 : decode cL_texts 374 = .ok (.aload_n 0, 1) := by decide +kernel
theorem dL_texts_375 : decode cL_texts 375 = .ok (.invokevirtual 42, 3) := by decide +kernel
theorem dL_texts_378 : decode cL_texts 378 = .ok (.iconst 2, 1) := by decide +kernel
theorem dL_texts_379 : decode cL_texts 379 = .ok (.if_icmp .ne 22, 3) := by decide +kernel
theorem dL_texts_382 : decode cL_texts 382 = .ok (.aload_n 0, 1) := by decide +kernel
theorem dL_texts_383 : decode cL_texts 383 = .ok (.invokevirtual 128, 3) := by decide +kernel
theorem dL_texts_386 : decode cL_texts 386 = .ok (.iconst 4, 1) := by decide +kernel
theorem dL_texts_387 : decode cL_texts 387 = .ok (.if_icmp .ne 14, 3) := by decide +kernel
theorem dL_texts_390 : decode cL_texts 390 = .ok (.aload_n 0, 1) := by decide +kernel
theorem dL_texts_391 : decode cL_texts 391 = .ok (.invokevirtual 190, 3) := by decide +kernel
theorem dL_texts_394 : decode cL_texts 394 = .ok (.ldc2_w 194, 3) := by decide +kernel
theorem dL_texts_397 : decode cL_texts 397 = .ok (.dcmp .l, 1) := by decide +kernel
theorem dL_texts_398 : decode cL_texts 398 = .ok (.ifCond .eq 5, 3) := by decide +kernel
theorem dL_texts_401 : decode cL_texts 401 = .ok (.iconst 0, 1) := by decide +kernel
theorem dL_texts_402 : decode cL_texts 402 = .ok (.ireturn, 1) := by decide +kernel
theorem dL_texts_403 : decode cL_texts 403 = .ok (.iconst 0, 1) := by decide +kernel
theorem dL_texts_404 : decode cL_texts 404 = .ok (.istore_n 1, 1) := by decide +kernel
theorem dL_texts_405 : decode cL_texts 405 = .ok (.iload_n 1, 1) := by decide +kernel
theorem dL_texts_406 : decode cL_texts 406 = .ok (.bipush 60, 2) := by decide +kernel
theorem dL_texts_408 : decode cL_texts 408 = .ok (.if_icmp .ge 44, 3) := by decide +kernel
theorem dL_texts_411 : decode cL_texts 411 = .ok (.aload_n 0, 1) := by decide +kernel
theorem dL_texts_412 : decode cL_texts 412 = .ok (.iload_n 1, 1) := by decide +kernel
theorem dL_texts_413 : decode cL_texts 413 = .ok (.iconst 2, 1) := by decide +kernel
theorem dL_texts_414 : decode cL_texts 414 = .ok (.irem, 1) := by decide +kernel
theorem dL_texts_415 : decode cL_texts 415 = .ok (.ifCond .ne 8, 3) := by decide +kernel
theorem dL_texts_418 : decode cL_texts 418 = .ok (.bipush 116, 2) := by decide +kernel
theorem dL_texts_420 : decode cL_texts 420 = .ok (.goto 5, 3) := by decide +kernel
theorem dL_texts_423 : decode cL_texts 423 = .ok (.bipush 59, 2) := by decide +kernel
theorem dL_texts_425 : decode cL_texts 425 = .ok (.invokevirtual 35, 3) := by decide +kernel
theorem dL_texts_428 : decode cL_texts 428 = .ok (.iload_n 1, 1) := by decide +kernel
theorem dL_texts_429 : decode cL_texts 429 = .ok (.iconst 1, 1) := by decide +kernel
theorem dL_texts_430 : decode cL_texts 430 = .ok (.iadd, 1) := by decide +kernel
theorem dL_texts_431 : decode cL_texts 431 = .ok (.if_icmp .ne 13, 3) := by decide +kernel
theorem dL_texts_434 : decode cL_texts 434 = .ok (.aload_n 0, 1) := by decide +kernel
theorem dL_texts_435 : decode cL_texts 435 = .ok (.invokevirtual 211, 3) := by decide +kernel
theorem dL_texts_438 : decode cL_texts 438 = .ok (.iload_n 1, 1) := by decide +kernel
theorem dL_texts_439 : decode cL_texts 439 = .ok (.iconst 1, 1) := by decide +kernel
theorem dL_texts_440 : decode cL_texts 440 = .ok (.iadd, 1) := by decide +kernel
theorem dL_texts_441 : decode cL_texts 441 = .ok (.if_icmp .eq 5, 3) := by decide +kernel
theorem dL_texts_444 : decode cL_texts 444 = .ok (.iconst 0, 1) := by decide +kernel
theorem dL_texts_445 : decode cL_texts 445 = .ok (.ireturn, 1) := by decide +kernel
theorem dL_texts_446 : decode cL_texts 446 = .ok (.iinc 1 1, 3) := by decide +kernel
theorem dL_texts_449 : decode cL_texts 449 = .ok (.goto (-44), 3) := by decide +kernel
theorem dL_texts_452 : decode cL_texts 452 = .ok (.aload_n 0, 1) := by decide +kernel
theorem dL_texts_453 : decode cL_texts 453 = .ok (.bipush 7, 2) := by decide +kernel
theorem dL_texts_455 : decode cL_texts 455 = .ok (.bipush 116, 2) := by decide +kernel
theorem dL_texts_457 : decode cL_texts 457 = .ok (.iconst 0, 1) := by decide +kernel
theorem dL_texts_458 : decode cL_texts 458 = .ok (.iconst 0, 1) := by decide +kernel
theorem dL_texts_459 : decode cL_texts 459 = .ok (.iconst 0, 1) := by decide +kernel
theorem dL_texts_460 : decode cL_texts 460 = .ok (.invokestatic 150, 3) := by decide +kernel
theorem dL_texts_463 : decode cL_texts 463 = .ok (.sipush (-2013), 3) := by decide +kernel
theorem dL_texts_466 : decode cL_texts 466 = .ok (.if_icmp .ne 32, 3) := by decide +kernel
theorem dL_texts_469 : decode cL_texts 469 = .ok (.aload_n 0, 1) := by decide +kernel
theorem dL_texts_470 : decode cL_texts 470 = .ok (.bipush 8, 2) := by decide +kernel
theorem dL_texts_472 : decode cL_texts 472 = .ok (.iconst 0, 1) := by decide +kernel
theorem dL_texts_473 : decode cL_texts 473 = .ok (.iconst 0, 1) := by decide +kernel
theorem dL_texts_474 : decode cL_texts 474 = .ok (.iconst 0, 1) := by decide +kernel
theorem dL_texts_475 : decode cL_texts 475 = .ok (.iconst 0, 1) := by decide +kernel
theorem dL_texts_476 : decode cL_texts 476 = .ok (.invokestatic 150, 3) := by decide +kernel
theorem dL_texts_479 : decode cL_texts 479 = .ok (.sipush (-2012), 3) := by decide +kernel
theorem dL_texts_482 : decode cL_texts 482 = .ok (.if_icmp .ne 16, 3) := by decide +kernel
theorem dL_texts_485 : decode cL_texts 485 = .ok (.aload_n 0, 1) := by decide +kernel
theorem dL_texts_486 : decode cL_texts 486 = .ok (.invokevirtual 204, 3) := by decide +kernel
theorem dL_texts_489 : decode cL_texts 489 = .ok (.bipush 60, 2) := by decide +kernel
theorem dL_texts_491 : decode cL_texts 491 = .ok (.if_icmp .ne 7, 3) := by decide +kernel
theorem dL_texts_494 : decode cL_texts 494 = .ok (.iconst 1, 1) := by decide +kernel
theorem dL_texts_495 : decode cL_texts 495 = .ok (.goto 4, 3) := by decide +kernel
theorem dL_texts_498 : decode cL_texts 498 = .ok (.iconst 0, 1) := by decide +kernel
theorem dL_texts_499 : decode cL_texts 499 = .ok (.ireturn, 1) := by decide +kernel
