theorem dL_refusesOne_335 : decode cL_refusesOne 335 = .ok (.if_icmp .ne 127, 3) := by decide +kernel
theorem dL_refusesOne_338 : decode cL_refusesOne 338 = .ok (.aload_n 0, 1) := by decide +kernel
theorem dL_refusesOne_339 : decode cL_refusesOne 339 = .ok (.iconst 5, 1) := by decide +kernel
theorem dL_refusesOne_340 : decode cL_refusesOne 340 = .ok (.iload_n 1, 1) := by decide +kernel
theorem dL_refusesOne_341 : decode cL_refusesOne 341 = .ok (.iconst 1, 1) := by decide +kernel
theorem dL_refusesOne_342 : decode cL_refusesOne 342 = .ok (.bipush 9, 2) := by decide +kernel
theorem dL_refusesOne_344 : decode cL_refusesOne 344 = .ok (.invokestatic 147, 3) := by decide +kernel
theorem dL_refusesOne_347 : decode cL_refusesOne 347 = .ok (.iconst 0, 1) := by decide +kernel
theorem dL_refusesOne_348 : decode cL_refusesOne 348 = .ok (.iconst 0, 1) := by decide +kernel
theorem dL_refusesOne_349 : decode cL_refusesOne 349 = .ok (.iconst 0, 1) := by decide +kernel
theorem dL_refusesOne_350 : decode cL_refusesOne 350 = .ok (.invokestatic 150, 3) := by decide +kernel
theorem dL_refusesOne_353 : decode cL_refusesOne 353 = .ok (.sipush (-2012), 3) := by decide +kernel
theorem dL_refusesOne_356 : decode cL_refusesOne 356 = .ok (.if_icmp .ne 106, 3) := by decide +kernel
theorem dL_refusesOne_359 : decode cL_refusesOne 359 = .ok (.aload_n 0, 1) := by decide +kernel
theorem dL_refusesOne_360 : decode cL_refusesOne 360 = .ok (.bipush 6, 2) := by decide +kernel
theorem dL_refusesOne_362 : decode cL_refusesOne 362 = .ok (.iload_n 1, 1) := by decide +kernel
theorem dL_refusesOne_363 : decode cL_refusesOne 363 = .ok (.iconst 0, 1) := by decide +kernel
theorem dL_refusesOne_364 : decode cL_refusesOne 364 = .ok (.bipush 9, 2) := by decide +kernel
theorem dL_refusesOne_366 : decode cL_refusesOne 366 = .ok (.invokestatic 147, 3) := by decide +kernel
theorem dL_refusesOne_369 : decode cL_refusesOne 369 = .ok (.iconst 0, 1) := by decide +kernel
theorem dL_refusesOne_370 : decode cL_refusesOne 370 = .ok (.iconst 0, 1) := by decide +kernel
theorem dL_refusesOne_371 : decode cL_refusesOne 371 = .ok (.iconst 0, 1) := by decide +kernel
theorem dL_refusesOne_372 : decode cL_refusesOne 372 = .ok (.invokestatic 150, 3) := by decide +kernel
theorem dL_refusesOne_375 : decode cL_refusesOne 375 = .ok (.sipush (-2012), 3) := by decide +kernel
theorem dL_refusesOne_378 : decode cL_refusesOne 378 = .ok (.if_icmp .ne 84, 3) := by decide +kernel
theorem dL_refusesOne_381 : decode cL_refusesOne 381 = .ok (.aload_n 0, 1) := by decide +kernel
theorem dL_refusesOne_382 : decode cL_refusesOne 382 = .ok (.bipush 7, 2) := by decide +kernel
theorem dL_refusesOne_384 : decode cL_refusesOne 384 = .ok (.iload_n 1, 1) := by decide +kernel
theorem dL_refusesOne_385 : decode cL_refusesOne 385 = .ok (.bipush 33, 2) := by decide +kernel
theorem dL_refusesOne_387 : decode cL_refusesOne 387 = .ok (.bipush 126, 2) := by decide +kernel
theorem dL_refusesOne_389 : decode cL_refusesOne 389 = .ok (.invokestatic 147, 3) := by decide +kernel
theorem dL_refusesOne_392 : decode cL_refusesOne 392 = .ok (.iconst 0, 1) := by decide +kernel
theorem dL_refusesOne_393 : decode cL_refusesOne 393 = .ok (.iconst 0, 1) := by decide +kernel
theorem dL_refusesOne_394 : decode cL_refusesOne 394 = .ok (.iconst 0, 1) := by decide +kernel
theorem dL_refusesOne_395 : decode cL_refusesOne 395 = .ok (.invokestatic 150, 3) := by decide +kernel
theorem dL_refusesOne_398 : decode cL_refusesOne 398 = .ok (.sipush (-2012), 3) := by decide +kernel
theorem dL_refusesOne_401 : decode cL_refusesOne 401 = .ok (.if_icmp .ne 61, 3) := by decide +kernel
theorem dL_refusesOne_404 : decode cL_refusesOne 404 = .ok (.aload_n 0, 1) := by decide +kernel
theorem dL_refusesOne_405 : decode cL_refusesOne 405 = .ok (.bipush 8, 2) := by decide +kernel
theorem dL_refusesOne_407 : decode cL_refusesOne 407 = .ok (.iconst 0, 1) := by decide +kernel
theorem dL_refusesOne_408 : decode cL_refusesOne 408 = .ok (.iconst 0, 1) := by decide +kernel
theorem dL_refusesOne_409 : decode cL_refusesOne 409 = .ok (.iconst 0, 1) := by decide +kernel
theorem dL_refusesOne_410 : decode cL_refusesOne 410 = .ok (.iconst 0, 1) := by decide +kernel
theorem dL_refusesOne_411 : decode cL_refusesOne 411 = .ok (.invokestatic 150, 3) := by decide +kernel
theorem dL_refusesOne_414 : decode cL_refusesOne 414 = .ok (.sipush (-2012), 3) := by decide +kernel
theorem dL_refusesOne_417 : decode cL_refusesOne 417 = .ok (.if_icmp .ne 45, 3) := by decide +kernel
theorem dL_refusesOne_420 : decode cL_refusesOne 420 = .ok (.aload_n 0, 1) := by decide +kernel
theorem dL_refusesOne_421 : decode cL_refusesOne 421 = .ok (.bipush 10, 2) := by decide +kernel
theorem dL_refusesOne_423 : decode cL_refusesOne 423 = .ok (.iload_n 1, 1) := by decide +kernel
theorem dL_refusesOne_424 : decode cL_refusesOne 424 = .ok (.iconst 0, 1) := by decide +kernel
theorem dL_refusesOne_425 : decode cL_refusesOne 425 = .ok (.iconst 1, 1) := by decide +kernel
theorem dL_refusesOne_426 : decode cL_refusesOne 426 = .ok (.invokestatic 147, 3) := by decide +kernel
theorem dL_refusesOne_429 : decode cL_refusesOne 429 = .ok (.iconst 0, 1) := by decide +kernel
theorem dL_refusesOne_430 : decode cL_refusesOne 430 = .ok (.iconst 0, 1) := by decide +kernel
theorem dL_refusesOne_431 : decode cL_refusesOne 431 = .ok (.iconst 0, 1) := by decide +kernel
theorem dL_refusesOne_432 : decode cL_refusesOne 432 = .ok (.invokestatic 150, 3) := by decide +kernel
theorem dL_refusesOne_435 : decode cL_refusesOne 435 = .ok (.sipush (-2011), 3) := by decide +kernel
theorem dL_refusesOne_438 : decode cL_refusesOne 438 = .ok (.if_icmp .ne 24, 3) := by decide +kernel
theorem dL_refusesOne_441 : decode cL_refusesOne 441 = .ok (.aload_n 0, 1) := by decide +kernel
theorem dL_refusesOne_442 : decode cL_refusesOne 442 = .ok (.bipush 11, 2) := by decide +kernel
theorem dL_refusesOne_444 : decode cL_refusesOne 444 = .ok (.iload_n 1, 1) := by decide +kernel
theorem dL_refusesOne_445 : decode cL_refusesOne 445 = .ok (.iconst 0, 1) := by decide +kernel
theorem dL_refusesOne_446 : decode cL_refusesOne 446 = .ok (.iconst 1, 1) := by decide +kernel
theorem dL_refusesOne_447 : decode cL_refusesOne 447 = .ok (.invokestatic 147, 3) := by decide +kernel
theorem dL_refusesOne_450 : decode cL_refusesOne 450 = .ok (.iconst 0, 1) := by decide +kernel
theorem dL_refusesOne_451 : decode cL_refusesOne 451 = .ok (.iconst 0, 1) := by decide +kernel
theorem dL_refusesOne_452 : decode cL_refusesOne 452 = .ok (.iconst 0, 1) := by decide +kernel
theorem dL_refusesOne_453 : decode cL_refusesOne 453 = .ok (.invokestatic 150, 3) := by decide +kernel
theorem dL_refusesOne_456 : decode cL_refusesOne 456 = .ok (.sipush (-2011), 3) := by decide +kernel
theorem dL_refusesOne_459 : decode cL_refusesOne 459 = .ok (.if_icmp .eq 5, 3) := by decide +kernel
theorem dL_refusesOne_462 : decode cL_refusesOne 462 = .ok (.iconst 0, 1) := by decide +kernel
theorem dL_refusesOne_463 : decode cL_refusesOne 463 = .ok (.ireturn, 1) := by decide +kernel
theorem dL_refusesOne_464 : decode cL_refusesOne 464 = .ok (.bipush 12, 2) := by decide +kernel
theorem dL_refusesOne_466 : decode cL_refusesOne 466 = .ok (.istore 6, 2) := by decide +kernel
theorem dL_refusesOne_468 : decode cL_refusesOne 468 = .ok (.iload 6, 2) := by decide +kernel
theorem dL_refusesOne_470 : decode cL_refusesOne 470 = .ok (.bipush 17, 2) := by decide +kernel
theorem dL_refusesOne_472 : decode cL_refusesOne 472 = .ok (.if_icmp .ge 44, 3) := by decide +kernel
theorem dL_refusesOne_475 : decode cL_refusesOne 475 = .ok (.aload_n 0, 1) := by decide +kernel
theorem dL_refusesOne_476 : decode cL_refusesOne 476 = .ok (.iload 6, 2) := by decide +kernel
theorem dL_refusesOne_478 : decode cL_refusesOne 478 = .ok (.iload_n 2, 1) := by decide +kernel
theorem dL_refusesOne_479 : decode cL_refusesOne 479 = .ok (.iconst 0, 1) := by decide +kernel
theorem dL_refusesOne_480 : decode cL_refusesOne 480 = .ok (.iconst 0, 1) := by decide +kernel
theorem dL_refusesOne_481 : decode cL_refusesOne 481 = .ok (.iconst 0, 1) := by decide +kernel
theorem dL_refusesOne_482 : decode cL_refusesOne 482 = .ok (.invokestatic 150, 3) := by decide +kernel
theorem dL_refusesOne_485 : decode cL_refusesOne 485 = .ok (.sipush (-2011), 3) := by decide +kernel
theorem dL_refusesOne_488 : decode cL_refusesOne 488 = .ok (.if_icmp .ne 20, 3) := by decide +kernel
theorem dL_refusesOne_491 : decode cL_refusesOne 491 = .ok (.aload_n 0, 1) := by decide +kernel
theorem dL_refusesOne_492 : decode cL_refusesOne 492 = .ok (.iload 6, 2) := by decide +kernel
theorem dL_refusesOne_494 : decode cL_refusesOne 494 = .ok (.bipush 15, 2) := by decide +kernel
theorem dL_refusesOne_496 : decode cL_refusesOne 496 = .ok (.iload_n 2, 1) := by decide +kernel
theorem dL_refusesOne_497 : decode cL_refusesOne 497 = .ok (.iconst 0, 1) := by decide +kernel
theorem dL_refusesOne_498 : decode cL_refusesOne 498 = .ok (.iconst 0, 1) := by decide +kernel
theorem dL_refusesOne_499 : decode cL_refusesOne 499 = .ok (.invokestatic 150, 3) := by decide +kernel
theorem dL_refusesOne_502 : decode cL_refusesOne 502 = .ok (.sipush (-2011), 3) := by decide +kernel
theorem dL_refusesOne_505 : decode cL_refusesOne 505 = .ok (.if_icmp .eq 5, 3) := by decide +kernel
theorem dL_refusesOne_508 : decode cL_refusesOne 508 = .ok (.iconst 0, 1) := by decide +kernel
theorem dL_refusesOne_509 : decode cL_refusesOne 509 = .ok (.ireturn, 1) := by decide +kernel
theorem dL_refusesOne_510 : decode cL_refusesOne 510 = .ok (.iinc 6 1, 3) := by decide +kernel
theorem dL_refusesOne_513 : decode cL_refusesOne 513 = .ok (.goto (-45), 3) := by decide +kernel
theorem dL_refusesOne_516 : decode cL_refusesOne 516 = .ok (.bipush 17, 2) := by decide +kernel
theorem dL_refusesOne_518 : decode cL_refusesOne 518 = .ok (.istore 6, 2) := by decide +kernel
theorem dL_refusesOne_520 : decode cL_refusesOne 520 = .ok (.iload 6, 2) := by decide +kernel
theorem dL_refusesOne_522 : decode cL_refusesOne 522 = .ok (.bipush 29, 2) := by decide +kernel
theorem dL_refusesOne_524 : decode cL_refusesOne 524 = .ok (.if_icmp .ge 82, 3) := by decide +kernel
theorem dL_refusesOne_527 : decode cL_refusesOne 527 = .ok (.iload 6, 2) := by decide +kernel
theorem dL_refusesOne_529 : decode cL_refusesOne 529 = .ok (.bipush 24, 2) := by decide +kernel
theorem dL_refusesOne_531 : decode cL_refusesOne 531 = .ok (.if_icmp .eq 10, 3) := by decide +kernel
theorem dL_refusesOne_534 : decode cL_refusesOne 534 = .ok (.iload 6, 2) := by decide +kernel
theorem dL_refusesOne_536 : decode cL_refusesOne 536 = .ok (.bipush 27, 2) := by decide +kernel
theorem dL_refusesOne_538 : decode cL_refusesOne 538 = .ok (.if_icmp .ne 7, 3) := by decide +kernel
theorem dL_refusesOne_541 : decode cL_refusesOne 541 = .ok (.iconst 1, 1) := by decide +kernel
theorem dL_refusesOne_542 : decode cL_refusesOne 542 = .ok (.goto 4, 3) := by decide +kernel
theorem dL_refusesOne_545 : decode cL_refusesOne 545 = .ok (.iconst 0, 1) := by decide +kernel
theorem dL_refusesOne_546 : decode cL_refusesOne 546 = .ok (.istore 7, 2) := by decide +kernel
theorem dL_refusesOne_548 : decode cL_refusesOne 548 = .ok (.aload_n 0, 1) := by decide +kernel
theorem dL_refusesOne_549 : decode cL_refusesOne 549 = .ok (.iload 6, 2) := by decide +kernel
theorem dL_refusesOne_551 : decode cL_refusesOne 551 = .ok (.iload 7, 2) := by decide +kernel
theorem dL_refusesOne_553 : decode cL_refusesOne 553 = .ok (.ifCond .eq 8, 3) := by decide +kernel
theorem dL_refusesOne_556 : decode cL_refusesOne 556 = .ok (.iload 4, 2) := by decide +kernel
theorem dL_refusesOne_558 : decode cL_refusesOne 558 = .ok (.goto 4, 3) := by decide +kernel
theorem dL_refusesOne_561 : decode cL_refusesOne 561 = .ok (.iload_n 3, 1) := by decide +kernel
theorem dL_refusesOne_562 : decode cL_refusesOne 562 = .ok (.iconst 1, 1) := by decide +kernel
theorem dL_refusesOne_563 : decode cL_refusesOne 563 = .ok (.iconst 0, 1) := by decide +kernel
theorem dL_refusesOne_564 : decode cL_refusesOne 564 = .ok (.iconst 0, 1) := by decide +kernel
theorem dL_refusesOne_565 : decode cL_refusesOne 565 = .ok (.invokestatic 150, 3) := by decide +kernel
theorem dL_refusesOne_568 : decode cL_refusesOne 568 = .ok (.sipush (-2011), 3) := by decide +kernel
theorem dL_refusesOne_571 : decode cL_refusesOne 571 = .ok (.if_icmp .ne 27, 3) := by decide +kernel
theorem dL_refusesOne_574 : decode cL_refusesOne 574 = .ok (.iload 6, 2) := by decide +kernel
theorem dL_refusesOne_576 : decode cL_refusesOne 576 = .ok (.bipush 22, 2) := by decide +kernel
theorem dL_refusesOne_578 : decode cL_refusesOne 578 = .ok (.if_icmp .ne 22, 3) := by decide +kernel
theorem dL_refusesOne_581 : decode cL_refusesOne 581 = .ok (.aload_n 0, 1) := by decide +kernel
theorem dL_refusesOne_582 : decode cL_refusesOne 582 = .ok (.iload 6, 2) := by decide +kernel
theorem dL_refusesOne_584 : decode cL_refusesOne 584 = .ok (.bipush 7, 2) := by decide +kernel
theorem dL_refusesOne_586 : decode cL_refusesOne 586 = .ok (.iload_n 3, 1) := by decide +kernel
theorem dL_refusesOne_587 : decode cL_refusesOne 587 = .ok (.iconst 0, 1) := by decide +kernel
theorem dL_refusesOne_588 : decode cL_refusesOne 588 = .ok (.iconst 0, 1) := by decide +kernel
theorem dL_refusesOne_589 : decode cL_refusesOne 589 = .ok (.invokestatic 150, 3) := by decide +kernel
theorem dL_refusesOne_592 : decode cL_refusesOne 592 = .ok (.sipush (-2011), 3) := by decide +kernel
theorem dL_refusesOne_595 : decode cL_refusesOne 595 = .ok (.if_icmp .eq 5, 3) := by decide +kernel
theorem dL_refusesOne_598 : decode cL_refusesOne 598 = .ok (.iconst 0, 1) := by decide +kernel
theorem dL_refusesOne_599 : decode cL_refusesOne 599 = .ok (.ireturn, 1) := by decide +kernel
theorem dL_refusesOne_600 : decode cL_refusesOne 600 = .ok (.iinc 6 1, 3) := by decide +kernel
theorem dL_refusesOne_603 : decode cL_refusesOne 603 = .ok (.goto (-83), 3) := by decide +kernel
theorem dL_refusesOne_606 : decode cL_refusesOne 606 = .ok (.aload_n 0, 1) := by decide +kernel
theorem dL_refusesOne_607 : decode cL_refusesOne 607 = .ok (.bipush 26, 2) := by decide +kernel
theorem dL_refusesOne_609 : decode cL_refusesOne 609 = .ok (.iload_n 3, 1) := by decide +kernel
theorem dL_refusesOne_610 : decode cL_refusesOne 610 = .ok (.iconst 0, 1) := by decide +kernel
theorem dL_refusesOne_611 : decode cL_refusesOne 611 = .ok (.iconst 0, 1) := by decide +kernel
theorem dL_refusesOne_612 : decode cL_refusesOne 612 = .ok (.iconst 0, 1) := by decide +kernel
theorem dL_refusesOne_613 : decode cL_refusesOne 613 = .ok (.invokestatic 150, 3) := by decide +kernel
theorem dL_refusesOne_616 : decode cL_refusesOne 616 = .ok (.sipush (-2011), 3) := by decide +kernel
theorem dL_refusesOne_619 : decode cL_refusesOne 619 = .ok (.if_icmp .ne 73, 3) := by decide +kernel
theorem dL_refusesOne_622 : decode cL_refusesOne 622 = .ok (.aload_n 0, 1) := by decide +kernel
theorem dL_refusesOne_623 : decode cL_refusesOne 623 = .ok (.bipush 26, 2) := by decide +kernel
theorem dL_refusesOne_625 : decode cL_refusesOne 625 = .ok (.bipush 7, 2) := by decide +kernel
theorem dL_refusesOne_627 : decode cL_refusesOne 627 = .ok (.iload_n 1, 1) := by decide +kernel
theorem dL_refusesOne_628 : decode cL_refusesOne 628 = .ok (.iconst 1, 1) := by decide +kernel
theorem dL_refusesOne_629 : decode cL_refusesOne 629 = .ok (.bipush 10, 2) := by decide +kernel
theorem dL_refusesOne_631 : decode cL_refusesOne 631 = .ok (.invokestatic 147, 3) := by decide +kernel
theorem dL_refusesOne_634 : decode cL_refusesOne 634 = .ok (.iconst 0, 1) := by decide +kernel
theorem dL_refusesOne_635 : decode cL_refusesOne 635 = .ok (.iconst 0, 1) := by decide +kernel
theorem dL_refusesOne_636 : decode cL_refusesOne 636 = .ok (.invokestatic 150, 3) := by decide +kernel
theorem dL_refusesOne_639 : decode cL_refusesOne 639 = .ok (.sipush (-2012), 3) := by decide +kernel
theorem dL_refusesOne_642 : decode cL_refusesOne 642 = .ok (.if_icmp .ne 50, 3) := by decide +kernel
theorem dL_refusesOne_645 : decode cL_refusesOne 645 = .ok (.aload_n 0, 1) := by decide +kernel
theorem dL_refusesOne_646 : decode cL_refusesOne 646 = .ok (.bipush 29, 2) := by decide +kernel
theorem dL_refusesOne_648 : decode cL_refusesOne 648 = .ok (.iload_n 1, 1) := by decide +kernel
theorem dL_refusesOne_649 : decode cL_refusesOne 649 = .ok (.iconst 1, 1) := by decide +kernel
theorem dL_refusesOne_650 : decode cL_refusesOne 650 = .ok (.bipush 10, 2) := by decide +kernel
theorem dL_refusesOne_652 : decode cL_refusesOne 652 = .ok (.invokestatic 147, 3) := by decide +kernel
theorem dL_refusesOne_655 : decode cL_refusesOne 655 = .ok (.iconst 0, 1) := by decide +kernel
theorem dL_refusesOne_656 : decode cL_refusesOne 656 = .ok (.iconst 0, 1) := by decide +kernel
theorem dL_refusesOne_657 : decode cL_refusesOne 657 = .ok (.iconst 0, 1) := by decide +kernel
theorem dL_refusesOne_658 : decode cL_refusesOne 658 = .ok (.invokestatic 150, 3) := by decide +kernel
theorem dL_refusesOne_661 : decode cL_refusesOne 661 = .ok (.sipush (-2012), 3) := by decide +kernel
theorem dL_refusesOne_664 : decode cL_refusesOne 664 = .ok (.if_icmp .ne 28, 3) := by decide +kernel
theorem dL_refusesOne_667 : decode cL_refusesOne 667 = .ok (.aload_n 0, 1) := by decide +kernel
theorem dL_refusesOne_668 : decode cL_refusesOne 668 = .ok (.iload_n 1, 1) := by decide +kernel
theorem dL_refusesOne_669 : decode cL_refusesOne 669 = .ok (.iconst 0, 1) := by decide +kernel
theorem dL_refusesOne_670 : decode cL_refusesOne 670 = .ok (.aload_n 0, 1) := by decide +kernel
theorem dL_refusesOne_671 : decode cL_refusesOne 671 = .ok (.invokevirtual 128, 3) := by decide +kernel
theorem dL_refusesOne_674 : decode cL_refusesOne 674 = .ok (.iconst 1, 1) := by decide +kernel
theorem dL_refusesOne_675 : decode cL_refusesOne 675 = .ok (.isub, 1) := by decide +kernel
theorem dL_refusesOne_676 : decode cL_refusesOne 676 = .ok (.invokestatic 147, 3) := by decide +kernel
theorem dL_refusesOne_679 : decode cL_refusesOne 679 = .ok (.invokestatic 154, 3) := by decide +kernel
theorem dL_refusesOne_682 : decode cL_refusesOne 682 = .ok (.sipush (-2011), 3) := by decide +kernel
theorem dL_refusesOne_685 : decode cL_refusesOne 685 = .ok (.if_icmp .ne 7, 3) := by decide +kernel
theorem dL_refusesOne_688 : decode cL_refusesOne 688 = .ok (.iconst 1, 1) := by decide +kernel
theorem dL_refusesOne_689 : decode cL_refusesOne 689 = .ok (.goto 4, 3) := by decide +kernel
theorem dL_refusesOne_692 : decode cL_refusesOne 692 = .ok (.iconst 0, 1) := by decide +kernel
theorem dL_refusesOne_693 : decode cL_refusesOne 693 = .ok (.ireturn, 1) := by decide +kernel
