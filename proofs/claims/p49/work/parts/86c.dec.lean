theorem dL_lands_344 : decode cL_lands 344 = .ok (.ifCond .eq 268, 3) := by decide +kernel
theorem dL_lands_347 : decode cL_lands 347 = .ok (.aload_n 0, 1) := by decide +kernel
theorem dL_lands_348 : decode cL_lands 348 = .ok (.iconst 2, 1) := by decide +kernel
theorem dL_lands_349 : decode cL_lands 349 = .ok (.bipush 12, 2) := by decide +kernel
theorem dL_lands_351 : decode cL_lands 351 = .ok (.iconst 0, 1) := by decide +kernel
theorem dL_lands_352 : decode cL_lands 352 = .ok (.invokestatic 186, 3) := by decide +kernel
theorem dL_lands_355 : decode cL_lands 355 = .ok (.ifCond .eq 257, 3) := by decide +kernel
theorem dL_lands_358 : decode cL_lands 358 = .ok (.aload_n 0, 1) := by decide +kernel
theorem dL_lands_359 : decode cL_lands 359 = .ok (.iconst 0, 1) := by decide +kernel
theorem dL_lands_360 : decode cL_lands 360 = .ok (.invokevirtual 106, 3) := by decide +kernel
theorem dL_lands_363 : decode cL_lands 363 = .ok (.iconst 5, 1) := by decide +kernel
theorem dL_lands_364 : decode cL_lands 364 = .ok (.if_icmp .ne 248, 3) := by decide +kernel
theorem dL_lands_367 : decode cL_lands 367 = .ok (.aload_n 0, 1) := by decide +kernel
theorem dL_lands_368 : decode cL_lands 368 = .ok (.iconst 1, 1) := by decide +kernel
theorem dL_lands_369 : decode cL_lands 369 = .ok (.invokevirtual 109, 3) := by decide +kernel
theorem dL_lands_372 : decode cL_lands 372 = .ok (.ifCond .ne 240, 3) := by decide +kernel
theorem dL_lands_375 : decode cL_lands 375 = .ok (.aload_n 0, 1) := by decide +kernel
theorem dL_lands_376 : decode cL_lands 376 = .ok (.iconst 3, 1) := by decide +kernel
theorem dL_lands_377 : decode cL_lands 377 = .ok (.invokevirtual 109, 3) := by decide +kernel
theorem dL_lands_380 : decode cL_lands 380 = .ok (.iconst (-1), 1) := by decide +kernel
theorem dL_lands_381 : decode cL_lands 381 = .ok (.if_icmp .ne 231, 3) := by decide +kernel
theorem dL_lands_384 : decode cL_lands 384 = .ok (.aload_n 0, 1) := by decide +kernel
theorem dL_lands_385 : decode cL_lands 385 = .ok (.bipush 9, 2) := by decide +kernel
theorem dL_lands_387 : decode cL_lands 387 = .ok (.bipush 9, 2) := by decide +kernel
theorem dL_lands_389 : decode cL_lands 389 = .ok (.invokevirtual 85, 3) := by decide +kernel
theorem dL_lands_392 : decode cL_lands 392 = .ok (.sipush 128, 3) := by decide +kernel
theorem dL_lands_395 : decode cL_lands 395 = .ok (.if_icmp .ne 217, 3) := by decide +kernel
theorem dL_lands_398 : decode cL_lands 398 = .ok (.aload_n 0, 1) := by decide +kernel
theorem dL_lands_399 : decode cL_lands 399 = .ok (.iconst 3, 1) := by decide +kernel
theorem dL_lands_400 : decode cL_lands 400 = .ok (.iconst 3, 1) := by decide +kernel
theorem dL_lands_401 : decode cL_lands 401 = .ok (.bipush 9, 2) := by decide +kernel
theorem dL_lands_403 : decode cL_lands 403 = .ok (.bipush 9, 2) := by decide +kernel
theorem dL_lands_405 : decode cL_lands 405 = .ok (.iconst 0, 1) := by decide +kernel
theorem dL_lands_406 : decode cL_lands 406 = .ok (.invokestatic 150, 3) := by decide +kernel
theorem dL_lands_409 : decode cL_lands 409 = .ok (.sipush (-2013), 3) := by decide +kernel
theorem dL_lands_412 : decode cL_lands 412 = .ok (.if_icmp .ne 200, 3) := by decide +kernel
theorem dL_lands_415 : decode cL_lands 415 = .ok (.aload_n 0, 1) := by decide +kernel
theorem dL_lands_416 : decode cL_lands 416 = .ok (.iconst 3, 1) := by decide +kernel
theorem dL_lands_417 : decode cL_lands 417 = .ok (.bipush 13, 2) := by decide +kernel
theorem dL_lands_419 : decode cL_lands 419 = .ok (.iconst 1, 1) := by decide +kernel
theorem dL_lands_420 : decode cL_lands 420 = .ok (.invokevirtual 22, 3) := by decide +kernel
theorem dL_lands_423 : decode cL_lands 423 = .ok (.bipush 32, 2) := by decide +kernel
theorem dL_lands_425 : decode cL_lands 425 = .ok (.if_icmp .ne 187, 3) := by decide +kernel
theorem dL_lands_428 : decode cL_lands 428 = .ok (.aload_n 0, 1) := by decide +kernel
theorem dL_lands_429 : decode cL_lands 429 = .ok (.iconst 3, 1) := by decide +kernel
theorem dL_lands_430 : decode cL_lands 430 = .ok (.invokevirtual 112, 3) := by decide +kernel
theorem dL_lands_433 : decode cL_lands 433 = .ok (.bipush 68, 2) := by decide +kernel
theorem dL_lands_435 : decode cL_lands 435 = .ok (.if_icmp .ne 177, 3) := by decide +kernel
theorem dL_lands_438 : decode cL_lands 438 = .ok (.aload_n 0, 1) := by decide +kernel
theorem dL_lands_439 : decode cL_lands 439 = .ok (.iconst 0, 1) := by decide +kernel
theorem dL_lands_440 : decode cL_lands 440 = .ok (.invokevirtual 112, 3) := by decide +kernel
theorem dL_lands_443 : decode cL_lands 443 = .ok (.bipush 32, 2) := by decide +kernel
theorem dL_lands_445 : decode cL_lands 445 = .ok (.if_icmp .ne 167, 3) := by decide +kernel
theorem dL_lands_448 : decode cL_lands 448 = .ok (.aload_n 0, 1) := by decide +kernel
theorem dL_lands_449 : decode cL_lands 449 = .ok (.iconst 3, 1) := by decide +kernel
theorem dL_lands_450 : decode cL_lands 450 = .ok (.bipush 8, 2) := by decide +kernel
theorem dL_lands_452 : decode cL_lands 452 = .ok (.iconst 4, 1) := by decide +kernel
theorem dL_lands_453 : decode cL_lands 453 = .ok (.iconst 2, 1) := by decide +kernel
theorem dL_lands_454 : decode cL_lands 454 = .ok (.invokevirtual 26, 3) := by decide +kernel
theorem dL_lands_457 : decode cL_lands 457 = .ok (.bipush 8, 2) := by decide +kernel
theorem dL_lands_459 : decode cL_lands 459 = .ok (.if_icmp .ne 153, 3) := by decide +kernel
theorem dL_lands_462 : decode cL_lands 462 = .ok (.aload_n 0, 1) := by decide +kernel
theorem dL_lands_463 : decode cL_lands 463 = .ok (.invokevirtual 128, 3) := by decide +kernel
theorem dL_lands_466 : decode cL_lands 466 = .ok (.bipush 10, 2) := by decide +kernel
theorem dL_lands_468 : decode cL_lands 468 = .ok (.if_icmp .ne 144, 3) := by decide +kernel
theorem dL_lands_471 : decode cL_lands 471 = .ok (.aload_n 0, 1) := by decide +kernel
theorem dL_lands_472 : decode cL_lands 472 = .ok (.iconst 3, 1) := by decide +kernel
theorem dL_lands_473 : decode cL_lands 473 = .ok (.bipush 8, 2) := by decide +kernel
theorem dL_lands_475 : decode cL_lands 475 = .ok (.iconst 4, 1) := by decide +kernel
theorem dL_lands_476 : decode cL_lands 476 = .ok (.iconst 2, 1) := by decide +kernel
theorem dL_lands_477 : decode cL_lands 477 = .ok (.iconst 3, 1) := by decide +kernel
theorem dL_lands_478 : decode cL_lands 478 = .ok (.invokestatic 182, 3) := by decide +kernel
theorem dL_lands_481 : decode cL_lands 481 = .ok (.ifCond .eq 131, 3) := by decide +kernel
theorem dL_lands_484 : decode cL_lands 484 = .ok (.aload_n 0, 1) := by decide +kernel
theorem dL_lands_485 : decode cL_lands 485 = .ok (.bipush 6, 2) := by decide +kernel
theorem dL_lands_487 : decode cL_lands 487 = .ok (.bipush 10, 2) := by decide +kernel
theorem dL_lands_489 : decode cL_lands 489 = .ok (.bipush 6, 2) := by decide +kernel
theorem dL_lands_491 : decode cL_lands 491 = .ok (.iconst 2, 1) := by decide +kernel
theorem dL_lands_492 : decode cL_lands 492 = .ok (.iconst 0, 1) := by decide +kernel
theorem dL_lands_493 : decode cL_lands 493 = .ok (.invokestatic 182, 3) := by decide +kernel
theorem dL_lands_496 : decode cL_lands 496 = .ok (.ifCond .eq 116, 3) := by decide +kernel
theorem dL_lands_499 : decode cL_lands 499 = .ok (.aload_n 0, 1) := by decide +kernel
theorem dL_lands_500 : decode cL_lands 500 = .ok (.bipush 9, 2) := by decide +kernel
theorem dL_lands_502 : decode cL_lands 502 = .ok (.bipush 8, 2) := by decide +kernel
theorem dL_lands_504 : decode cL_lands 504 = .ok (.bipush 8, 2) := by decide +kernel
theorem dL_lands_506 : decode cL_lands 506 = .ok (.bipush 8, 2) := by decide +kernel
theorem dL_lands_508 : decode cL_lands 508 = .ok (.iconst 0, 1) := by decide +kernel
theorem dL_lands_509 : decode cL_lands 509 = .ok (.invokestatic 182, 3) := by decide +kernel
theorem dL_lands_512 : decode cL_lands 512 = .ok (.ifCond .eq 100, 3) := by decide +kernel
theorem dL_lands_515 : decode cL_lands 515 = .ok (.aload_n 0, 1) := by decide +kernel
theorem dL_lands_516 : decode cL_lands 516 = .ok (.iconst 4, 1) := by decide +kernel
theorem dL_lands_517 : decode cL_lands 517 = .ok (.iconst 3, 1) := by decide +kernel
theorem dL_lands_518 : decode cL_lands 518 = .ok (.bipush 8, 2) := by decide +kernel
theorem dL_lands_520 : decode cL_lands 520 = .ok (.iconst 4, 1) := by decide +kernel
theorem dL_lands_521 : decode cL_lands 521 = .ok (.iconst 4, 1) := by decide +kernel
theorem dL_lands_522 : decode cL_lands 522 = .ok (.invokestatic 150, 3) := by decide +kernel
theorem dL_lands_525 : decode cL_lands 525 = .ok (.sipush (-2013), 3) := by decide +kernel
theorem dL_lands_528 : decode cL_lands 528 = .ok (.if_icmp .ne 84, 3) := by decide +kernel
theorem dL_lands_531 : decode cL_lands 531 = .ok (.aload_n 0, 1) := by decide +kernel
theorem dL_lands_532 : decode cL_lands 532 = .ok (.iconst 4, 1) := by decide +kernel
theorem dL_lands_533 : decode cL_lands 533 = .ok (.iconst 1, 1) := by decide +kernel
theorem dL_lands_534 : decode cL_lands 534 = .ok (.iconst 0, 1) := by decide +kernel
theorem dL_lands_535 : decode cL_lands 535 = .ok (.iconst 0, 1) := by decide +kernel
theorem dL_lands_536 : decode cL_lands 536 = .ok (.iconst 2, 1) := by decide +kernel
theorem dL_lands_537 : decode cL_lands 537 = .ok (.invokestatic 150, 3) := by decide +kernel
theorem dL_lands_540 : decode cL_lands 540 = .ok (.sipush (-2013), 3) := by decide +kernel
theorem dL_lands_543 : decode cL_lands 543 = .ok (.if_icmp .ne 69, 3) := by decide +kernel
theorem dL_lands_546 : decode cL_lands 546 = .ok (.aload_n 0, 1) := by decide +kernel
theorem dL_lands_547 : decode cL_lands 547 = .ok (.iconst 3, 1) := by decide +kernel
theorem dL_lands_548 : decode cL_lands 548 = .ok (.iconst 1, 1) := by decide +kernel
theorem dL_lands_549 : decode cL_lands 549 = .ok (.bipush 7, 2) := by decide +kernel
theorem dL_lands_551 : decode cL_lands 551 = .ok (.bipush 7, 2) := by decide +kernel
theorem dL_lands_553 : decode cL_lands 553 = .ok (.iconst 0, 1) := by decide +kernel
theorem dL_lands_554 : decode cL_lands 554 = .ok (.invokestatic 150, 3) := by decide +kernel
theorem dL_lands_557 : decode cL_lands 557 = .ok (.sipush (-2013), 3) := by decide +kernel
theorem dL_lands_560 : decode cL_lands 560 = .ok (.if_icmp .ne 52, 3) := by decide +kernel
theorem dL_lands_563 : decode cL_lands 563 = .ok (.aload_n 0, 1) := by decide +kernel
theorem dL_lands_564 : decode cL_lands 564 = .ok (.iconst 1, 1) := by decide +kernel
theorem dL_lands_565 : decode cL_lands 565 = .ok (.bipush 8, 2) := by decide +kernel
theorem dL_lands_567 : decode cL_lands 567 = .ok (.iconst 4, 1) := by decide +kernel
theorem dL_lands_568 : decode cL_lands 568 = .ok (.iconst 2, 1) := by decide +kernel
theorem dL_lands_569 : decode cL_lands 569 = .ok (.invokevirtual 26, 3) := by decide +kernel
theorem dL_lands_572 : decode cL_lands 572 = .ok (.bipush 8, 2) := by decide +kernel
theorem dL_lands_574 : decode cL_lands 574 = .ok (.if_icmp .ne 38, 3) := by decide +kernel
theorem dL_lands_577 : decode cL_lands 577 = .ok (.aload_n 0, 1) := by decide +kernel
theorem dL_lands_578 : decode cL_lands 578 = .ok (.iconst 1, 1) := by decide +kernel
theorem dL_lands_579 : decode cL_lands 579 = .ok (.invokevirtual 112, 3) := by decide +kernel
theorem dL_lands_582 : decode cL_lands 582 = .ok (.bipush 92, 2) := by decide +kernel
theorem dL_lands_584 : decode cL_lands 584 = .ok (.if_icmp .ne 28, 3) := by decide +kernel
theorem dL_lands_587 : decode cL_lands 587 = .ok (.aload_n 0, 1) := by decide +kernel
theorem dL_lands_588 : decode cL_lands 588 = .ok (.iconst 3, 1) := by decide +kernel
theorem dL_lands_589 : decode cL_lands 589 = .ok (.invokevirtual 112, 3) := by decide +kernel
theorem dL_lands_592 : decode cL_lands 592 = .ok (.bipush 68, 2) := by decide +kernel
theorem dL_lands_594 : decode cL_lands 594 = .ok (.if_icmp .ne 18, 3) := by decide +kernel
theorem dL_lands_597 : decode cL_lands 597 = .ok (.aload_n 0, 1) := by decide +kernel
theorem dL_lands_598 : decode cL_lands 598 = .ok (.invokevirtual 137, 3) := by decide +kernel
theorem dL_lands_601 : decode cL_lands 601 = .ok (.iconst 3, 1) := by decide +kernel
theorem dL_lands_602 : decode cL_lands 602 = .ok (.if_icmp .ne 10, 3) := by decide +kernel
theorem dL_lands_605 : decode cL_lands 605 = .ok (.aload_n 0, 1) := by decide +kernel
theorem dL_lands_606 : decode cL_lands 606 = .ok (.invokestatic 196, 3) := by decide +kernel
theorem dL_lands_609 : decode cL_lands 609 = .ok (.ifCond .ne 5, 3) := by decide +kernel
theorem dL_lands_612 : decode cL_lands 612 = .ok (.iconst 0, 1) := by decide +kernel
theorem dL_lands_613 : decode cL_lands 613 = .ok (.ireturn, 1) := by decide +kernel
theorem dL_lands_614 : decode cL_lands 614 = .ok (.aload_n 0, 1) := by decide +kernel
theorem dL_lands_615 : decode cL_lands 615 = .ok (.invokevirtual 63, 3) := by decide +kernel
theorem dL_lands_618 : decode cL_lands 618 = .ok (.iconst 4, 1) := by decide +kernel
theorem dL_lands_619 : decode cL_lands 619 = .ok (.if_icmp .ne 273, 3) := by decide +kernel
theorem dL_lands_622 : decode cL_lands 622 = .ok (.aload_n 0, 1) := by decide +kernel
theorem dL_lands_623 : decode cL_lands 623 = .ok (.iconst 1, 1) := by decide +kernel
theorem dL_lands_624 : decode cL_lands 624 = .ok (.invokevirtual 112, 3) := by decide +kernel
theorem dL_lands_627 : decode cL_lands 627 = .ok (.bipush 90, 2) := by decide +kernel
theorem dL_lands_629 : decode cL_lands 629 = .ok (.if_icmp .ne 263, 3) := by decide +kernel
theorem dL_lands_632 : decode cL_lands 632 = .ok (.aload_n 0, 1) := by decide +kernel
theorem dL_lands_633 : decode cL_lands 633 = .ok (.iconst 2, 1) := by decide +kernel
theorem dL_lands_634 : decode cL_lands 634 = .ok (.invokevirtual 112, 3) := by decide +kernel
theorem dL_lands_637 : decode cL_lands 637 = .ok (.bipush 99, 2) := by decide +kernel
theorem dL_lands_639 : decode cL_lands 639 = .ok (.if_icmp .ne 253, 3) := by decide +kernel
theorem dL_lands_642 : decode cL_lands 642 = .ok (.aload_n 0, 1) := by decide +kernel
theorem dL_lands_643 : decode cL_lands 643 = .ok (.iconst 3, 1) := by decide +kernel
theorem dL_lands_644 : decode cL_lands 644 = .ok (.invokevirtual 112, 3) := by decide +kernel
theorem dL_lands_647 : decode cL_lands 647 = .ok (.bipush 67, 2) := by decide +kernel
theorem dL_lands_649 : decode cL_lands 649 = .ok (.if_icmp .ne 243, 3) := by decide +kernel
theorem dL_lands_652 : decode cL_lands 652 = .ok (.aload_n 0, 1) := by decide +kernel
theorem dL_lands_653 : decode cL_lands 653 = .ok (.iconst 0, 1) := by decide +kernel
theorem dL_lands_654 : decode cL_lands 654 = .ok (.invokevirtual 112, 3) := by decide +kernel
theorem dL_lands_657 : decode cL_lands 657 = .ok (.bipush 44, 2) := by decide +kernel
theorem dL_lands_659 : decode cL_lands 659 = .ok (.if_icmp .ne 233, 3) := by decide +kernel
theorem dL_lands_662 : decode cL_lands 662 = .ok (.aload_n 0, 1) := by decide +kernel
theorem dL_lands_663 : decode cL_lands 663 = .ok (.iconst 0, 1) := by decide +kernel
theorem dL_lands_664 : decode cL_lands 664 = .ok (.iconst 0, 1) := by decide +kernel
theorem dL_lands_665 : decode cL_lands 665 = .ok (.iconst 2, 1) := by decide +kernel
theorem dL_lands_666 : decode cL_lands 666 = .ok (.bipush (-3), 2) := by decide +kernel
theorem dL_lands_668 : decode cL_lands 668 = .ok (.invokevirtual 15, 3) := by decide +kernel
theorem dL_lands_671 : decode cL_lands 671 = .ok (.bipush 8, 2) := by decide +kernel
theorem dL_lands_673 : decode cL_lands 673 = .ok (.if_icmp .ne 219, 3) := by decide +kernel
theorem dL_lands_676 : decode cL_lands 676 = .ok (.aload_n 0, 1) := by decide +kernel
theorem dL_lands_677 : decode cL_lands 677 = .ok (.bipush 14, 2) := by decide +kernel
theorem dL_lands_679 : decode cL_lands 679 = .ok (.bipush 14, 2) := by decide +kernel
theorem dL_lands_681 : decode cL_lands 681 = .ok (.iconst 2, 1) := by decide +kernel
theorem dL_lands_682 : decode cL_lands 682 = .ok (.bipush 9, 2) := by decide +kernel
theorem dL_lands_684 : decode cL_lands 684 = .ok (.invokevirtual 15, 3) := by decide +kernel
theorem dL_lands_687 : decode cL_lands 687 = .ok (.bipush 36, 2) := by decide +kernel
theorem dL_lands_689 : decode cL_lands 689 = .ok (.if_icmp .ne 203, 3) := by decide +kernel
theorem dL_lands_692 : decode cL_lands 692 = .ok (.aload_n 0, 1) := by decide +kernel
theorem dL_lands_693 : decode cL_lands 693 = .ok (.invokevirtual 190, 3) := by decide +kernel
theorem dL_lands_696 : decode cL_lands 696 = .ok (.ldc2_w 200, 3) := by decide +kernel
theorem dL_lands_699 : decode cL_lands 699 = .ok (.dcmp .l, 1) := by decide +kernel
theorem dL_lands_700 : decode cL_lands 700 = .ok (.ifCond .ne 192, 3) := by decide +kernel
