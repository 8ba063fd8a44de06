theorem d_L_law_444 : decode mb_L_law 444 = .ok (.lor, 1) := by decide +kernel
theorem d_L_law_445 : decode mb_L_law 445 = .ok (.invokevirtual 75, 3) := by decide +kernel
theorem d_L_law_448 : decode mb_L_law 448 = .ok (.istore 6, 2) := by decide +kernel
theorem d_L_law_450 : decode mb_L_law 450 = .ok (.aload_n 2, 1) := by decide +kernel
theorem d_L_law_451 : decode mb_L_law 451 = .ok (.invokevirtual 76, 3) := by decide +kernel
theorem d_L_law_454 : decode mb_L_law 454 = .ok (.iload 5, 2) := by decide +kernel
theorem d_L_law_456 : decode mb_L_law 456 = .ok (.if_icmp .eq 5, 3) := by decide +kernel
theorem d_L_law_459 : decode mb_L_law 459 = .ok (.iconst 0, 1) := by decide +kernel
theorem d_L_law_460 : decode mb_L_law 460 = .ok (.ireturn, 1) := by decide +kernel
theorem d_L_law_461 : decode mb_L_law 461 = .ok (.iload 5, 2) := by decide +kernel
theorem d_L_law_463 : decode mb_L_law 463 = .ok (.ifCond .ne 15, 3) := by decide +kernel
theorem d_L_law_466 : decode mb_L_law 466 = .ok (.aload_n 3, 1) := by decide +kernel
theorem d_L_law_467 : decode mb_L_law 467 = .ok (.iconst 0, 1) := by decide +kernel
theorem d_L_law_468 : decode mb_L_law 468 = .ok (.laload, 1) := by decide +kernel
theorem d_L_law_469 : decode mb_L_law 469 = .ok (.iload 6, 2) := by decide +kernel
theorem d_L_law_471 : decode mb_L_law 471 = .ok (.i2l, 1) := by decide +kernel
theorem d_L_law_472 : decode mb_L_law 472 = .ok (.lcmp, 1) := by decide +kernel
theorem d_L_law_473 : decode mb_L_law 473 = .ok (.ifCond .eq 5, 3) := by decide +kernel
theorem d_L_law_476 : decode mb_L_law 476 = .ok (.iconst 0, 1) := by decide +kernel
theorem d_L_law_477 : decode mb_L_law 477 = .ok (.ireturn, 1) := by decide +kernel
theorem d_L_law_478 : decode mb_L_law 478 = .ok (.goto 527, 3) := by decide +kernel
theorem d_L_law_481 : decode mb_L_law 481 = .ok (.aload_n 1, 1) := by decide +kernel
theorem d_L_law_482 : decode mb_L_law 482 = .ok (.aload_n 0, 1) := by decide +kernel
theorem d_L_law_483 : decode mb_L_law 483 = .ok (.iload 4, 2) := by decide +kernel
theorem d_L_law_485 : decode mb_L_law 485 = .ok (.iconst 1, 1) := by decide +kernel
theorem d_L_law_486 : decode mb_L_law 486 = .ok (.iadd, 1) := by decide +kernel
theorem d_L_law_487 : decode mb_L_law 487 = .ok (.iaload, 1) := by decide +kernel
theorem d_L_law_488 : decode mb_L_law 488 = .ok (.aload_n 0, 1) := by decide +kernel
theorem d_L_law_489 : decode mb_L_law 489 = .ok (.iload 4, 2) := by decide +kernel
theorem d_L_law_491 : decode mb_L_law 491 = .ok (.iconst 2, 1) := by decide +kernel
theorem d_L_law_492 : decode mb_L_law 492 = .ok (.iadd, 1) := by decide +kernel
theorem d_L_law_493 : decode mb_L_law 493 = .ok (.iaload, 1) := by decide +kernel
theorem d_L_law_494 : decode mb_L_law 494 = .ok (.aload_n 0, 1) := by decide +kernel
theorem d_L_law_495 : decode mb_L_law 495 = .ok (.iload 4, 2) := by decide +kernel
theorem d_L_law_497 : decode mb_L_law 497 = .ok (.iconst 3, 1) := by decide +kernel
theorem d_L_law_498 : decode mb_L_law 498 = .ok (.iadd, 1) := by decide +kernel
theorem d_L_law_499 : decode mb_L_law 499 = .ok (.iaload, 1) := by decide +kernel
theorem d_L_law_500 : decode mb_L_law 500 = .ok (.i2l, 1) := by decide +kernel
theorem d_L_law_501 : decode mb_L_law 501 = .ok (.bipush 32, 2) := by decide +kernel
theorem d_L_law_503 : decode mb_L_law 503 = .ok (.lshl, 1) := by decide +kernel
theorem d_L_law_504 : decode mb_L_law 504 = .ok (.aload_n 0, 1) := by decide +kernel
theorem d_L_law_505 : decode mb_L_law 505 = .ok (.iload 4, 2) := by decide +kernel
theorem d_L_law_507 : decode mb_L_law 507 = .ok (.iconst 4, 1) := by decide +kernel
theorem d_L_law_508 : decode mb_L_law 508 = .ok (.iadd, 1) := by decide +kernel
theorem d_L_law_509 : decode mb_L_law 509 = .ok (.iaload, 1) := by decide +kernel
theorem d_L_law_510 : decode mb_L_law 510 = .ok (.i2l, 1) := by decide +kernel
theorem d_L_law_511 : decode mb_L_law 511 = .ok (.ldc2_w 52, 3) := by decide +kernel
theorem d_L_law_514 : decode mb_L_law 514 = .ok (.land, 1) := by decide +kernel
theorem d_L_law_515 : decode mb_L_law 515 = .ok (.lor, 1) := by decide +kernel
theorem d_L_law_516 : decode mb_L_law 516 = .ok (.aload_n 3, 1) := by decide +kernel
theorem d_L_law_517 : decode mb_L_law 517 = .ok (.invokestatic 80, 3) := by decide +kernel
theorem d_L_law_520 : decode mb_L_law 520 = .ok (.istore 5, 2) := by decide +kernel
theorem d_L_law_522 : decode mb_L_law 522 = .ok (.aload_n 2, 1) := by decide +kernel
theorem d_L_law_523 : decode mb_L_law 523 = .ok (.aload_n 0, 1) := by decide +kernel
theorem d_L_law_524 : decode mb_L_law 524 = .ok (.iload 4, 2) := by decide +kernel
theorem d_L_law_526 : decode mb_L_law 526 = .ok (.iconst 1, 1) := by decide +kernel
theorem d_L_law_527 : decode mb_L_law 527 = .ok (.iadd, 1) := by decide +kernel
theorem d_L_law_528 : decode mb_L_law 528 = .ok (.iaload, 1) := by decide +kernel
theorem d_L_law_529 : decode mb_L_law 529 = .ok (.aload_n 0, 1) := by decide +kernel
theorem d_L_law_530 : decode mb_L_law 530 = .ok (.iload 4, 2) := by decide +kernel
theorem d_L_law_532 : decode mb_L_law 532 = .ok (.iconst 2, 1) := by decide +kernel
theorem d_L_law_533 : decode mb_L_law 533 = .ok (.iadd, 1) := by decide +kernel
theorem d_L_law_534 : decode mb_L_law 534 = .ok (.iaload, 1) := by decide +kernel
theorem d_L_law_535 : decode mb_L_law 535 = .ok (.aload_n 0, 1) := by decide +kernel
theorem d_L_law_536 : decode mb_L_law 536 = .ok (.iload 4, 2) := by decide +kernel
theorem d_L_law_538 : decode mb_L_law 538 = .ok (.iconst 3, 1) := by decide +kernel
theorem d_L_law_539 : decode mb_L_law 539 = .ok (.iadd, 1) := by decide +kernel
theorem d_L_law_540 : decode mb_L_law 540 = .ok (.iaload, 1) := by decide +kernel
theorem d_L_law_541 : decode mb_L_law 541 = .ok (.i2l, 1) := by decide +kernel
theorem d_L_law_542 : decode mb_L_law 542 = .ok (.bipush 32, 2) := by decide +kernel
theorem d_L_law_544 : decode mb_L_law 544 = .ok (.lshl, 1) := by decide +kernel
theorem d_L_law_545 : decode mb_L_law 545 = .ok (.aload_n 0, 1) := by decide +kernel
theorem d_L_law_546 : decode mb_L_law 546 = .ok (.iload 4, 2) := by decide +kernel
theorem d_L_law_548 : decode mb_L_law 548 = .ok (.iconst 4, 1) := by decide +kernel
theorem d_L_law_549 : decode mb_L_law 549 = .ok (.iadd, 1) := by decide +kernel
theorem d_L_law_550 : decode mb_L_law 550 = .ok (.iaload, 1) := by decide +kernel
theorem d_L_law_551 : decode mb_L_law 551 = .ok (.i2l, 1) := by decide +kernel
theorem d_L_law_552 : decode mb_L_law 552 = .ok (.ldc2_w 52, 3) := by decide +kernel
theorem d_L_law_555 : decode mb_L_law 555 = .ok (.land, 1) := by decide +kernel
theorem d_L_law_556 : decode mb_L_law 556 = .ok (.lor, 1) := by decide +kernel
theorem d_L_law_557 : decode mb_L_law 557 = .ok (.invokevirtual 83, 3) := by decide +kernel
theorem d_L_law_560 : decode mb_L_law 560 = .ok (.istore 6, 2) := by decide +kernel
theorem d_L_law_562 : decode mb_L_law 562 = .ok (.aload_n 2, 1) := by decide +kernel
theorem d_L_law_563 : decode mb_L_law 563 = .ok (.invokevirtual 76, 3) := by decide +kernel
theorem d_L_law_566 : decode mb_L_law 566 = .ok (.iload 5, 2) := by decide +kernel
theorem d_L_law_568 : decode mb_L_law 568 = .ok (.if_icmp .eq 5, 3) := by decide +kernel
theorem d_L_law_571 : decode mb_L_law 571 = .ok (.iconst 0, 1) := by decide +kernel
theorem d_L_law_572 : decode mb_L_law 572 = .ok (.ireturn, 1) := by decide +kernel
theorem d_L_law_573 : decode mb_L_law 573 = .ok (.iload 5, 2) := by decide +kernel
theorem d_L_law_575 : decode mb_L_law 575 = .ok (.ifCond .ne 15, 3) := by decide +kernel
