theorem d_L_law_438 : decode code 438 = .ok (.iload 5, 2) := by decide +kernel
theorem d_L_law_440 : decode code 440 = .ok (.iconst 1, 1) := by decide +kernel
theorem d_L_law_441 : decode code 441 = .ok (.iadd, 1) := by decide +kernel
theorem d_L_law_442 : decode code 442 = .ok (.iaload, 1) := by decide +kernel
theorem d_L_law_443 : decode code 443 = .ok (.aload_n 3, 1) := by decide +kernel
theorem d_L_law_444 : decode code 444 = .ok (.invokestatic 93, 3) := by decide +kernel
theorem d_L_law_447 : decode code 447 = .ok (.istore 6, 2) := by decide +kernel
theorem d_L_law_449 : decode code 449 = .ok (.aload_n 2, 1) := by decide +kernel
theorem d_L_law_450 : decode code 450 = .ok (.aload_n 0, 1) := by decide +kernel
theorem d_L_law_451 : decode code 451 = .ok (.iload 5, 2) := by decide +kernel
theorem d_L_law_453 : decode code 453 = .ok (.iconst 1, 1) := by decide +kernel
theorem d_L_law_454 : decode code 454 = .ok (.iadd, 1) := by decide +kernel
theorem d_L_law_455 : decode code 455 = .ok (.iaload, 1) := by decide +kernel
theorem d_L_law_456 : decode code 456 = .ok (.invokevirtual 95, 3) := by decide +kernel
theorem d_L_law_459 : decode code 459 = .ok (.istore 7, 2) := by decide +kernel
theorem d_L_law_461 : decode code 461 = .ok (.aload_n 2, 1) := by decide +kernel
theorem d_L_law_462 : decode code 462 = .ok (.invokevirtual 78, 3) := by decide +kernel
theorem d_L_law_465 : decode code 465 = .ok (.iload 6, 2) := by decide +kernel
theorem d_L_law_467 : decode code 467 = .ok (.if_icmp .eq 5, 3) := by decide +kernel
theorem d_L_law_470 : decode code 470 = .ok (.iconst 0, 1) := by decide +kernel
theorem d_L_law_471 : decode code 471 = .ok (.ireturn, 1) := by decide +kernel
theorem d_L_law_472 : decode code 472 = .ok (.iload 6, 2) := by decide +kernel
theorem d_L_law_474 : decode code 474 = .ok (.ifCond .ne 15, 3) := by decide +kernel
theorem d_L_law_477 : decode code 477 = .ok (.aload_n 3, 1) := by decide +kernel
theorem d_L_law_478 : decode code 478 = .ok (.iconst 0, 1) := by decide +kernel
theorem d_L_law_479 : decode code 479 = .ok (.laload, 1) := by decide +kernel
theorem d_L_law_480 : decode code 480 = .ok (.iload 7, 2) := by decide +kernel
theorem d_L_law_482 : decode code 482 = .ok (.i2l, 1) := by decide +kernel
theorem d_L_law_483 : decode code 483 = .ok (.lcmp, 1) := by decide +kernel
theorem d_L_law_484 : decode code 484 = .ok (.ifCond .eq 5, 3) := by decide +kernel
theorem d_L_law_487 : decode code 487 = .ok (.iconst 0, 1) := by decide +kernel
theorem d_L_law_488 : decode code 488 = .ok (.ireturn, 1) := by decide +kernel
theorem d_L_law_489 : decode code 489 = .ok (.goto 522, 3) := by decide +kernel
theorem d_L_law_492 : decode code 492 = .ok (.aload_n 1, 1) := by decide +kernel
theorem d_L_law_493 : decode code 493 = .ok (.aload_n 3, 1) := by decide +kernel
theorem d_L_law_494 : decode code 494 = .ok (.invokestatic 96, 3) := by decide +kernel
theorem d_L_law_497 : decode code 497 = .ok (.istore 6, 2) := by decide +kernel
theorem d_L_law_499 : decode code 499 = .ok (.aload_n 2, 1) := by decide +kernel
theorem d_L_law_500 : decode code 500 = .ok (.invokevirtual 99, 3) := by decide +kernel
theorem d_L_law_503 : decode code 503 = .ok (.istore 7, 2) := by decide +kernel
theorem d_L_law_505 : decode code 505 = .ok (.aload_n 2, 1) := by decide +kernel
theorem d_L_law_506 : decode code 506 = .ok (.invokevirtual 78, 3) := by decide +kernel
theorem d_L_law_509 : decode code 509 = .ok (.iload 6, 2) := by decide +kernel
theorem d_L_law_511 : decode code 511 = .ok (.if_icmp .eq 5, 3) := by decide +kernel
theorem d_L_law_514 : decode code 514 = .ok (.iconst 0, 1) := by decide +kernel
theorem d_L_law_515 : decode code 515 = .ok (.ireturn, 1) := by decide +kernel
theorem d_L_law_516 : decode code 516 = .ok (.iload 6, 2) := by decide +kernel
theorem d_L_law_518 : decode code 518 = .ok (.ifCond .ne 15, 3) := by decide +kernel
theorem d_L_law_521 : decode code 521 = .ok (.aload_n 3, 1) := by decide +kernel
theorem d_L_law_522 : decode code 522 = .ok (.iconst 0, 1) := by decide +kernel
theorem d_L_law_523 : decode code 523 = .ok (.laload, 1) := by decide +kernel
theorem d_L_law_524 : decode code 524 = .ok (.iload 7, 2) := by decide +kernel
theorem d_L_law_526 : decode code 526 = .ok (.i2l, 1) := by decide +kernel
theorem d_L_law_527 : decode code 527 = .ok (.lcmp, 1) := by decide +kernel
theorem d_L_law_528 : decode code 528 = .ok (.ifCond .eq 5, 3) := by decide +kernel
theorem d_L_law_531 : decode code 531 = .ok (.iconst 0, 1) := by decide +kernel
theorem d_L_law_532 : decode code 532 = .ok (.ireturn, 1) := by decide +kernel
theorem d_L_law_533 : decode code 533 = .ok (.goto 478, 3) := by decide +kernel
theorem d_L_law_536 : decode code 536 = .ok (.aload_n 1, 1) := by decide +kernel
theorem d_L_law_537 : decode code 537 = .ok (.aload_n 0, 1) := by decide +kernel
theorem d_L_law_538 : decode code 538 = .ok (.iload 5, 2) := by decide +kernel
theorem d_L_law_540 : decode code 540 = .ok (.iconst 1, 1) := by decide +kernel
theorem d_L_law_541 : decode code 541 = .ok (.iadd, 1) := by decide +kernel
theorem d_L_law_542 : decode code 542 = .ok (.iaload, 1) := by decide +kernel
theorem d_L_law_543 : decode code 543 = .ok (.aload_n 3, 1) := by decide +kernel
theorem d_L_law_544 : decode code 544 = .ok (.invokestatic 100, 3) := by decide +kernel
theorem d_L_law_547 : decode code 547 = .ok (.istore 6, 2) := by decide +kernel
theorem d_L_law_549 : decode code 549 = .ok (.aload_n 2, 1) := by decide +kernel
theorem d_L_law_550 : decode code 550 = .ok (.aload_n 0, 1) := by decide +kernel
theorem d_L_law_551 : decode code 551 = .ok (.iload 5, 2) := by decide +kernel
theorem d_L_law_553 : decode code 553 = .ok (.iconst 1, 1) := by decide +kernel
theorem d_L_law_554 : decode code 554 = .ok (.iadd, 1) := by decide +kernel
theorem d_L_law_555 : decode code 555 = .ok (.iaload, 1) := by decide +kernel
theorem d_L_law_556 : decode code 556 = .ok (.invokevirtual 102, 3) := by decide +kernel
theorem d_L_law_559 : decode code 559 = .ok (.istore 7, 2) := by decide +kernel
theorem d_L_law_561 : decode code 561 = .ok (.aload_n 2, 1) := by decide +kernel
theorem d_L_law_562 : decode code 562 = .ok (.invokevirtual 78, 3) := by decide +kernel
theorem d_L_law_565 : decode code 565 = .ok (.iload 6, 2) := by decide +kernel
theorem d_L_law_567 : decode code 567 = .ok (.if_icmp .eq 5, 3) := by decide +kernel
theorem d_L_law_570 : decode code 570 = .ok (.iconst 0, 1) := by decide +kernel
theorem d_L_law_571 : decode code 571 = .ok (.ireturn, 1) := by decide +kernel
theorem d_L_law_572 : decode code 572 = .ok (.iload 6, 2) := by decide +kernel
theorem d_L_law_574 : decode code 574 = .ok (.ifCond .ne 15, 3) := by decide +kernel
theorem d_L_law_577 : decode code 577 = .ok (.aload_n 3, 1) := by decide +kernel
theorem d_L_law_578 : decode code 578 = .ok (.iconst 0, 1) := by decide +kernel
theorem d_L_law_579 : decode code 579 = .ok (.laload, 1) := by decide +kernel
theorem d_L_law_580 : decode code 580 = .ok (.iload 7, 2) := by decide +kernel
theorem d_L_law_582 : decode code 582 = .ok (.i2l, 1) := by decide +kernel
theorem d_L_law_583 : decode code 583 = .ok (.lcmp, 1) := by decide +kernel
theorem d_L_law_584 : decode code 584 = .ok (.ifCond .eq 5, 3) := by decide +kernel
theorem d_L_law_587 : decode code 587 = .ok (.iconst 0, 1) := by decide +kernel
theorem d_L_law_588 : decode code 588 = .ok (.ireturn, 1) := by decide +kernel
theorem d_L_law_589 : decode code 589 = .ok (.goto 422, 3) := by decide +kernel
theorem d_L_law_592 : decode code 592 = .ok (.aload_n 1, 1) := by decide +kernel
theorem d_L_law_593 : decode code 593 = .ok (.aload_n 3, 1) := by decide +kernel
theorem d_L_law_594 : decode code 594 = .ok (.invokestatic 103, 3) := by decide +kernel
theorem d_L_law_597 : decode code 597 = .ok (.istore 6, 2) := by decide +kernel
theorem d_L_law_599 : decode code 599 = .ok (.aload_n 2, 1) := by decide +kernel
theorem d_L_law_600 : decode code 600 = .ok (.invokevirtual 105, 3) := by decide +kernel
theorem d_L_law_603 : decode code 603 = .ok (.istore 7, 2) := by decide +kernel
theorem d_L_law_605 : decode code 605 = .ok (.aload_n 2, 1) := by decide +kernel
theorem d_L_law_606 : decode code 606 = .ok (.invokevirtual 78, 3) := by decide +kernel
theorem d_L_law_609 : decode code 609 = .ok (.iload 6, 2) := by decide +kernel
theorem d_L_law_611 : decode code 611 = .ok (.if_icmp .eq 5, 3) := by decide +kernel
theorem d_L_law_614 : decode code 614 = .ok (.iconst 0, 1) := by decide +kernel
theorem d_L_law_615 : decode code 615 = .ok (.ireturn, 1) := by decide +kernel
theorem d_L_law_616 : decode code 616 = .ok (.iload 6, 2) := by decide +kernel
theorem d_L_law_618 : decode code 618 = .ok (.ifCond .ne 15, 3) := by decide +kernel
theorem d_L_law_621 : decode code 621 = .ok (.aload_n 3, 1) := by decide +kernel
theorem d_L_law_622 : decode code 622 = .ok (.iconst 0, 1) := by decide +kernel
theorem d_L_law_623 : decode code 623 = .ok (.laload, 1) := by decide +kernel
theorem d_L_law_624 : decode code 624 = .ok (.iload 7, 2) := by decide +kernel
theorem d_L_law_626 : decode code 626 = .ok (.i2l, 1) := by decide +kernel
theorem d_L_law_627 : decode code 627 = .ok (.lcmp, 1) := by decide +kernel
theorem d_L_law_628 : decode code 628 = .ok (.ifCond .eq 5, 3) := by decide +kernel
theorem d_L_law_631 : decode code 631 = .ok (.iconst 0, 1) := by decide +kernel
theorem d_L_law_632 : decode code 632 = .ok (.ireturn, 1) := by decide +kernel
theorem d_L_law_633 : decode code 633 = .ok (.goto 378, 3) := by decide +kernel
theorem d_L_law_636 : decode code 636 = .ok (.aload_n 1, 1) := by decide +kernel
theorem d_L_law_637 : decode code 637 = .ok (.aload_n 3, 1) := by decide +kernel
