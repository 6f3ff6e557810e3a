theorem d_La_law_455 : decode code 455 = .ok (.iadd, 1) := by decide +kernel
theorem d_La_law_456 : decode code 456 = .ok (.iaload, 1) := by decide +kernel
theorem d_La_law_457 : decode code 457 = .ok (.aload_n 0, 1) := by decide +kernel
theorem d_La_law_458 : decode code 458 = .ok (.iload 4, 2) := by decide +kernel
theorem d_La_law_460 : decode code 460 = .ok (.iconst 3, 1) := by decide +kernel
theorem d_La_law_461 : decode code 461 = .ok (.iadd, 1) := by decide +kernel
theorem d_La_law_462 : decode code 462 = .ok (.iaload, 1) := by decide +kernel
theorem d_La_law_463 : decode code 463 = .ok (.aload_n 3, 1) := by decide +kernel
theorem d_La_law_464 : decode code 464 = .ok (.invokestatic 106, 3) := by decide +kernel
theorem d_La_law_467 : decode code 467 = .ok (.istore 5, 2) := by decide +kernel
theorem d_La_law_469 : decode code 469 = .ok (.aload_n 2, 1) := by decide +kernel
theorem d_La_law_470 : decode code 470 = .ok (.aload_n 0, 1) := by decide +kernel
theorem d_La_law_471 : decode code 471 = .ok (.iload 4, 2) := by decide +kernel
theorem d_La_law_473 : decode code 473 = .ok (.iconst 1, 1) := by decide +kernel
theorem d_La_law_474 : decode code 474 = .ok (.iadd, 1) := by decide +kernel
theorem d_La_law_475 : decode code 475 = .ok (.iaload, 1) := by decide +kernel
theorem d_La_law_476 : decode code 476 = .ok (.aload_n 0, 1) := by decide +kernel
theorem d_La_law_477 : decode code 477 = .ok (.iload 4, 2) := by decide +kernel
theorem d_La_law_479 : decode code 479 = .ok (.iconst 2, 1) := by decide +kernel
theorem d_La_law_480 : decode code 480 = .ok (.iadd, 1) := by decide +kernel
theorem d_La_law_481 : decode code 481 = .ok (.iaload, 1) := by decide +kernel
theorem d_La_law_482 : decode code 482 = .ok (.aload_n 0, 1) := by decide +kernel
theorem d_La_law_483 : decode code 483 = .ok (.iload 4, 2) := by decide +kernel
theorem d_La_law_485 : decode code 485 = .ok (.iconst 3, 1) := by decide +kernel
theorem d_La_law_486 : decode code 486 = .ok (.iadd, 1) := by decide +kernel
theorem d_La_law_487 : decode code 487 = .ok (.iaload, 1) := by decide +kernel
theorem d_La_law_488 : decode code 488 = .ok (.invokevirtual 109, 3) := by decide +kernel
theorem d_La_law_491 : decode code 491 = .ok (.istore 6, 2) := by decide +kernel
theorem d_La_law_493 : decode code 493 = .ok (.aload_n 2, 1) := by decide +kernel
theorem d_La_law_494 : decode code 494 = .ok (.invokevirtual 92, 3) := by decide +kernel
theorem d_La_law_497 : decode code 497 = .ok (.iload 5, 2) := by decide +kernel
theorem d_La_law_499 : decode code 499 = .ok (.if_icmp .eq 5, 3) := by decide +kernel
theorem d_La_law_502 : decode code 502 = .ok (.iconst 0, 1) := by decide +kernel
theorem d_La_law_503 : decode code 503 = .ok (.ireturn, 1) := by decide +kernel
theorem d_La_law_504 : decode code 504 = .ok (.iload 5, 2) := by decide +kernel
theorem d_La_law_506 : decode code 506 = .ok (.ifCond .ne 15, 3) := by decide +kernel
theorem d_La_law_509 : decode code 509 = .ok (.aload_n 3, 1) := by decide +kernel
theorem d_La_law_510 : decode code 510 = .ok (.iconst 0, 1) := by decide +kernel
theorem d_La_law_511 : decode code 511 = .ok (.laload, 1) := by decide +kernel
theorem d_La_law_512 : decode code 512 = .ok (.iload 6, 2) := by decide +kernel
theorem d_La_law_514 : decode code 514 = .ok (.i2l, 1) := by decide +kernel
theorem d_La_law_515 : decode code 515 = .ok (.lcmp, 1) := by decide +kernel
theorem d_La_law_516 : decode code 516 = .ok (.ifCond .eq 5, 3) := by decide +kernel
theorem d_La_law_519 : decode code 519 = .ok (.iconst 0, 1) := by decide +kernel
theorem d_La_law_520 : decode code 520 = .ok (.ireturn, 1) := by decide +kernel
theorem d_La_law_521 : decode code 521 = .ok (.goto 1006, 3) := by decide +kernel
theorem d_La_law_524 : decode code 524 = .ok (.aload_n 1, 1) := by decide +kernel
theorem d_La_law_525 : decode code 525 = .ok (.aload_n 0, 1) := by decide +kernel
theorem d_La_law_526 : decode code 526 = .ok (.iload 4, 2) := by decide +kernel
theorem d_La_law_528 : decode code 528 = .ok (.iconst 1, 1) := by decide +kernel
theorem d_La_law_529 : decode code 529 = .ok (.iadd, 1) := by decide +kernel
theorem d_La_law_530 : decode code 530 = .ok (.iaload, 1) := by decide +kernel
theorem d_La_law_531 : decode code 531 = .ok (.aload_n 0, 1) := by decide +kernel
theorem d_La_law_532 : decode code 532 = .ok (.iload 4, 2) := by decide +kernel
theorem d_La_law_534 : decode code 534 = .ok (.iconst 2, 1) := by decide +kernel
theorem d_La_law_535 : decode code 535 = .ok (.iadd, 1) := by decide +kernel
theorem d_La_law_536 : decode code 536 = .ok (.iaload, 1) := by decide +kernel
theorem d_La_law_537 : decode code 537 = .ok (.aload_n 0, 1) := by decide +kernel
theorem d_La_law_538 : decode code 538 = .ok (.iload 4, 2) := by decide +kernel
theorem d_La_law_540 : decode code 540 = .ok (.iconst 3, 1) := by decide +kernel
theorem d_La_law_541 : decode code 541 = .ok (.iadd, 1) := by decide +kernel
theorem d_La_law_542 : decode code 542 = .ok (.iaload, 1) := by decide +kernel
theorem d_La_law_543 : decode code 543 = .ok (.aload_n 3, 1) := by decide +kernel
theorem d_La_law_544 : decode code 544 = .ok (.invokestatic 110, 3) := by decide +kernel
theorem d_La_law_547 : decode code 547 = .ok (.istore 5, 2) := by decide +kernel
theorem d_La_law_549 : decode code 549 = .ok (.aload_n 2, 1) := by decide +kernel
theorem d_La_law_550 : decode code 550 = .ok (.aload_n 0, 1) := by decide +kernel
theorem d_La_law_551 : decode code 551 = .ok (.iload 4, 2) := by decide +kernel
theorem d_La_law_553 : decode code 553 = .ok (.iconst 1, 1) := by decide +kernel
theorem d_La_law_554 : decode code 554 = .ok (.iadd, 1) := by decide +kernel
theorem d_La_law_555 : decode code 555 = .ok (.iaload, 1) := by decide +kernel
theorem d_La_law_556 : decode code 556 = .ok (.aload_n 0, 1) := by decide +kernel
theorem d_La_law_557 : decode code 557 = .ok (.iload 4, 2) := by decide +kernel
theorem d_La_law_559 : decode code 559 = .ok (.iconst 2, 1) := by decide +kernel
theorem d_La_law_560 : decode code 560 = .ok (.iadd, 1) := by decide +kernel
theorem d_La_law_561 : decode code 561 = .ok (.iaload, 1) := by decide +kernel
theorem d_La_law_562 : decode code 562 = .ok (.aload_n 0, 1) := by decide +kernel
theorem d_La_law_563 : decode code 563 = .ok (.iload 4, 2) := by decide +kernel
theorem d_La_law_565 : decode code 565 = .ok (.iconst 3, 1) := by decide +kernel
theorem d_La_law_566 : decode code 566 = .ok (.iadd, 1) := by decide +kernel
theorem d_La_law_567 : decode code 567 = .ok (.iaload, 1) := by decide +kernel
theorem d_La_law_568 : decode code 568 = .ok (.invokevirtual 112, 3) := by decide +kernel
theorem d_La_law_571 : decode code 571 = .ok (.lstore 6, 2) := by decide +kernel
theorem d_La_law_573 : decode code 573 = .ok (.aload_n 2, 1) := by decide +kernel
theorem d_La_law_574 : decode code 574 = .ok (.invokevirtual 92, 3) := by decide +kernel
theorem d_La_law_577 : decode code 577 = .ok (.iload 5, 2) := by decide +kernel
theorem d_La_law_579 : decode code 579 = .ok (.if_icmp .eq 5, 3) := by decide +kernel
theorem d_La_law_582 : decode code 582 = .ok (.iconst 0, 1) := by decide +kernel
theorem d_La_law_583 : decode code 583 = .ok (.ireturn, 1) := by decide +kernel
theorem d_La_law_584 : decode code 584 = .ok (.iload 5, 2) := by decide +kernel
theorem d_La_law_586 : decode code 586 = .ok (.ifCond .ne 14, 3) := by decide +kernel
theorem d_La_law_589 : decode code 589 = .ok (.aload_n 3, 1) := by decide +kernel
theorem d_La_law_590 : decode code 590 = .ok (.iconst 0, 1) := by decide +kernel
theorem d_La_law_591 : decode code 591 = .ok (.laload, 1) := by decide +kernel
theorem d_La_law_592 : decode code 592 = .ok (.lload 6, 2) := by decide +kernel
theorem d_La_law_594 : decode code 594 = .ok (.lcmp, 1) := by decide +kernel
theorem d_La_law_595 : decode code 595 = .ok (.ifCond .eq 5, 3) := by decide +kernel
theorem d_La_law_598 : decode code 598 = .ok (.iconst 0, 1) := by decide +kernel
theorem d_La_law_599 : decode code 599 = .ok (.ireturn, 1) := by decide +kernel
theorem d_La_law_600 : decode code 600 = .ok (.goto 927, 3) := by decide +kernel
theorem d_La_law_603 : decode code 603 = .ok (.aload_n 1, 1) := by decide +kernel
theorem d_La_law_604 : decode code 604 = .ok (.aload_n 0, 1) := by decide +kernel
theorem d_La_law_605 : decode code 605 = .ok (.iload 4, 2) := by decide +kernel
theorem d_La_law_607 : decode code 607 = .ok (.iconst 1, 1) := by decide +kernel
theorem d_La_law_608 : decode code 608 = .ok (.iadd, 1) := by decide +kernel
theorem d_La_law_609 : decode code 609 = .ok (.iaload, 1) := by decide +kernel
theorem d_La_law_610 : decode code 610 = .ok (.aload_n 0, 1) := by decide +kernel
theorem d_La_law_611 : decode code 611 = .ok (.iload 4, 2) := by decide +kernel
theorem d_La_law_613 : decode code 613 = .ok (.iconst 2, 1) := by decide +kernel
theorem d_La_law_614 : decode code 614 = .ok (.iadd, 1) := by decide +kernel
theorem d_La_law_615 : decode code 615 = .ok (.iaload, 1) := by decide +kernel
theorem d_La_law_616 : decode code 616 = .ok (.aload_n 3, 1) := by decide +kernel
theorem d_La_law_617 : decode code 617 = .ok (.invokestatic 113, 3) := by decide +kernel
theorem d_La_law_620 : decode code 620 = .ok (.istore 5, 2) := by decide +kernel
theorem d_La_law_622 : decode code 622 = .ok (.aload_n 2, 1) := by decide +kernel
theorem d_La_law_623 : decode code 623 = .ok (.aload_n 0, 1) := by decide +kernel
theorem d_La_law_624 : decode code 624 = .ok (.iload 4, 2) := by decide +kernel
theorem d_La_law_626 : decode code 626 = .ok (.iconst 1, 1) := by decide +kernel
theorem d_La_law_627 : decode code 627 = .ok (.iadd, 1) := by decide +kernel
theorem d_La_law_628 : decode code 628 = .ok (.iaload, 1) := by decide +kernel
