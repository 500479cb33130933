theorem wd_K_law_452 : decode code 452 = .ok (.goto 269, 3) := by decide +kernel
theorem wd_K_law_455 : decode code 455 = .ok (.aload_n 1, 1) := by decide +kernel
theorem wd_K_law_456 : decode code 456 = .ok (.aload_n 0, 1) := by decide +kernel
theorem wd_K_law_457 : decode code 457 = .ok (.iload 4, 2) := by decide +kernel
theorem wd_K_law_459 : decode code 459 = .ok (.iconst 1, 1) := by decide +kernel
theorem wd_K_law_460 : decode code 460 = .ok (.iadd, 1) := by decide +kernel
theorem wd_K_law_461 : decode code 461 = .ok (.iaload, 1) := by decide +kernel
theorem wd_K_law_462 : decode code 462 = .ok (.aload_n 3, 1) := by decide +kernel
theorem wd_K_law_463 : decode code 463 = .ok (.invokestatic 100, 3) := by decide +kernel
theorem wd_K_law_466 : decode code 466 = .ok (.istore 5, 2) := by decide +kernel
theorem wd_K_law_468 : decode code 468 = .ok (.aload_n 2, 1) := by decide +kernel
theorem wd_K_law_469 : decode code 469 = .ok (.aload_n 0, 1) := by decide +kernel
theorem wd_K_law_470 : decode code 470 = .ok (.iload 4, 2) := by decide +kernel
theorem wd_K_law_472 : decode code 472 = .ok (.iconst 1, 1) := by decide +kernel
theorem wd_K_law_473 : decode code 473 = .ok (.iadd, 1) := by decide +kernel
theorem wd_K_law_474 : decode code 474 = .ok (.iaload, 1) := by decide +kernel
theorem wd_K_law_475 : decode code 475 = .ok (.invokevirtual 103, 3) := by decide +kernel
theorem wd_K_law_478 : decode code 478 = .ok (.istore 6, 2) := by decide +kernel
theorem wd_K_law_480 : decode code 480 = .ok (.goto 241, 3) := by decide +kernel
theorem wd_K_law_483 : decode code 483 = .ok (.aload_n 1, 1) := by decide +kernel
theorem wd_K_law_484 : decode code 484 = .ok (.aload_n 3, 1) := by decide +kernel
theorem wd_K_law_485 : decode code 485 = .ok (.invokestatic 104, 3) := by decide +kernel
theorem wd_K_law_488 : decode code 488 = .ok (.istore 5, 2) := by decide +kernel
theorem wd_K_law_490 : decode code 490 = .ok (.aload_n 2, 1) := by decide +kernel
theorem wd_K_law_491 : decode code 491 = .ok (.invokevirtual 107, 3) := by decide +kernel
theorem wd_K_law_494 : decode code 494 = .ok (.istore 6, 2) := by decide +kernel
theorem wd_K_law_496 : decode code 496 = .ok (.goto 225, 3) := by decide +kernel
theorem wd_K_law_499 : decode code 499 = .ok (.aload_n 1, 1) := by decide +kernel
theorem wd_K_law_500 : decode code 500 = .ok (.aload_n 0, 1) := by decide +kernel
theorem wd_K_law_501 : decode code 501 = .ok (.iload 4, 2) := by decide +kernel
theorem wd_K_law_503 : decode code 503 = .ok (.iconst 1, 1) := by decide +kernel
theorem wd_K_law_504 : decode code 504 = .ok (.iadd, 1) := by decide +kernel
theorem wd_K_law_505 : decode code 505 = .ok (.iaload, 1) := by decide +kernel
theorem wd_K_law_506 : decode code 506 = .ok (.aload_n 3, 1) := by decide +kernel
theorem wd_K_law_507 : decode code 507 = .ok (.invokestatic 108, 3) := by decide +kernel
theorem wd_K_law_510 : decode code 510 = .ok (.istore 5, 2) := by decide +kernel
theorem wd_K_law_512 : decode code 512 = .ok (.aload_n 2, 1) := by decide +kernel
theorem wd_K_law_513 : decode code 513 = .ok (.aload_n 0, 1) := by decide +kernel
theorem wd_K_law_514 : decode code 514 = .ok (.iload 4, 2) := by decide +kernel
theorem wd_K_law_516 : decode code 516 = .ok (.iconst 1, 1) := by decide +kernel
theorem wd_K_law_517 : decode code 517 = .ok (.iadd, 1) := by decide +kernel
theorem wd_K_law_518 : decode code 518 = .ok (.iaload, 1) := by decide +kernel
theorem wd_K_law_519 : decode code 519 = .ok (.invokevirtual 110, 3) := by decide +kernel
theorem wd_K_law_522 : decode code 522 = .ok (.istore 6, 2) := by decide +kernel
theorem wd_K_law_524 : decode code 524 = .ok (.goto 197, 3) := by decide +kernel
theorem wd_K_law_527 : decode code 527 = .ok (.aload_n 1, 1) := by decide +kernel
theorem wd_K_law_528 : decode code 528 = .ok (.aload_n 0, 1) := by decide +kernel
theorem wd_K_law_529 : decode code 529 = .ok (.iload 4, 2) := by decide +kernel
theorem wd_K_law_531 : decode code 531 = .ok (.iconst 1, 1) := by decide +kernel
theorem wd_K_law_532 : decode code 532 = .ok (.iadd, 1) := by decide +kernel
theorem wd_K_law_533 : decode code 533 = .ok (.iaload, 1) := by decide +kernel
theorem wd_K_law_534 : decode code 534 = .ok (.aload_n 3, 1) := by decide +kernel
theorem wd_K_law_535 : decode code 535 = .ok (.invokestatic 111, 3) := by decide +kernel
theorem wd_K_law_538 : decode code 538 = .ok (.istore 5, 2) := by decide +kernel
theorem wd_K_law_540 : decode code 540 = .ok (.aload_n 2, 1) := by decide +kernel
theorem wd_K_law_541 : decode code 541 = .ok (.aload_n 0, 1) := by decide +kernel
theorem wd_K_law_542 : decode code 542 = .ok (.iload 4, 2) := by decide +kernel
theorem wd_K_law_544 : decode code 544 = .ok (.iconst 1, 1) := by decide +kernel
theorem wd_K_law_545 : decode code 545 = .ok (.iadd, 1) := by decide +kernel
theorem wd_K_law_546 : decode code 546 = .ok (.iaload, 1) := by decide +kernel
theorem wd_K_law_547 : decode code 547 = .ok (.invokevirtual 113, 3) := by decide +kernel
theorem wd_K_law_550 : decode code 550 = .ok (.istore 6, 2) := by decide +kernel
theorem wd_K_law_552 : decode code 552 = .ok (.goto 169, 3) := by decide +kernel
theorem wd_K_law_555 : decode code 555 = .ok (.aload_n 1, 1) := by decide +kernel
theorem wd_K_law_556 : decode code 556 = .ok (.aload_n 0, 1) := by decide +kernel
theorem wd_K_law_557 : decode code 557 = .ok (.iload 4, 2) := by decide +kernel
theorem wd_K_law_559 : decode code 559 = .ok (.iconst 1, 1) := by decide +kernel
theorem wd_K_law_560 : decode code 560 = .ok (.iadd, 1) := by decide +kernel
theorem wd_K_law_561 : decode code 561 = .ok (.iaload, 1) := by decide +kernel
theorem wd_K_law_562 : decode code 562 = .ok (.aload_n 3, 1) := by decide +kernel
theorem wd_K_law_563 : decode code 563 = .ok (.invokestatic 114, 3) := by decide +kernel
theorem wd_K_law_566 : decode code 566 = .ok (.istore 5, 2) := by decide +kernel
theorem wd_K_law_568 : decode code 568 = .ok (.aload_n 2, 1) := by decide +kernel
theorem wd_K_law_569 : decode code 569 = .ok (.aload_n 0, 1) := by decide +kernel
theorem wd_K_law_570 : decode code 570 = .ok (.iload 4, 2) := by decide +kernel
theorem wd_K_law_572 : decode code 572 = .ok (.iconst 1, 1) := by decide +kernel
theorem wd_K_law_573 : decode code 573 = .ok (.iadd, 1) := by decide +kernel
theorem wd_K_law_574 : decode code 574 = .ok (.iaload, 1) := by decide +kernel
theorem wd_K_law_575 : decode code 575 = .ok (.invokevirtual 116, 3) := by decide +kernel
theorem wd_K_law_578 : decode code 578 = .ok (.istore 6, 2) := by decide +kernel
theorem wd_K_law_580 : decode code 580 = .ok (.goto 141, 3) := by decide +kernel
theorem wd_K_law_583 : decode code 583 = .ok (.aload_n 1, 1) := by decide +kernel
theorem wd_K_law_584 : decode code 584 = .ok (.aload_n 0, 1) := by decide +kernel
theorem wd_K_law_585 : decode code 585 = .ok (.iload 4, 2) := by decide +kernel
theorem wd_K_law_587 : decode code 587 = .ok (.iconst 1, 1) := by decide +kernel
theorem wd_K_law_588 : decode code 588 = .ok (.iadd, 1) := by decide +kernel
theorem wd_K_law_589 : decode code 589 = .ok (.iaload, 1) := by decide +kernel
theorem wd_K_law_590 : decode code 590 = .ok (.aload_n 0, 1) := by decide +kernel
theorem wd_K_law_591 : decode code 591 = .ok (.iload 4, 2) := by decide +kernel
theorem wd_K_law_593 : decode code 593 = .ok (.iconst 2, 1) := by decide +kernel
theorem wd_K_law_594 : decode code 594 = .ok (.iadd, 1) := by decide +kernel
theorem wd_K_law_595 : decode code 595 = .ok (.iaload, 1) := by decide +kernel
theorem wd_K_law_596 : decode code 596 = .ok (.aload_n 3, 1) := by decide +kernel
theorem wd_K_law_597 : decode code 597 = .ok (.invokestatic 117, 3) := by decide +kernel
theorem wd_K_law_600 : decode code 600 = .ok (.istore 5, 2) := by decide +kernel
theorem wd_K_law_602 : decode code 602 = .ok (.aload_n 2, 1) := by decide +kernel
theorem wd_K_law_603 : decode code 603 = .ok (.aload_n 0, 1) := by decide +kernel
theorem wd_K_law_604 : decode code 604 = .ok (.iload 4, 2) := by decide +kernel
theorem wd_K_law_606 : decode code 606 = .ok (.iconst 1, 1) := by decide +kernel
theorem wd_K_law_607 : decode code 607 = .ok (.iadd, 1) := by decide +kernel
theorem wd_K_law_608 : decode code 608 = .ok (.iaload, 1) := by decide +kernel
theorem wd_K_law_609 : decode code 609 = .ok (.aload_n 0, 1) := by decide +kernel
theorem wd_K_law_610 : decode code 610 = .ok (.iload 4, 2) := by decide +kernel
theorem wd_K_law_612 : decode code 612 = .ok (.iconst 2, 1) := by decide +kernel
theorem wd_K_law_613 : decode code 613 = .ok (.iadd, 1) := by decide +kernel
theorem wd_K_law_614 : decode code 614 = .ok (.iaload, 1) := by decide +kernel
theorem wd_K_law_615 : decode code 615 = .ok (.invokevirtual 120, 3) := by decide +kernel
theorem wd_K_law_618 : decode code 618 = .ok (.istore 6, 2) := by decide +kernel
theorem wd_K_law_620 : decode code 620 = .ok (.goto 101, 3) := by decide +kernel
theorem wd_K_law_623 : decode code 623 = .ok (.aload_n 1, 1) := by decide +kernel
theorem wd_K_law_624 : decode code 624 = .ok (.invokevirtual 121, 3) := by decide +kernel
theorem wd_K_law_627 : decode code 627 = .ok (.pop, 1) := by decide +kernel
theorem wd_K_law_628 : decode code 628 = .ok (.aload_n 2, 1) := by decide +kernel
theorem wd_K_law_629 : decode code 629 = .ok (.invokevirtual 124, 3) := by decide +kernel
theorem wd_K_law_632 : decode code 632 = .ok (.pop, 1) := by decide +kernel
theorem wd_K_law_633 : decode code 633 = .ok (.goto 88, 3) := by decide +kernel
theorem wd_K_law_636 : decode code 636 = .ok (.aload_n 1, 1) := by decide +kernel
theorem wd_K_law_637 : decode code 637 = .ok (.aload_n 0, 1) := by decide +kernel
theorem wd_K_law_638 : decode code 638 = .ok (.iload 4, 2) := by decide +kernel
theorem wd_K_law_640 : decode code 640 = .ok (.iconst 1, 1) := by decide +kernel
theorem wd_K_law_641 : decode code 641 = .ok (.iadd, 1) := by decide +kernel
theorem wd_K_law_642 : decode code 642 = .ok (.iaload, 1) := by decide +kernel
theorem wd_K_law_643 : decode code 643 = .ok (.i2l, 1) := by decide +kernel
theorem wd_K_law_644 : decode code 644 = .ok (.bipush 32, 2) := by decide +kernel
theorem wd_K_law_646 : decode code 646 = .ok (.lshl, 1) := by decide +kernel
theorem wd_K_law_647 : decode code 647 = .ok (.aload_n 0, 1) := by decide +kernel
theorem wd_K_law_648 : decode code 648 = .ok (.iload 4, 2) := by decide +kernel
theorem wd_K_law_650 : decode code 650 = .ok (.iconst 2, 1) := by decide +kernel
theorem wd_K_law_651 : decode code 651 = .ok (.iadd, 1) := by decide +kernel
theorem wd_K_law_652 : decode code 652 = .ok (.iaload, 1) := by decide +kernel
