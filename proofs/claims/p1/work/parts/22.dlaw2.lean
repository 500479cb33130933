theorem wd_K_law_469 : decode code 469 = .ok (.goto 562, 3) := by decide +kernel
theorem wd_K_law_472 : decode code 472 = .ok (.aload_n 1, 1) := by decide +kernel
theorem wd_K_law_473 : decode code 473 = .ok (.aload_n 0, 1) := by decide +kernel
theorem wd_K_law_474 : decode code 474 = .ok (.iload 4, 2) := by decide +kernel
theorem wd_K_law_476 : decode code 476 = .ok (.iconst 1, 1) := by decide +kernel
theorem wd_K_law_477 : decode code 477 = .ok (.iadd, 1) := by decide +kernel
theorem wd_K_law_478 : decode code 478 = .ok (.iaload, 1) := by decide +kernel
theorem wd_K_law_479 : decode code 479 = .ok (.aload_n 0, 1) := by decide +kernel
theorem wd_K_law_480 : decode code 480 = .ok (.iload 4, 2) := by decide +kernel
theorem wd_K_law_482 : decode code 482 = .ok (.iconst 2, 1) := by decide +kernel
theorem wd_K_law_483 : decode code 483 = .ok (.iadd, 1) := by decide +kernel
theorem wd_K_law_484 : decode code 484 = .ok (.iaload, 1) := by decide +kernel
theorem wd_K_law_485 : decode code 485 = .ok (.aload_n 0, 1) := by decide +kernel
theorem wd_K_law_486 : decode code 486 = .ok (.iload 4, 2) := by decide +kernel
theorem wd_K_law_488 : decode code 488 = .ok (.iconst 3, 1) := by decide +kernel
theorem wd_K_law_489 : decode code 489 = .ok (.iadd, 1) := by decide +kernel
theorem wd_K_law_490 : decode code 490 = .ok (.iaload, 1) := by decide +kernel
theorem wd_K_law_491 : decode code 491 = .ok (.aload_n 0, 1) := by decide +kernel
theorem wd_K_law_492 : decode code 492 = .ok (.iload 4, 2) := by decide +kernel
theorem wd_K_law_494 : decode code 494 = .ok (.iconst 4, 1) := by decide +kernel
theorem wd_K_law_495 : decode code 495 = .ok (.iadd, 1) := by decide +kernel
theorem wd_K_law_496 : decode code 496 = .ok (.iaload, 1) := by decide +kernel
theorem wd_K_law_497 : decode code 497 = .ok (.invokestatic 96, 3) := by decide +kernel
theorem wd_K_law_500 : decode code 500 = .ok (.istore 5, 2) := by decide +kernel
theorem wd_K_law_502 : decode code 502 = .ok (.aload_n 2, 1) := by decide +kernel
theorem wd_K_law_503 : decode code 503 = .ok (.aload_n 0, 1) := by decide +kernel
theorem wd_K_law_504 : decode code 504 = .ok (.iload 4, 2) := by decide +kernel
theorem wd_K_law_506 : decode code 506 = .ok (.iconst 1, 1) := by decide +kernel
theorem wd_K_law_507 : decode code 507 = .ok (.iadd, 1) := by decide +kernel
theorem wd_K_law_508 : decode code 508 = .ok (.iaload, 1) := by decide +kernel
theorem wd_K_law_509 : decode code 509 = .ok (.aload_n 0, 1) := by decide +kernel
theorem wd_K_law_510 : decode code 510 = .ok (.iload 4, 2) := by decide +kernel
theorem wd_K_law_512 : decode code 512 = .ok (.iconst 2, 1) := by decide +kernel
theorem wd_K_law_513 : decode code 513 = .ok (.iadd, 1) := by decide +kernel
theorem wd_K_law_514 : decode code 514 = .ok (.iaload, 1) := by decide +kernel
theorem wd_K_law_515 : decode code 515 = .ok (.aload_n 0, 1) := by decide +kernel
theorem wd_K_law_516 : decode code 516 = .ok (.iload 4, 2) := by decide +kernel
theorem wd_K_law_518 : decode code 518 = .ok (.iconst 3, 1) := by decide +kernel
theorem wd_K_law_519 : decode code 519 = .ok (.iadd, 1) := by decide +kernel
theorem wd_K_law_520 : decode code 520 = .ok (.iaload, 1) := by decide +kernel
theorem wd_K_law_521 : decode code 521 = .ok (.aload_n 0, 1) := by decide +kernel
theorem wd_K_law_522 : decode code 522 = .ok (.iload 4, 2) := by decide +kernel
theorem wd_K_law_524 : decode code 524 = .ok (.iconst 4, 1) := by decide +kernel
theorem wd_K_law_525 : decode code 525 = .ok (.iadd, 1) := by decide +kernel
theorem wd_K_law_526 : decode code 526 = .ok (.iaload, 1) := by decide +kernel
theorem wd_K_law_527 : decode code 527 = .ok (.invokevirtual 99, 3) := by decide +kernel
theorem wd_K_law_530 : decode code 530 = .ok (.aload_n 2, 1) := by decide +kernel
theorem wd_K_law_531 : decode code 531 = .ok (.invokevirtual 78, 3) := by decide +kernel
theorem wd_K_law_534 : decode code 534 = .ok (.iload 5, 2) := by decide +kernel
theorem wd_K_law_536 : decode code 536 = .ok (.if_icmp .eq 5, 3) := by decide +kernel
theorem wd_K_law_539 : decode code 539 = .ok (.iconst 0, 1) := by decide +kernel
theorem wd_K_law_540 : decode code 540 = .ok (.ireturn, 1) := by decide +kernel
theorem wd_K_law_541 : decode code 541 = .ok (.goto 490, 3) := by decide +kernel
theorem wd_K_law_544 : decode code 544 = .ok (.aload_n 1, 1) := by decide +kernel
theorem wd_K_law_545 : decode code 545 = .ok (.aload_n 0, 1) := by decide +kernel
theorem wd_K_law_546 : decode code 546 = .ok (.iload 4, 2) := by decide +kernel
theorem wd_K_law_548 : decode code 548 = .ok (.iconst 1, 1) := by decide +kernel
theorem wd_K_law_549 : decode code 549 = .ok (.iadd, 1) := by decide +kernel
theorem wd_K_law_550 : decode code 550 = .ok (.iaload, 1) := by decide +kernel
theorem wd_K_law_551 : decode code 551 = .ok (.aload_n 3, 1) := by decide +kernel
theorem wd_K_law_552 : decode code 552 = .ok (.invokestatic 100, 3) := by decide +kernel
theorem wd_K_law_555 : decode code 555 = .ok (.istore 5, 2) := by decide +kernel
theorem wd_K_law_557 : decode code 557 = .ok (.aload_n 2, 1) := by decide +kernel
theorem wd_K_law_558 : decode code 558 = .ok (.aload_n 0, 1) := by decide +kernel
theorem wd_K_law_559 : decode code 559 = .ok (.iload 4, 2) := by decide +kernel
theorem wd_K_law_561 : decode code 561 = .ok (.iconst 1, 1) := by decide +kernel
theorem wd_K_law_562 : decode code 562 = .ok (.iadd, 1) := by decide +kernel
theorem wd_K_law_563 : decode code 563 = .ok (.iaload, 1) := by decide +kernel
theorem wd_K_law_564 : decode code 564 = .ok (.invokevirtual 103, 3) := by decide +kernel
theorem wd_K_law_567 : decode code 567 = .ok (.istore 6, 2) := by decide +kernel
theorem wd_K_law_569 : decode code 569 = .ok (.aload_n 2, 1) := by decide +kernel
theorem wd_K_law_570 : decode code 570 = .ok (.invokevirtual 78, 3) := by decide +kernel
theorem wd_K_law_573 : decode code 573 = .ok (.iload 5, 2) := by decide +kernel
theorem wd_K_law_575 : decode code 575 = .ok (.if_icmp .eq 5, 3) := by decide +kernel
theorem wd_K_law_578 : decode code 578 = .ok (.iconst 0, 1) := by decide +kernel
theorem wd_K_law_579 : decode code 579 = .ok (.ireturn, 1) := by decide +kernel
theorem wd_K_law_580 : decode code 580 = .ok (.iload 5, 2) := by decide +kernel
theorem wd_K_law_582 : decode code 582 = .ok (.ifCond .ne 15, 3) := by decide +kernel
theorem wd_K_law_585 : decode code 585 = .ok (.aload_n 3, 1) := by decide +kernel
theorem wd_K_law_586 : decode code 586 = .ok (.iconst 0, 1) := by decide +kernel
theorem wd_K_law_587 : decode code 587 = .ok (.laload, 1) := by decide +kernel
theorem wd_K_law_588 : decode code 588 = .ok (.iload 6, 2) := by decide +kernel
theorem wd_K_law_590 : decode code 590 = .ok (.i2l, 1) := by decide +kernel
theorem wd_K_law_591 : decode code 591 = .ok (.lcmp, 1) := by decide +kernel
theorem wd_K_law_592 : decode code 592 = .ok (.ifCond .eq 5, 3) := by decide +kernel
theorem wd_K_law_595 : decode code 595 = .ok (.iconst 0, 1) := by decide +kernel
theorem wd_K_law_596 : decode code 596 = .ok (.ireturn, 1) := by decide +kernel
theorem wd_K_law_597 : decode code 597 = .ok (.goto 434, 3) := by decide +kernel
theorem wd_K_law_600 : decode code 600 = .ok (.aload_n 1, 1) := by decide +kernel
theorem wd_K_law_601 : decode code 601 = .ok (.aload_n 3, 1) := by decide +kernel
theorem wd_K_law_602 : decode code 602 = .ok (.invokestatic 104, 3) := by decide +kernel
theorem wd_K_law_605 : decode code 605 = .ok (.istore 5, 2) := by decide +kernel
theorem wd_K_law_607 : decode code 607 = .ok (.aload_n 2, 1) := by decide +kernel
theorem wd_K_law_608 : decode code 608 = .ok (.invokevirtual 107, 3) := by decide +kernel
theorem wd_K_law_611 : decode code 611 = .ok (.istore 6, 2) := by decide +kernel
theorem wd_K_law_613 : decode code 613 = .ok (.aload_n 2, 1) := by decide +kernel
theorem wd_K_law_614 : decode code 614 = .ok (.invokevirtual 78, 3) := by decide +kernel
theorem wd_K_law_617 : decode code 617 = .ok (.iload 5, 2) := by decide +kernel
theorem wd_K_law_619 : decode code 619 = .ok (.if_icmp .eq 5, 3) := by decide +kernel
theorem wd_K_law_622 : decode code 622 = .ok (.iconst 0, 1) := by decide +kernel
theorem wd_K_law_623 : decode code 623 = .ok (.ireturn, 1) := by decide +kernel
theorem wd_K_law_624 : decode code 624 = .ok (.iload 5, 2) := by decide +kernel
theorem wd_K_law_626 : decode code 626 = .ok (.ifCond .ne 22, 3) := by decide +kernel
theorem wd_K_law_629 : decode code 629 = .ok (.aload_n 3, 1) := by decide +kernel
theorem wd_K_law_630 : decode code 630 = .ok (.iconst 0, 1) := by decide +kernel
theorem wd_K_law_631 : decode code 631 = .ok (.laload, 1) := by decide +kernel
theorem wd_K_law_632 : decode code 632 = .ok (.iload 6, 2) := by decide +kernel
theorem wd_K_law_634 : decode code 634 = .ok (.ifCond .eq 7, 3) := by decide +kernel
theorem wd_K_law_637 : decode code 637 = .ok (.lconst 1, 1) := by decide +kernel
theorem wd_K_law_638 : decode code 638 = .ok (.goto 4, 3) := by decide +kernel
theorem wd_K_law_641 : decode code 641 = .ok (.lconst 0, 1) := by decide +kernel
theorem wd_K_law_642 : decode code 642 = .ok (.lcmp, 1) := by decide +kernel
theorem wd_K_law_643 : decode code 643 = .ok (.ifCond .eq 5, 3) := by decide +kernel
theorem wd_K_law_646 : decode code 646 = .ok (.iconst 0, 1) := by decide +kernel
theorem wd_K_law_647 : decode code 647 = .ok (.ireturn, 1) := by decide +kernel
theorem wd_K_law_648 : decode code 648 = .ok (.goto 383, 3) := by decide +kernel
theorem wd_K_law_651 : decode code 651 = .ok (.aload_n 1, 1) := by decide +kernel
theorem wd_K_law_652 : decode code 652 = .ok (.aload_n 0, 1) := by decide +kernel
theorem wd_K_law_653 : decode code 653 = .ok (.iload 4, 2) := by decide +kernel
theorem wd_K_law_655 : decode code 655 = .ok (.iconst 1, 1) := by decide +kernel
theorem wd_K_law_656 : decode code 656 = .ok (.iadd, 1) := by decide +kernel
theorem wd_K_law_657 : decode code 657 = .ok (.iaload, 1) := by decide +kernel
theorem wd_K_law_658 : decode code 658 = .ok (.aload_n 3, 1) := by decide +kernel
theorem wd_K_law_659 : decode code 659 = .ok (.invokestatic 108, 3) := by decide +kernel
theorem wd_K_law_662 : decode code 662 = .ok (.istore 5, 2) := by decide +kernel
theorem wd_K_law_664 : decode code 664 = .ok (.aload_n 2, 1) := by decide +kernel
theorem wd_K_law_665 : decode code 665 = .ok (.aload_n 0, 1) := by decide +kernel
theorem wd_K_law_666 : decode code 666 = .ok (.iload 4, 2) := by decide +kernel
theorem wd_K_law_668 : decode code 668 = .ok (.iconst 1, 1) := by decide +kernel
theorem wd_K_law_669 : decode code 669 = .ok (.iadd, 1) := by decide +kernel
