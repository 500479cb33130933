theorem wd_K_law_452 : decode code 452 = .ok (.aload_n 0, 1) := by decide +kernel
theorem wd_K_law_453 : decode code 453 = .ok (.iload 4, 2) := by decide +kernel
theorem wd_K_law_455 : decode code 455 = .ok (.iconst 1, 1) := by decide +kernel
theorem wd_K_law_456 : decode code 456 = .ok (.iadd, 1) := by decide +kernel
theorem wd_K_law_457 : decode code 457 = .ok (.iaload, 1) := by decide +kernel
theorem wd_K_law_458 : decode code 458 = .ok (.invokevirtual 103, 3) := by decide +kernel
theorem wd_K_law_461 : decode code 461 = .ok (.istore 6, 2) := by decide +kernel
theorem wd_K_law_463 : decode code 463 = .ok (.goto 241, 3) := by decide +kernel
theorem wd_K_law_466 : decode code 466 = .ok (.aload_n 1, 1) := by decide +kernel
theorem wd_K_law_467 : decode code 467 = .ok (.aload_n 3, 1) := by decide +kernel
theorem wd_K_law_468 : decode code 468 = .ok (.invokestatic 104, 3) := by decide +kernel
theorem wd_K_law_471 : decode code 471 = .ok (.istore 5, 2) := by decide +kernel
theorem wd_K_law_473 : decode code 473 = .ok (.aload_n 2, 1) := by decide +kernel
theorem wd_K_law_474 : decode code 474 = .ok (.invokevirtual 107, 3) := by decide +kernel
theorem wd_K_law_477 : decode code 477 = .ok (.istore 6, 2) := by decide +kernel
theorem wd_K_law_479 : decode code 479 = .ok (.goto 225, 3) := by decide +kernel
theorem wd_K_law_482 : decode code 482 = .ok (.aload_n 1, 1) := by decide +kernel
theorem wd_K_law_483 : decode code 483 = .ok (.aload_n 0, 1) := by decide +kernel
theorem wd_K_law_484 : decode code 484 = .ok (.iload 4, 2) := by decide +kernel
theorem wd_K_law_486 : decode code 486 = .ok (.iconst 1, 1) := by decide +kernel
theorem wd_K_law_487 : decode code 487 = .ok (.iadd, 1) := by decide +kernel
theorem wd_K_law_488 : decode code 488 = .ok (.iaload, 1) := by decide +kernel
theorem wd_K_law_489 : decode code 489 = .ok (.aload_n 3, 1) := by decide +kernel
theorem wd_K_law_490 : decode code 490 = .ok (.invokestatic 108, 3) := by decide +kernel
theorem wd_K_law_493 : decode code 493 = .ok (.istore 5, 2) := by decide +kernel
theorem wd_K_law_495 : decode code 495 = .ok (.aload_n 2, 1) := by decide +kernel
theorem wd_K_law_496 : decode code 496 = .ok (.aload_n 0, 1) := by decide +kernel
theorem wd_K_law_497 : decode code 497 = .ok (.iload 4, 2) := by decide +kernel
theorem wd_K_law_499 : decode code 499 = .ok (.iconst 1, 1) := by decide +kernel
theorem wd_K_law_500 : decode code 500 = .ok (.iadd, 1) := by decide +kernel
theorem wd_K_law_501 : decode code 501 = .ok (.iaload, 1) := by decide +kernel
theorem wd_K_law_502 : decode code 502 = .ok (.invokevirtual 110, 3) := by decide +kernel
theorem wd_K_law_505 : decode code 505 = .ok (.istore 6, 2) := by decide +kernel
theorem wd_K_law_507 : decode code 507 = .ok (.goto 197, 3) := by decide +kernel
theorem wd_K_law_510 : decode code 510 = .ok (.aload_n 1, 1) := by decide +kernel
theorem wd_K_law_511 : decode code 511 = .ok (.aload_n 0, 1) := by decide +kernel
theorem wd_K_law_512 : decode code 512 = .ok (.iload 4, 2) := by decide +kernel
theorem wd_K_law_514 : decode code 514 = .ok (.iconst 1, 1) := by decide +kernel
theorem wd_K_law_515 : decode code 515 = .ok (.iadd, 1) := by decide +kernel
theorem wd_K_law_516 : decode code 516 = .ok (.iaload, 1) := by decide +kernel
theorem wd_K_law_517 : decode code 517 = .ok (.aload_n 3, 1) := by decide +kernel
theorem wd_K_law_518 : decode code 518 = .ok (.invokestatic 111, 3) := by decide +kernel
theorem wd_K_law_521 : decode code 521 = .ok (.istore 5, 2) := by decide +kernel
theorem wd_K_law_523 : decode code 523 = .ok (.aload_n 2, 1) := by decide +kernel
theorem wd_K_law_524 : decode code 524 = .ok (.aload_n 0, 1) := by decide +kernel
theorem wd_K_law_525 : decode code 525 = .ok (.iload 4, 2) := by decide +kernel
theorem wd_K_law_527 : decode code 527 = .ok (.iconst 1, 1) := by decide +kernel
theorem wd_K_law_528 : decode code 528 = .ok (.iadd, 1) := by decide +kernel
theorem wd_K_law_529 : decode code 529 = .ok (.iaload, 1) := by decide +kernel
theorem wd_K_law_530 : decode code 530 = .ok (.invokevirtual 113, 3) := by decide +kernel
theorem wd_K_law_533 : decode code 533 = .ok (.istore 6, 2) := by decide +kernel
theorem wd_K_law_535 : decode code 535 = .ok (.goto 169, 3) := by decide +kernel
theorem wd_K_law_538 : decode code 538 = .ok (.aload_n 1, 1) := by decide +kernel
theorem wd_K_law_539 : decode code 539 = .ok (.aload_n 0, 1) := by decide +kernel
theorem wd_K_law_540 : decode code 540 = .ok (.iload 4, 2) := by decide +kernel
theorem wd_K_law_542 : decode code 542 = .ok (.iconst 1, 1) := by decide +kernel
theorem wd_K_law_543 : decode code 543 = .ok (.iadd, 1) := by decide +kernel
theorem wd_K_law_544 : decode code 544 = .ok (.iaload, 1) := by decide +kernel
theorem wd_K_law_545 : decode code 545 = .ok (.aload_n 3, 1) := by decide +kernel
theorem wd_K_law_546 : decode code 546 = .ok (.invokestatic 114, 3) := by decide +kernel
theorem wd_K_law_549 : decode code 549 = .ok (.istore 5, 2) := by decide +kernel
theorem wd_K_law_551 : decode code 551 = .ok (.aload_n 2, 1) := by decide +kernel
theorem wd_K_law_552 : decode code 552 = .ok (.aload_n 0, 1) := by decide +kernel
theorem wd_K_law_553 : decode code 553 = .ok (.iload 4, 2) := by decide +kernel
theorem wd_K_law_555 : decode code 555 = .ok (.iconst 1, 1) := by decide +kernel
theorem wd_K_law_556 : decode code 556 = .ok (.iadd, 1) := by decide +kernel
theorem wd_K_law_557 : decode code 557 = .ok (.iaload, 1) := by decide +kernel
theorem wd_K_law_558 : decode code 558 = .ok (.invokevirtual 116, 3) := by decide +kernel
theorem wd_K_law_561 : decode code 561 = .ok (.istore 6, 2) := by decide +kernel
theorem wd_K_law_563 : decode code 563 = .ok (.goto 141, 3) := by decide +kernel
theorem wd_K_law_566 : decode code 566 = .ok (.aload_n 1, 1) := by decide +kernel
theorem wd_K_law_567 : decode code 567 = .ok (.aload_n 0, 1) := by decide +kernel
theorem wd_K_law_568 : decode code 568 = .ok (.iload 4, 2) := by decide +kernel
theorem wd_K_law_570 : decode code 570 = .ok (.iconst 1, 1) := by decide +kernel
theorem wd_K_law_571 : decode code 571 = .ok (.iadd, 1) := by decide +kernel
theorem wd_K_law_572 : decode code 572 = .ok (.iaload, 1) := by decide +kernel
theorem wd_K_law_573 : decode code 573 = .ok (.aload_n 0, 1) := by decide +kernel
theorem wd_K_law_574 : decode code 574 = .ok (.iload 4, 2) := by decide +kernel
theorem wd_K_law_576 : decode code 576 = .ok (.iconst 2, 1) := by decide +kernel
theorem wd_K_law_577 : decode code 577 = .ok (.iadd, 1) := by decide +kernel
theorem wd_K_law_578 : decode code 578 = .ok (.iaload, 1) := by decide +kernel
theorem wd_K_law_579 : decode code 579 = .ok (.aload_n 3, 1) := by decide +kernel
theorem wd_K_law_580 : decode code 580 = .ok (.invokestatic 117, 3) := by decide +kernel
theorem wd_K_law_583 : decode code 583 = .ok (.istore 5, 2) := by decide +kernel
theorem wd_K_law_585 : decode code 585 = .ok (.aload_n 2, 1) := by decide +kernel
theorem wd_K_law_586 : decode code 586 = .ok (.aload_n 0, 1) := by decide +kernel
theorem wd_K_law_587 : decode code 587 = .ok (.iload 4, 2) := by decide +kernel
theorem wd_K_law_589 : decode code 589 = .ok (.iconst 1, 1) := by decide +kernel
theorem wd_K_law_590 : decode code 590 = .ok (.iadd, 1) := by decide +kernel
theorem wd_K_law_591 : decode code 591 = .ok (.iaload, 1) := by decide +kernel
theorem wd_K_law_592 : decode code 592 = .ok (.aload_n 0, 1) := by decide +kernel
theorem wd_K_law_593 : decode code 593 = .ok (.iload 4, 2) := by decide +kernel
theorem wd_K_law_595 : decode code 595 = .ok (.iconst 2, 1) := by decide +kernel
theorem wd_K_law_596 : decode code 596 = .ok (.iadd, 1) := by decide +kernel
theorem wd_K_law_597 : decode code 597 = .ok (.iaload, 1) := by decide +kernel
theorem wd_K_law_598 : decode code 598 = .ok (.invokevirtual 120, 3) := by decide +kernel
theorem wd_K_law_601 : decode code 601 = .ok (.istore 6, 2) := by decide +kernel
theorem wd_K_law_603 : decode code 603 = .ok (.goto 101, 3) := by decide +kernel
theorem wd_K_law_606 : decode code 606 = .ok (.aload_n 1, 1) := by decide +kernel
theorem wd_K_law_607 : decode code 607 = .ok (.invokevirtual 121, 3) := by decide +kernel
theorem wd_K_law_610 : decode code 610 = .ok (.pop, 1) := by decide +kernel
theorem wd_K_law_611 : decode code 611 = .ok (.aload_n 2, 1) := by decide +kernel
theorem wd_K_law_612 : decode code 612 = .ok (.invokevirtual 124, 3) := by decide +kernel
theorem wd_K_law_615 : decode code 615 = .ok (.pop, 1) := by decide +kernel
theorem wd_K_law_616 : decode code 616 = .ok (.goto 88, 3) := by decide +kernel
theorem wd_K_law_619 : decode code 619 = .ok (.aload_n 1, 1) := by decide +kernel
theorem wd_K_law_620 : decode code 620 = .ok (.aload_n 0, 1) := by decide +kernel
theorem wd_K_law_621 : decode code 621 = .ok (.iload 4, 2) := by decide +kernel
theorem wd_K_law_623 : decode code 623 = .ok (.iconst 1, 1) := by decide +kernel
theorem wd_K_law_624 : decode code 624 = .ok (.iadd, 1) := by decide +kernel
theorem wd_K_law_625 : decode code 625 = .ok (.iaload, 1) := by decide +kernel
theorem wd_K_law_626 : decode code 626 = .ok (.i2l, 1) := by decide +kernel
theorem wd_K_law_627 : decode code 627 = .ok (.bipush 32, 2) := by decide +kernel
theorem wd_K_law_629 : decode code 629 = .ok (.lshl, 1) := by decide +kernel
theorem wd_K_law_630 : decode code 630 = .ok (.aload_n 0, 1) := by decide +kernel
theorem wd_K_law_631 : decode code 631 = .ok (.iload 4, 2) := by decide +kernel
theorem wd_K_law_633 : decode code 633 = .ok (.iconst 2, 1) := by decide +kernel
theorem wd_K_law_634 : decode code 634 = .ok (.iadd, 1) := by decide +kernel
theorem wd_K_law_635 : decode code 635 = .ok (.iaload, 1) := by decide +kernel
theorem wd_K_law_636 : decode code 636 = .ok (.i2l, 1) := by decide +kernel
theorem wd_K_law_637 : decode code 637 = .ok (.ldc2_w 125, 3) := by decide +kernel
theorem wd_K_law_640 : decode code 640 = .ok (.land, 1) := by decide +kernel
theorem wd_K_law_641 : decode code 641 = .ok (.lor, 1) := by decide +kernel
theorem wd_K_law_642 : decode code 642 = .ok (.invokestatic 127, 3) := by decide +kernel
theorem wd_K_law_645 : decode code 645 = .ok (.istore 5, 2) := by decide +kernel
theorem wd_K_law_647 : decode code 647 = .ok (.aload_n 2, 1) := by decide +kernel
theorem wd_K_law_648 : decode code 648 = .ok (.aload_n 0, 1) := by decide +kernel
theorem wd_K_law_649 : decode code 649 = .ok (.iload 4, 2) := by decide +kernel
theorem wd_K_law_651 : decode code 651 = .ok (.iconst 1, 1) := by decide +kernel
theorem wd_K_law_652 : decode code 652 = .ok (.iadd, 1) := by decide +kernel
