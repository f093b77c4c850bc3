theorem de_W_law_500 : decode bc_W_law 500 = .ok (.iadd, 1) := by decide +kernel
theorem de_W_law_501 : decode bc_W_law 501 = .ok (.iaload, 1) := by decide +kernel
theorem de_W_law_502 : decode bc_W_law 502 = .ok (.invokevirtual 63, 3) := by decide +kernel
theorem de_W_law_505 : decode bc_W_law 505 = .ok (.aload_n 2, 1) := by decide +kernel
theorem de_W_law_506 : decode bc_W_law 506 = .ok (.aload_n 0, 1) := by decide +kernel
theorem de_W_law_507 : decode bc_W_law 507 = .ok (.iload_n 3, 1) := by decide +kernel
theorem de_W_law_508 : decode bc_W_law 508 = .ok (.iconst 1, 1) := by decide +kernel
theorem de_W_law_509 : decode bc_W_law 509 = .ok (.iadd, 1) := by decide +kernel
theorem de_W_law_510 : decode bc_W_law 510 = .ok (.iaload, 1) := by decide +kernel
theorem de_W_law_511 : decode bc_W_law 511 = .ok (.invokevirtual 67, 3) := by decide +kernel
theorem de_W_law_514 : decode bc_W_law 514 = .ok (.if_icmp .eq 214, 3) := by decide +kernel
theorem de_W_law_517 : decode bc_W_law 517 = .ok (.iconst 0, 1) := by decide +kernel
theorem de_W_law_518 : decode bc_W_law 518 = .ok (.ireturn, 1) := by decide +kernel
theorem de_W_law_519 : decode bc_W_law 519 = .ok (.aload_n 1, 1) := by decide +kernel
theorem de_W_law_520 : decode bc_W_law 520 = .ok (.aload_n 0, 1) := by decide +kernel
theorem de_W_law_521 : decode bc_W_law 521 = .ok (.iload_n 3, 1) := by decide +kernel
theorem de_W_law_522 : decode bc_W_law 522 = .ok (.iconst 1, 1) := by decide +kernel
theorem de_W_law_523 : decode bc_W_law 523 = .ok (.iadd, 1) := by decide +kernel
theorem de_W_law_524 : decode bc_W_law 524 = .ok (.iaload, 1) := by decide +kernel
theorem de_W_law_525 : decode bc_W_law 525 = .ok (.invokevirtual 68, 3) := by decide +kernel
theorem de_W_law_528 : decode bc_W_law 528 = .ok (.aload_n 2, 1) := by decide +kernel
theorem de_W_law_529 : decode bc_W_law 529 = .ok (.aload_n 0, 1) := by decide +kernel
theorem de_W_law_530 : decode bc_W_law 530 = .ok (.iload_n 3, 1) := by decide +kernel
theorem de_W_law_531 : decode bc_W_law 531 = .ok (.iconst 1, 1) := by decide +kernel
theorem de_W_law_532 : decode bc_W_law 532 = .ok (.iadd, 1) := by decide +kernel
theorem de_W_law_533 : decode bc_W_law 533 = .ok (.iaload, 1) := by decide +kernel
theorem de_W_law_534 : decode bc_W_law 534 = .ok (.invokevirtual 71, 3) := by decide +kernel
theorem de_W_law_537 : decode bc_W_law 537 = .ok (.if_icmp .eq 191, 3) := by decide +kernel
theorem de_W_law_540 : decode bc_W_law 540 = .ok (.iconst 0, 1) := by decide +kernel
theorem de_W_law_541 : decode bc_W_law 541 = .ok (.ireturn, 1) := by decide +kernel
theorem de_W_law_542 : decode bc_W_law 542 = .ok (.aload_n 1, 1) := by decide +kernel
theorem de_W_law_543 : decode bc_W_law 543 = .ok (.aload_n 0, 1) := by decide +kernel
theorem de_W_law_544 : decode bc_W_law 544 = .ok (.iload_n 3, 1) := by decide +kernel
theorem de_W_law_545 : decode bc_W_law 545 = .ok (.iconst 1, 1) := by decide +kernel
theorem de_W_law_546 : decode bc_W_law 546 = .ok (.iadd, 1) := by decide +kernel
theorem de_W_law_547 : decode bc_W_law 547 = .ok (.iaload, 1) := by decide +kernel
theorem de_W_law_548 : decode bc_W_law 548 = .ok (.aload_n 0, 1) := by decide +kernel
theorem de_W_law_549 : decode bc_W_law 549 = .ok (.iload_n 3, 1) := by decide +kernel
theorem de_W_law_550 : decode bc_W_law 550 = .ok (.iconst 2, 1) := by decide +kernel
theorem de_W_law_551 : decode bc_W_law 551 = .ok (.iadd, 1) := by decide +kernel
theorem de_W_law_552 : decode bc_W_law 552 = .ok (.iaload, 1) := by decide +kernel
theorem de_W_law_553 : decode bc_W_law 553 = .ok (.invokevirtual 72, 3) := by decide +kernel
theorem de_W_law_556 : decode bc_W_law 556 = .ok (.aload_n 2, 1) := by decide +kernel
theorem de_W_law_557 : decode bc_W_law 557 = .ok (.aload_n 0, 1) := by decide +kernel
theorem de_W_law_558 : decode bc_W_law 558 = .ok (.iload_n 3, 1) := by decide +kernel
theorem de_W_law_559 : decode bc_W_law 559 = .ok (.iconst 1, 1) := by decide +kernel
theorem de_W_law_560 : decode bc_W_law 560 = .ok (.iadd, 1) := by decide +kernel
theorem de_W_law_561 : decode bc_W_law 561 = .ok (.iaload, 1) := by decide +kernel
theorem de_W_law_562 : decode bc_W_law 562 = .ok (.aload_n 0, 1) := by decide +kernel
theorem de_W_law_563 : decode bc_W_law 563 = .ok (.iload_n 3, 1) := by decide +kernel
theorem de_W_law_564 : decode bc_W_law 564 = .ok (.iconst 2, 1) := by decide +kernel
theorem de_W_law_565 : decode bc_W_law 565 = .ok (.iadd, 1) := by decide +kernel
theorem de_W_law_566 : decode bc_W_law 566 = .ok (.iaload, 1) := by decide +kernel
theorem de_W_law_567 : decode bc_W_law 567 = .ok (.invokevirtual 76, 3) := by decide +kernel
theorem de_W_law_570 : decode bc_W_law 570 = .ok (.if_icmp .eq 158, 3) := by decide +kernel
theorem de_W_law_573 : decode bc_W_law 573 = .ok (.iconst 0, 1) := by decide +kernel
theorem de_W_law_574 : decode bc_W_law 574 = .ok (.ireturn, 1) := by decide +kernel
theorem de_W_law_575 : decode bc_W_law 575 = .ok (.aload_n 1, 1) := by decide +kernel
theorem de_W_law_576 : decode bc_W_law 576 = .ok (.aload_n 0, 1) := by decide +kernel
theorem de_W_law_577 : decode bc_W_law 577 = .ok (.iload_n 3, 1) := by decide +kernel
theorem de_W_law_578 : decode bc_W_law 578 = .ok (.iconst 1, 1) := by decide +kernel
theorem de_W_law_579 : decode bc_W_law 579 = .ok (.iadd, 1) := by decide +kernel
theorem de_W_law_580 : decode bc_W_law 580 = .ok (.iaload, 1) := by decide +kernel
theorem de_W_law_581 : decode bc_W_law 581 = .ok (.invokevirtual 77, 3) := by decide +kernel
theorem de_W_law_584 : decode bc_W_law 584 = .ok (.aload_n 2, 1) := by decide +kernel
theorem de_W_law_585 : decode bc_W_law 585 = .ok (.aload_n 0, 1) := by decide +kernel
theorem de_W_law_586 : decode bc_W_law 586 = .ok (.iload_n 3, 1) := by decide +kernel
theorem de_W_law_587 : decode bc_W_law 587 = .ok (.iconst 1, 1) := by decide +kernel
theorem de_W_law_588 : decode bc_W_law 588 = .ok (.iadd, 1) := by decide +kernel
theorem de_W_law_589 : decode bc_W_law 589 = .ok (.iaload, 1) := by decide +kernel
theorem de_W_law_590 : decode bc_W_law 590 = .ok (.invokevirtual 80, 3) := by decide +kernel
theorem de_W_law_593 : decode bc_W_law 593 = .ok (.if_icmp .eq 135, 3) := by decide +kernel
theorem de_W_law_596 : decode bc_W_law 596 = .ok (.iconst 0, 1) := by decide +kernel
theorem de_W_law_597 : decode bc_W_law 597 = .ok (.ireturn, 1) := by decide +kernel
theorem de_W_law_598 : decode bc_W_law 598 = .ok (.aload_n 1, 1) := by decide +kernel
theorem de_W_law_599 : decode bc_W_law 599 = .ok (.aload_n 0, 1) := by decide +kernel
theorem de_W_law_600 : decode bc_W_law 600 = .ok (.iload_n 3, 1) := by decide +kernel
theorem de_W_law_601 : decode bc_W_law 601 = .ok (.iconst 1, 1) := by decide +kernel
theorem de_W_law_602 : decode bc_W_law 602 = .ok (.iadd, 1) := by decide +kernel
theorem de_W_law_603 : decode bc_W_law 603 = .ok (.iaload, 1) := by decide +kernel
