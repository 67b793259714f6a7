theorem d_L_510 : decode code 510 = .ok (.aload_n 0, 1) := by decide +kernel
theorem d_L_511 : decode code 511 = .ok (.iload_n 3, 1) := by decide +kernel
theorem d_L_512 : decode code 512 = .ok (.iconst 2, 1) := by decide +kernel
theorem d_L_513 : decode code 513 = .ok (.iadd, 1) := by decide +kernel
theorem d_L_514 : decode code 514 = .ok (.iaload, 1) := by decide +kernel
theorem d_L_515 : decode code 515 = .ok (.invokevirtual 64, 3) := by decide +kernel
theorem d_L_518 : decode code 518 = .ok (.aload_n 2, 1) := by decide +kernel
theorem d_L_519 : decode code 519 = .ok (.aload_n 0, 1) := by decide +kernel
theorem d_L_520 : decode code 520 = .ok (.iload_n 3, 1) := by decide +kernel
theorem d_L_521 : decode code 521 = .ok (.iconst 1, 1) := by decide +kernel
theorem d_L_522 : decode code 522 = .ok (.iadd, 1) := by decide +kernel
theorem d_L_523 : decode code 523 = .ok (.iaload, 1) := by decide +kernel
theorem d_L_524 : decode code 524 = .ok (.aload_n 0, 1) := by decide +kernel
theorem d_L_525 : decode code 525 = .ok (.iload_n 3, 1) := by decide +kernel
theorem d_L_526 : decode code 526 = .ok (.iconst 2, 1) := by decide +kernel
theorem d_L_527 : decode code 527 = .ok (.iadd, 1) := by decide +kernel
theorem d_L_528 : decode code 528 = .ok (.iaload, 1) := by decide +kernel
theorem d_L_529 : decode code 529 = .ok (.invokevirtual 68, 3) := by decide +kernel
theorem d_L_532 : decode code 532 = .ok (.if_icmp .eq 77, 3) := by decide +kernel
theorem d_L_535 : decode code 535 = .ok (.iconst 0, 1) := by decide +kernel
theorem d_L_536 : decode code 536 = .ok (.ireturn, 1) := by decide +kernel
theorem d_L_537 : decode code 537 = .ok (.aload_n 1, 1) := by decide +kernel
theorem d_L_538 : decode code 538 = .ok (.aload_n 0, 1) := by decide +kernel
theorem d_L_539 : decode code 539 = .ok (.iload_n 3, 1) := by decide +kernel
theorem d_L_540 : decode code 540 = .ok (.iconst 1, 1) := by decide +kernel
theorem d_L_541 : decode code 541 = .ok (.iadd, 1) := by decide +kernel
theorem d_L_542 : decode code 542 = .ok (.iaload, 1) := by decide +kernel
theorem d_L_543 : decode code 543 = .ok (.invokevirtual 69, 3) := by decide +kernel
theorem d_L_546 : decode code 546 = .ok (.aload_n 2, 1) := by decide +kernel
theorem d_L_547 : decode code 547 = .ok (.aload_n 0, 1) := by decide +kernel
theorem d_L_548 : decode code 548 = .ok (.iload_n 3, 1) := by decide +kernel
theorem d_L_549 : decode code 549 = .ok (.iconst 1, 1) := by decide +kernel
theorem d_L_550 : decode code 550 = .ok (.iadd, 1) := by decide +kernel
theorem d_L_551 : decode code 551 = .ok (.iaload, 1) := by decide +kernel
theorem d_L_552 : decode code 552 = .ok (.invokevirtual 72, 3) := by decide +kernel
theorem d_L_555 : decode code 555 = .ok (.if_icmp .eq 54, 3) := by decide +kernel
theorem d_L_558 : decode code 558 = .ok (.iconst 0, 1) := by decide +kernel
theorem d_L_559 : decode code 559 = .ok (.ireturn, 1) := by decide +kernel
theorem d_L_560 : decode code 560 = .ok (.aload_n 1, 1) := by decide +kernel
theorem d_L_561 : decode code 561 = .ok (.invokevirtual 73, 3) := by decide +kernel
theorem d_L_564 : decode code 564 = .ok (.aload_n 2, 1) := by decide +kernel
theorem d_L_565 : decode code 565 = .ok (.invokevirtual 77, 3) := by decide +kernel
theorem d_L_568 : decode code 568 = .ok (.if_icmp .eq 41, 3) := by decide +kernel
theorem d_L_571 : decode code 571 = .ok (.iconst 0, 1) := by decide +kernel
theorem d_L_572 : decode code 572 = .ok (.ireturn, 1) := by decide +kernel
theorem d_L_573 : decode code 573 = .ok (.aload_n 1, 1) := by decide +kernel
theorem d_L_574 : decode code 574 = .ok (.invokevirtual 78, 3) := by decide +kernel
theorem d_L_577 : decode code 577 = .ok (.aload_n 2, 1) := by decide +kernel
theorem d_L_578 : decode code 578 = .ok (.invokevirtual 81, 3) := by decide +kernel
theorem d_L_581 : decode code 581 = .ok (.if_icmp .eq 28, 3) := by decide +kernel
theorem d_L_584 : decode code 584 = .ok (.iconst 0, 1) := by decide +kernel
theorem d_L_585 : decode code 585 = .ok (.ireturn, 1) := by decide +kernel
theorem d_L_586 : decode code 586 = .ok (.aload_n 1, 1) := by decide +kernel
theorem d_L_587 : decode code 587 = .ok (.aload_n 0, 1) := by decide +kernel
theorem d_L_588 : decode code 588 = .ok (.iload_n 3, 1) := by decide +kernel
theorem d_L_589 : decode code 589 = .ok (.iconst 1, 1) := by decide +kernel
theorem d_L_590 : decode code 590 = .ok (.iadd, 1) := by decide +kernel
theorem d_L_591 : decode code 591 = .ok (.iaload, 1) := by decide +kernel
theorem d_L_592 : decode code 592 = .ok (.invokevirtual 82, 3) := by decide +kernel
theorem d_L_595 : decode code 595 = .ok (.aload_n 2, 1) := by decide +kernel
theorem d_L_596 : decode code 596 = .ok (.aload_n 0, 1) := by decide +kernel
theorem d_L_597 : decode code 597 = .ok (.iload_n 3, 1) := by decide +kernel
theorem d_L_598 : decode code 598 = .ok (.iconst 1, 1) := by decide +kernel
theorem d_L_599 : decode code 599 = .ok (.iadd, 1) := by decide +kernel
theorem d_L_600 : decode code 600 = .ok (.iaload, 1) := by decide +kernel
theorem d_L_601 : decode code 601 = .ok (.invokevirtual 85, 3) := by decide +kernel
theorem d_L_604 : decode code 604 = .ok (.if_icmp .eq 5, 3) := by decide +kernel
theorem d_L_607 : decode code 607 = .ok (.iconst 0, 1) := by decide +kernel
theorem d_L_608 : decode code 608 = .ok (.ireturn, 1) := by decide +kernel
theorem d_L_609 : decode code 609 = .ok (.iinc 3 5, 3) := by decide +kernel
theorem d_L_612 : decode code 612 = .ok (.goto ((-594)), 3) := by decide +kernel
theorem d_L_615 : decode code 615 = .ok (.iconst 1, 1) := by decide +kernel
theorem d_L_616 : decode code 616 = .ok (.ireturn, 1) := by decide +kernel
