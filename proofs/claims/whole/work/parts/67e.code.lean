/-! ===== the law's instructions, 300 to 374 ===== -/
theorem dL_528 : decode code 528 = .ok (.ireturn, 1) := by decide +kernel
theorem dL_529 : decode code 529 = .ok (.aload_n 1, 1) := by decide +kernel
theorem dL_530 : decode code 530 = .ok (.invokevirtual 84, 3) := by decide +kernel
theorem dL_533 : decode code 533 = .ok (.aload_n 2, 1) := by decide +kernel
theorem dL_534 : decode code 534 = .ok (.invokevirtual 87, 3) := by decide +kernel
theorem dL_537 : decode code 537 = .ok (.if_icmp .eq 137, 3) := by decide +kernel
theorem dL_540 : decode code 540 = .ok (.iconst 0, 1) := by decide +kernel
theorem dL_541 : decode code 541 = .ok (.ireturn, 1) := by decide +kernel
theorem dL_542 : decode code 542 = .ok (.aload_n 1, 1) := by decide +kernel
theorem dL_543 : decode code 543 = .ok (.invokevirtual 88, 3) := by decide +kernel
theorem dL_546 : decode code 546 = .ok (.aload_n 2, 1) := by decide +kernel
theorem dL_547 : decode code 547 = .ok (.invokevirtual 91, 3) := by decide +kernel
theorem dL_550 : decode code 550 = .ok (.if_icmp .eq 124, 3) := by decide +kernel
theorem dL_553 : decode code 553 = .ok (.iconst 0, 1) := by decide +kernel
theorem dL_554 : decode code 554 = .ok (.ireturn, 1) := by decide +kernel
theorem dL_555 : decode code 555 = .ok (.aload_n 1, 1) := by decide +kernel
theorem dL_556 : decode code 556 = .ok (.invokevirtual 92, 3) := by decide +kernel
theorem dL_559 : decode code 559 = .ok (.aload_n 2, 1) := by decide +kernel
theorem dL_560 : decode code 560 = .ok (.invokevirtual 95, 3) := by decide +kernel
theorem dL_563 : decode code 563 = .ok (.if_icmp .eq 111, 3) := by decide +kernel
theorem dL_566 : decode code 566 = .ok (.iconst 0, 1) := by decide +kernel
theorem dL_567 : decode code 567 = .ok (.ireturn, 1) := by decide +kernel
theorem dL_568 : decode code 568 = .ok (.aload_n 1, 1) := by decide +kernel
theorem dL_569 : decode code 569 = .ok (.aload_n 0, 1) := by decide +kernel
theorem dL_570 : decode code 570 = .ok (.iload_n 3, 1) := by decide +kernel
theorem dL_571 : decode code 571 = .ok (.iconst 1, 1) := by decide +kernel
theorem dL_572 : decode code 572 = .ok (.iadd, 1) := by decide +kernel
theorem dL_573 : decode code 573 = .ok (.iaload, 1) := by decide +kernel
theorem dL_574 : decode code 574 = .ok (.aload_n 0, 1) := by decide +kernel
theorem dL_575 : decode code 575 = .ok (.iload_n 3, 1) := by decide +kernel
theorem dL_576 : decode code 576 = .ok (.iconst 2, 1) := by decide +kernel
theorem dL_577 : decode code 577 = .ok (.iadd, 1) := by decide +kernel
theorem dL_578 : decode code 578 = .ok (.iaload, 1) := by decide +kernel
theorem dL_579 : decode code 579 = .ok (.aload_n 0, 1) := by decide +kernel
theorem dL_580 : decode code 580 = .ok (.iload_n 3, 1) := by decide +kernel
theorem dL_581 : decode code 581 = .ok (.iconst 3, 1) := by decide +kernel
theorem dL_582 : decode code 582 = .ok (.iadd, 1) := by decide +kernel
theorem dL_583 : decode code 583 = .ok (.iaload, 1) := by decide +kernel
theorem dL_584 : decode code 584 = .ok (.invokevirtual 96, 3) := by decide +kernel
theorem dL_587 : decode code 587 = .ok (.aload_n 2, 1) := by decide +kernel
theorem dL_588 : decode code 588 = .ok (.aload_n 0, 1) := by decide +kernel
theorem dL_589 : decode code 589 = .ok (.iload_n 3, 1) := by decide +kernel
theorem dL_590 : decode code 590 = .ok (.iconst 1, 1) := by decide +kernel
theorem dL_591 : decode code 591 = .ok (.iadd, 1) := by decide +kernel
theorem dL_592 : decode code 592 = .ok (.iaload, 1) := by decide +kernel
theorem dL_593 : decode code 593 = .ok (.aload_n 0, 1) := by decide +kernel
theorem dL_594 : decode code 594 = .ok (.iload_n 3, 1) := by decide +kernel
theorem dL_595 : decode code 595 = .ok (.iconst 2, 1) := by decide +kernel
theorem dL_596 : decode code 596 = .ok (.iadd, 1) := by decide +kernel
theorem dL_597 : decode code 597 = .ok (.iaload, 1) := by decide +kernel
theorem dL_598 : decode code 598 = .ok (.aload_n 0, 1) := by decide +kernel
theorem dL_599 : decode code 599 = .ok (.iload_n 3, 1) := by decide +kernel
theorem dL_600 : decode code 600 = .ok (.iconst 3, 1) := by decide +kernel
theorem dL_601 : decode code 601 = .ok (.iadd, 1) := by decide +kernel
theorem dL_602 : decode code 602 = .ok (.iaload, 1) := by decide +kernel
theorem dL_603 : decode code 603 = .ok (.invokevirtual 100, 3) := by decide +kernel
theorem dL_606 : decode code 606 = .ok (.if_icmp .eq 68, 3) := by decide +kernel
theorem dL_609 : decode code 609 = .ok (.iconst 0, 1) := by decide +kernel
theorem dL_610 : decode code 610 = .ok (.ireturn, 1) := by decide +kernel
theorem dL_611 : decode code 611 = .ok (.aload_n 1, 1) := by decide +kernel
theorem dL_612 : decode code 612 = .ok (.invokevirtual 101, 3) := by decide +kernel
theorem dL_615 : decode code 615 = .ok (.aload_n 2, 1) := by decide +kernel
theorem dL_616 : decode code 616 = .ok (.invokevirtual 104, 3) := by decide +kernel
theorem dL_619 : decode code 619 = .ok (.if_icmp .eq 55, 3) := by decide +kernel
theorem dL_622 : decode code 622 = .ok (.iconst 0, 1) := by decide +kernel
theorem dL_623 : decode code 623 = .ok (.ireturn, 1) := by decide +kernel
theorem dL_624 : decode code 624 = .ok (.aload_n 1, 1) := by decide +kernel
theorem dL_625 : decode code 625 = .ok (.invokevirtual 105, 3) := by decide +kernel
theorem dL_628 : decode code 628 = .ok (.aload_n 2, 1) := by decide +kernel
theorem dL_629 : decode code 629 = .ok (.invokevirtual 108, 3) := by decide +kernel
theorem dL_632 : decode code 632 = .ok (.if_icmp .eq 42, 3) := by decide +kernel
theorem dL_635 : decode code 635 = .ok (.iconst 0, 1) := by decide +kernel
theorem dL_636 : decode code 636 = .ok (.ireturn, 1) := by decide +kernel
theorem dL_637 : decode code 637 = .ok (.aload_n 1, 1) := by decide +kernel
theorem dL_638 : decode code 638 = .ok (.aload_n 0, 1) := by decide +kernel
