/-! decode rows of the law -/
theorem dL_law_539 : decode mL.2.1 539 = .ok (.iconst 1, 1) := by decide +kernel
theorem dL_law_540 : decode mL.2.1 540 = .ok (.iadd, 1) := by decide +kernel
theorem dL_law_541 : decode mL.2.1 541 = .ok (.iaload, 1) := by decide +kernel
theorem dL_law_542 : decode mL.2.1 542 = .ok (.invokevirtual 65, 3) := by decide +kernel
theorem dL_law_545 : decode mL.2.1 545 = .ok (.aload_n 2, 1) := by decide +kernel
theorem dL_law_546 : decode mL.2.1 546 = .ok (.aload_n 0, 1) := by decide +kernel
theorem dL_law_547 : decode mL.2.1 547 = .ok (.iload_n 3, 1) := by decide +kernel
theorem dL_law_548 : decode mL.2.1 548 = .ok (.iconst 1, 1) := by decide +kernel
theorem dL_law_549 : decode mL.2.1 549 = .ok (.iadd, 1) := by decide +kernel
theorem dL_law_550 : decode mL.2.1 550 = .ok (.iaload, 1) := by decide +kernel
theorem dL_law_551 : decode mL.2.1 551 = .ok (.invokevirtual 68, 3) := by decide +kernel
theorem dL_law_554 : decode mL.2.1 554 = .ok (.if_icmp .eq 941, 3) := by decide +kernel
theorem dL_law_559 : decode mL.2.1 559 = .ok (.aload_n 1, 1) := by decide +kernel
theorem dL_law_560 : decode mL.2.1 560 = .ok (.aload_n 0, 1) := by decide +kernel
theorem dL_law_561 : decode mL.2.1 561 = .ok (.iload_n 3, 1) := by decide +kernel
theorem dL_law_562 : decode mL.2.1 562 = .ok (.iconst 1, 1) := by decide +kernel
theorem dL_law_563 : decode mL.2.1 563 = .ok (.iadd, 1) := by decide +kernel
theorem dL_law_564 : decode mL.2.1 564 = .ok (.iaload, 1) := by decide +kernel
theorem dL_law_565 : decode mL.2.1 565 = .ok (.aload_n 0, 1) := by decide +kernel
theorem dL_law_566 : decode mL.2.1 566 = .ok (.iload_n 3, 1) := by decide +kernel
theorem dL_law_567 : decode mL.2.1 567 = .ok (.iconst 2, 1) := by decide +kernel
theorem dL_law_568 : decode mL.2.1 568 = .ok (.iadd, 1) := by decide +kernel
theorem dL_law_569 : decode mL.2.1 569 = .ok (.iaload, 1) := by decide +kernel
theorem dL_law_570 : decode mL.2.1 570 = .ok (.aload_n 0, 1) := by decide +kernel
theorem dL_law_571 : decode mL.2.1 571 = .ok (.iload_n 3, 1) := by decide +kernel
theorem dL_law_572 : decode mL.2.1 572 = .ok (.iconst 3, 1) := by decide +kernel
theorem dL_law_573 : decode mL.2.1 573 = .ok (.iadd, 1) := by decide +kernel
theorem dL_law_574 : decode mL.2.1 574 = .ok (.iaload, 1) := by decide +kernel
theorem dL_law_575 : decode mL.2.1 575 = .ok (.invokevirtual 69, 3) := by decide +kernel
theorem dL_law_578 : decode mL.2.1 578 = .ok (.aload_n 2, 1) := by decide +kernel
theorem dL_law_579 : decode mL.2.1 579 = .ok (.aload_n 0, 1) := by decide +kernel
theorem dL_law_580 : decode mL.2.1 580 = .ok (.iload_n 3, 1) := by decide +kernel
theorem dL_law_581 : decode mL.2.1 581 = .ok (.iconst 1, 1) := by decide +kernel
theorem dL_law_582 : decode mL.2.1 582 = .ok (.iadd, 1) := by decide +kernel
theorem dL_law_583 : decode mL.2.1 583 = .ok (.iaload, 1) := by decide +kernel
theorem dL_law_584 : decode mL.2.1 584 = .ok (.aload_n 0, 1) := by decide +kernel
theorem dL_law_585 : decode mL.2.1 585 = .ok (.iload_n 3, 1) := by decide +kernel
theorem dL_law_586 : decode mL.2.1 586 = .ok (.iconst 2, 1) := by decide +kernel
theorem dL_law_587 : decode mL.2.1 587 = .ok (.iadd, 1) := by decide +kernel
theorem dL_law_588 : decode mL.2.1 588 = .ok (.iaload, 1) := by decide +kernel
theorem dL_law_589 : decode mL.2.1 589 = .ok (.aload_n 0, 1) := by decide +kernel
theorem dL_law_590 : decode mL.2.1 590 = .ok (.iload_n 3, 1) := by decide +kernel
theorem dL_law_591 : decode mL.2.1 591 = .ok (.iconst 3, 1) := by decide +kernel
theorem dL_law_592 : decode mL.2.1 592 = .ok (.iadd, 1) := by decide +kernel
theorem dL_law_593 : decode mL.2.1 593 = .ok (.iaload, 1) := by decide +kernel
theorem dL_law_594 : decode mL.2.1 594 = .ok (.invokevirtual 72, 3) := by decide +kernel
theorem dL_law_597 : decode mL.2.1 597 = .ok (.if_icmp .eq 898, 3) := by decide +kernel
theorem dL_law_602 : decode mL.2.1 602 = .ok (.aload_n 1, 1) := by decide +kernel
theorem dL_law_603 : decode mL.2.1 603 = .ok (.aload_n 0, 1) := by decide +kernel
theorem dL_law_604 : decode mL.2.1 604 = .ok (.iload_n 3, 1) := by decide +kernel
theorem dL_law_605 : decode mL.2.1 605 = .ok (.iconst 1, 1) := by decide +kernel
theorem dL_law_606 : decode mL.2.1 606 = .ok (.iadd, 1) := by decide +kernel
theorem dL_law_607 : decode mL.2.1 607 = .ok (.iaload, 1) := by decide +kernel
theorem dL_law_608 : decode mL.2.1 608 = .ok (.invokevirtual 73, 3) := by decide +kernel
theorem dL_law_611 : decode mL.2.1 611 = .ok (.aload_n 2, 1) := by decide +kernel
theorem dL_law_612 : decode mL.2.1 612 = .ok (.aload_n 0, 1) := by decide +kernel
theorem dL_law_613 : decode mL.2.1 613 = .ok (.iload_n 3, 1) := by decide +kernel
theorem dL_law_614 : decode mL.2.1 614 = .ok (.iconst 1, 1) := by decide +kernel
theorem dL_law_615 : decode mL.2.1 615 = .ok (.iadd, 1) := by decide +kernel
theorem dL_law_616 : decode mL.2.1 616 = .ok (.iaload, 1) := by decide +kernel
theorem dL_law_617 : decode mL.2.1 617 = .ok (.invokevirtual 76, 3) := by decide +kernel
theorem dL_law_620 : decode mL.2.1 620 = .ok (.if_icmp .eq 875, 3) := by decide +kernel
theorem dL_law_625 : decode mL.2.1 625 = .ok (.aload_n 1, 1) := by decide +kernel
theorem dL_law_626 : decode mL.2.1 626 = .ok (.aload_n 0, 1) := by decide +kernel
theorem dL_law_627 : decode mL.2.1 627 = .ok (.iload_n 3, 1) := by decide +kernel
theorem dL_law_628 : decode mL.2.1 628 = .ok (.iconst 1, 1) := by decide +kernel
theorem dL_law_629 : decode mL.2.1 629 = .ok (.iadd, 1) := by decide +kernel
theorem dL_law_630 : decode mL.2.1 630 = .ok (.iaload, 1) := by decide +kernel
theorem dL_law_631 : decode mL.2.1 631 = .ok (.invokevirtual 77, 3) := by decide +kernel
theorem dL_law_634 : decode mL.2.1 634 = .ok (.aload_n 2, 1) := by decide +kernel
theorem dL_law_635 : decode mL.2.1 635 = .ok (.aload_n 0, 1) := by decide +kernel
theorem dL_law_636 : decode mL.2.1 636 = .ok (.iload_n 3, 1) := by decide +kernel
theorem dL_law_637 : decode mL.2.1 637 = .ok (.iconst 1, 1) := by decide +kernel
theorem dL_law_638 : decode mL.2.1 638 = .ok (.iadd, 1) := by decide +kernel
theorem dL_law_639 : decode mL.2.1 639 = .ok (.iaload, 1) := by decide +kernel
