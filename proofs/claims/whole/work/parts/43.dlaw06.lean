theorem d_L_law_577 : decode code 577 = .ok (.invokevirtual 86, 3) := by decide +kernel
theorem d_L_law_580 : decode code 580 = .ok (.aload_n 2, 1) := by decide +kernel
theorem d_L_law_581 : decode code 581 = .ok (.aload_n 0, 1) := by decide +kernel
theorem d_L_law_582 : decode code 582 = .ok (.iload_n 3, 1) := by decide +kernel
theorem d_L_law_583 : decode code 583 = .ok (.iconst 1, 1) := by decide +kernel
theorem d_L_law_584 : decode code 584 = .ok (.iadd, 1) := by decide +kernel
theorem d_L_law_585 : decode code 585 = .ok (.iaload, 1) := by decide +kernel
theorem d_L_law_586 : decode code 586 = .ok (.aload_n 0, 1) := by decide +kernel
theorem d_L_law_587 : decode code 587 = .ok (.iload_n 3, 1) := by decide +kernel
theorem d_L_law_588 : decode code 588 = .ok (.iconst 2, 1) := by decide +kernel
theorem d_L_law_589 : decode code 589 = .ok (.iadd, 1) := by decide +kernel
theorem d_L_law_590 : decode code 590 = .ok (.iaload, 1) := by decide +kernel
theorem d_L_law_591 : decode code 591 = .ok (.i2l, 1) := by decide +kernel
theorem d_L_law_592 : decode code 592 = .ok (.bipush 32, 2) := by decide +kernel
theorem d_L_law_594 : decode code 594 = .ok (.lshl, 1) := by decide +kernel
theorem d_L_law_595 : decode code 595 = .ok (.aload_n 0, 1) := by decide +kernel
theorem d_L_law_596 : decode code 596 = .ok (.iload_n 3, 1) := by decide +kernel
theorem d_L_law_597 : decode code 597 = .ok (.iconst 3, 1) := by decide +kernel
theorem d_L_law_598 : decode code 598 = .ok (.iadd, 1) := by decide +kernel
theorem d_L_law_599 : decode code 599 = .ok (.iaload, 1) := by decide +kernel
theorem d_L_law_600 : decode code 600 = .ok (.i2l, 1) := by decide +kernel
theorem d_L_law_601 : decode code 601 = .ok (.ldc2_w 13, 3) := by decide +kernel
theorem d_L_law_604 : decode code 604 = .ok (.land, 1) := by decide +kernel
theorem d_L_law_605 : decode code 605 = .ok (.lor, 1) := by decide +kernel
theorem d_L_law_606 : decode code 606 = .ok (.invokevirtual 90, 3) := by decide +kernel
theorem d_L_law_609 : decode code 609 = .ok (.if_icmp .eq 258, 3) := by decide +kernel
theorem d_L_law_612 : decode code 612 = .ok (.iconst 0, 1) := by decide +kernel
theorem d_L_law_613 : decode code 613 = .ok (.ireturn, 1) := by decide +kernel
theorem d_L_law_614 : decode code 614 = .ok (.aload_n 1, 1) := by decide +kernel
theorem d_L_law_615 : decode code 615 = .ok (.aload_n 0, 1) := by decide +kernel
theorem d_L_law_616 : decode code 616 = .ok (.iload_n 3, 1) := by decide +kernel
theorem d_L_law_617 : decode code 617 = .ok (.iconst 1, 1) := by decide +kernel
theorem d_L_law_618 : decode code 618 = .ok (.iadd, 1) := by decide +kernel
theorem d_L_law_619 : decode code 619 = .ok (.iaload, 1) := by decide +kernel
theorem d_L_law_620 : decode code 620 = .ok (.invokevirtual 91, 3) := by decide +kernel
theorem d_L_law_623 : decode code 623 = .ok (.aload_n 2, 1) := by decide +kernel
theorem d_L_law_624 : decode code 624 = .ok (.aload_n 0, 1) := by decide +kernel
theorem d_L_law_625 : decode code 625 = .ok (.iload_n 3, 1) := by decide +kernel
theorem d_L_law_626 : decode code 626 = .ok (.iconst 1, 1) := by decide +kernel
theorem d_L_law_627 : decode code 627 = .ok (.iadd, 1) := by decide +kernel
theorem d_L_law_628 : decode code 628 = .ok (.iaload, 1) := by decide +kernel
theorem d_L_law_629 : decode code 629 = .ok (.invokevirtual 94, 3) := by decide +kernel
theorem d_L_law_632 : decode code 632 = .ok (.if_icmp .eq 235, 3) := by decide +kernel
theorem d_L_law_635 : decode code 635 = .ok (.iconst 0, 1) := by decide +kernel
theorem d_L_law_636 : decode code 636 = .ok (.ireturn, 1) := by decide +kernel
theorem d_L_law_637 : decode code 637 = .ok (.aload_n 1, 1) := by decide +kernel
theorem d_L_law_638 : decode code 638 = .ok (.aload_n 0, 1) := by decide +kernel
theorem d_L_law_639 : decode code 639 = .ok (.iload_n 3, 1) := by decide +kernel
theorem d_L_law_640 : decode code 640 = .ok (.iconst 1, 1) := by decide +kernel
theorem d_L_law_641 : decode code 641 = .ok (.iadd, 1) := by decide +kernel
theorem d_L_law_642 : decode code 642 = .ok (.iaload, 1) := by decide +kernel
theorem d_L_law_643 : decode code 643 = .ok (.i2l, 1) := by decide +kernel
theorem d_L_law_644 : decode code 644 = .ok (.bipush 32, 2) := by decide +kernel
theorem d_L_law_646 : decode code 646 = .ok (.lshl, 1) := by decide +kernel
theorem d_L_law_647 : decode code 647 = .ok (.aload_n 0, 1) := by decide +kernel
theorem d_L_law_648 : decode code 648 = .ok (.iload_n 3, 1) := by decide +kernel
theorem d_L_law_649 : decode code 649 = .ok (.iconst 2, 1) := by decide +kernel
theorem d_L_law_650 : decode code 650 = .ok (.iadd, 1) := by decide +kernel
theorem d_L_law_651 : decode code 651 = .ok (.iaload, 1) := by decide +kernel
theorem d_L_law_652 : decode code 652 = .ok (.i2l, 1) := by decide +kernel
