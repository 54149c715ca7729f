/-! the law's instructions -/
theorem dl_566 : decode code 566 = .ok (.aload_n 0, 1) := by decide +kernel
theorem dl_567 : decode code 567 = .ok (.iload_n 3, 1) := by decide +kernel
theorem dl_568 : decode code 568 = .ok (.iconst 1, 1) := by decide +kernel
theorem dl_569 : decode code 569 = .ok (.iadd, 1) := by decide +kernel
theorem dl_570 : decode code 570 = .ok (.iaload, 1) := by decide +kernel
theorem dl_571 : decode code 571 = .ok (.aload_n 0, 1) := by decide +kernel
theorem dl_572 : decode code 572 = .ok (.iload_n 3, 1) := by decide +kernel
theorem dl_573 : decode code 573 = .ok (.iconst 2, 1) := by decide +kernel
theorem dl_574 : decode code 574 = .ok (.iadd, 1) := by decide +kernel
theorem dl_575 : decode code 575 = .ok (.iaload, 1) := by decide +kernel
theorem dl_576 : decode code 576 = .ok (.aload_n 0, 1) := by decide +kernel
theorem dl_577 : decode code 577 = .ok (.iload_n 3, 1) := by decide +kernel
theorem dl_578 : decode code 578 = .ok (.iconst 3, 1) := by decide +kernel
theorem dl_579 : decode code 579 = .ok (.iadd, 1) := by decide +kernel
theorem dl_580 : decode code 580 = .ok (.iaload, 1) := by decide +kernel
theorem dl_581 : decode code 581 = .ok (.aload_n 0, 1) := by decide +kernel
theorem dl_582 : decode code 582 = .ok (.iload_n 3, 1) := by decide +kernel
theorem dl_583 : decode code 583 = .ok (.iconst 4, 1) := by decide +kernel
theorem dl_584 : decode code 584 = .ok (.iadd, 1) := by decide +kernel
theorem dl_585 : decode code 585 = .ok (.iaload, 1) := by decide +kernel
theorem dl_586 : decode code 586 = .ok (.invokevirtual 76, 3) := by decide +kernel
theorem dl_589 : decode code 589 = .ok (.if_icmp .eq 321, 3) := by decide +kernel
theorem dl_592 : decode code 592 = .ok (.iconst 0, 1) := by decide +kernel
theorem dl_593 : decode code 593 = .ok (.ireturn, 1) := by decide +kernel
theorem dl_594 : decode code 594 = .ok (.aload_n 1, 1) := by decide +kernel
theorem dl_595 : decode code 595 = .ok (.aload_n 0, 1) := by decide +kernel
theorem dl_596 : decode code 596 = .ok (.iload_n 3, 1) := by decide +kernel
theorem dl_597 : decode code 597 = .ok (.iconst 1, 1) := by decide +kernel
theorem dl_598 : decode code 598 = .ok (.iadd, 1) := by decide +kernel
theorem dl_599 : decode code 599 = .ok (.iaload, 1) := by decide +kernel
theorem dl_600 : decode code 600 = .ok (.aload_n 0, 1) := by decide +kernel
theorem dl_601 : decode code 601 = .ok (.iload_n 3, 1) := by decide +kernel
theorem dl_602 : decode code 602 = .ok (.iconst 2, 1) := by decide +kernel
theorem dl_603 : decode code 603 = .ok (.iadd, 1) := by decide +kernel
theorem dl_604 : decode code 604 = .ok (.iaload, 1) := by decide +kernel
theorem dl_605 : decode code 605 = .ok (.aload_n 0, 1) := by decide +kernel
theorem dl_606 : decode code 606 = .ok (.iload_n 3, 1) := by decide +kernel
theorem dl_607 : decode code 607 = .ok (.iconst 3, 1) := by decide +kernel
theorem dl_608 : decode code 608 = .ok (.iadd, 1) := by decide +kernel
theorem dl_609 : decode code 609 = .ok (.iaload, 1) := by decide +kernel
theorem dl_610 : decode code 610 = .ok (.invokevirtual 77, 3) := by decide +kernel
theorem dl_613 : decode code 613 = .ok (.aload_n 2, 1) := by decide +kernel
theorem dl_614 : decode code 614 = .ok (.aload_n 0, 1) := by decide +kernel
theorem dl_615 : decode code 615 = .ok (.iload_n 3, 1) := by decide +kernel
theorem dl_616 : decode code 616 = .ok (.iconst 1, 1) := by decide +kernel
theorem dl_617 : decode code 617 = .ok (.iadd, 1) := by decide +kernel
theorem dl_618 : decode code 618 = .ok (.iaload, 1) := by decide +kernel
theorem dl_619 : decode code 619 = .ok (.aload_n 0, 1) := by decide +kernel
theorem dl_620 : decode code 620 = .ok (.iload_n 3, 1) := by decide +kernel
theorem dl_621 : decode code 621 = .ok (.iconst 2, 1) := by decide +kernel
theorem dl_622 : decode code 622 = .ok (.iadd, 1) := by decide +kernel
theorem dl_623 : decode code 623 = .ok (.iaload, 1) := by decide +kernel
theorem dl_624 : decode code 624 = .ok (.aload_n 0, 1) := by decide +kernel
theorem dl_625 : decode code 625 = .ok (.iload_n 3, 1) := by decide +kernel
theorem dl_626 : decode code 626 = .ok (.iconst 3, 1) := by decide +kernel
theorem dl_627 : decode code 627 = .ok (.iadd, 1) := by decide +kernel
theorem dl_628 : decode code 628 = .ok (.iaload, 1) := by decide +kernel
theorem dl_629 : decode code 629 = .ok (.invokevirtual 80, 3) := by decide +kernel
theorem dl_632 : decode code 632 = .ok (.if_icmp .eq 278, 3) := by decide +kernel
theorem dl_635 : decode code 635 = .ok (.iconst 0, 1) := by decide +kernel
theorem dl_636 : decode code 636 = .ok (.ireturn, 1) := by decide +kernel
theorem dl_637 : decode code 637 = .ok (.aload_n 1, 1) := by decide +kernel
theorem dl_638 : decode code 638 = .ok (.aload_n 0, 1) := by decide +kernel
theorem dl_639 : decode code 639 = .ok (.iload_n 3, 1) := by decide +kernel
theorem dl_640 : decode code 640 = .ok (.iconst 1, 1) := by decide +kernel
theorem dl_641 : decode code 641 = .ok (.iadd, 1) := by decide +kernel
theorem dl_642 : decode code 642 = .ok (.iaload, 1) := by decide +kernel
theorem dl_643 : decode code 643 = .ok (.invokevirtual 81, 3) := by decide +kernel
theorem dl_646 : decode code 646 = .ok (.aload_n 2, 1) := by decide +kernel
theorem dl_647 : decode code 647 = .ok (.aload_n 0, 1) := by decide +kernel
