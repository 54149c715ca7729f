/-! the law's instructions -/
theorem dl_476 : decode code 476 = .ok (.iadd, 1) := by decide +kernel
theorem dl_477 : decode code 477 = .ok (.iaload, 1) := by decide +kernel
theorem dl_478 : decode code 478 = .ok (.invokevirtual 61, 3) := by decide +kernel
theorem dl_481 : decode code 481 = .ok (.aload_n 2, 1) := by decide +kernel
theorem dl_482 : decode code 482 = .ok (.aload_n 0, 1) := by decide +kernel
theorem dl_483 : decode code 483 = .ok (.iload_n 3, 1) := by decide +kernel
theorem dl_484 : decode code 484 = .ok (.iconst 1, 1) := by decide +kernel
theorem dl_485 : decode code 485 = .ok (.iadd, 1) := by decide +kernel
theorem dl_486 : decode code 486 = .ok (.iaload, 1) := by decide +kernel
theorem dl_487 : decode code 487 = .ok (.invokevirtual 64, 3) := by decide +kernel
theorem dl_490 : decode code 490 = .ok (.if_icmp .eq 420, 3) := by decide +kernel
theorem dl_493 : decode code 493 = .ok (.iconst 0, 1) := by decide +kernel
theorem dl_494 : decode code 494 = .ok (.ireturn, 1) := by decide +kernel
theorem dl_495 : decode code 495 = .ok (.aload_n 1, 1) := by decide +kernel
theorem dl_496 : decode code 496 = .ok (.invokevirtual 65, 3) := by decide +kernel
theorem dl_499 : decode code 499 = .ok (.aload_n 2, 1) := by decide +kernel
theorem dl_500 : decode code 500 = .ok (.invokevirtual 68, 3) := by decide +kernel
theorem dl_503 : decode code 503 = .ok (.if_icmp .eq 407, 3) := by decide +kernel
theorem dl_506 : decode code 506 = .ok (.iconst 0, 1) := by decide +kernel
theorem dl_507 : decode code 507 = .ok (.ireturn, 1) := by decide +kernel
theorem dl_508 : decode code 508 = .ok (.aload_n 1, 1) := by decide +kernel
theorem dl_509 : decode code 509 = .ok (.aload_n 0, 1) := by decide +kernel
theorem dl_510 : decode code 510 = .ok (.iload_n 3, 1) := by decide +kernel
theorem dl_511 : decode code 511 = .ok (.iconst 1, 1) := by decide +kernel
theorem dl_512 : decode code 512 = .ok (.iadd, 1) := by decide +kernel
theorem dl_513 : decode code 513 = .ok (.iaload, 1) := by decide +kernel
theorem dl_514 : decode code 514 = .ok (.aload_n 0, 1) := by decide +kernel
theorem dl_515 : decode code 515 = .ok (.iload_n 3, 1) := by decide +kernel
theorem dl_516 : decode code 516 = .ok (.iconst 2, 1) := by decide +kernel
theorem dl_517 : decode code 517 = .ok (.iadd, 1) := by decide +kernel
theorem dl_518 : decode code 518 = .ok (.iaload, 1) := by decide +kernel
theorem dl_519 : decode code 519 = .ok (.invokevirtual 69, 3) := by decide +kernel
theorem dl_522 : decode code 522 = .ok (.aload_n 2, 1) := by decide +kernel
theorem dl_523 : decode code 523 = .ok (.aload_n 0, 1) := by decide +kernel
theorem dl_524 : decode code 524 = .ok (.iload_n 3, 1) := by decide +kernel
theorem dl_525 : decode code 525 = .ok (.iconst 1, 1) := by decide +kernel
theorem dl_526 : decode code 526 = .ok (.iadd, 1) := by decide +kernel
theorem dl_527 : decode code 527 = .ok (.iaload, 1) := by decide +kernel
theorem dl_528 : decode code 528 = .ok (.aload_n 0, 1) := by decide +kernel
theorem dl_529 : decode code 529 = .ok (.iload_n 3, 1) := by decide +kernel
theorem dl_530 : decode code 530 = .ok (.iconst 2, 1) := by decide +kernel
theorem dl_531 : decode code 531 = .ok (.iadd, 1) := by decide +kernel
theorem dl_532 : decode code 532 = .ok (.iaload, 1) := by decide +kernel
theorem dl_533 : decode code 533 = .ok (.invokevirtual 72, 3) := by decide +kernel
theorem dl_536 : decode code 536 = .ok (.if_icmp .eq 374, 3) := by decide +kernel
theorem dl_539 : decode code 539 = .ok (.iconst 0, 1) := by decide +kernel
theorem dl_540 : decode code 540 = .ok (.ireturn, 1) := by decide +kernel
theorem dl_541 : decode code 541 = .ok (.aload_n 1, 1) := by decide +kernel
theorem dl_542 : decode code 542 = .ok (.aload_n 0, 1) := by decide +kernel
theorem dl_543 : decode code 543 = .ok (.iload_n 3, 1) := by decide +kernel
theorem dl_544 : decode code 544 = .ok (.iconst 1, 1) := by decide +kernel
theorem dl_545 : decode code 545 = .ok (.iadd, 1) := by decide +kernel
theorem dl_546 : decode code 546 = .ok (.iaload, 1) := by decide +kernel
theorem dl_547 : decode code 547 = .ok (.aload_n 0, 1) := by decide +kernel
theorem dl_548 : decode code 548 = .ok (.iload_n 3, 1) := by decide +kernel
theorem dl_549 : decode code 549 = .ok (.iconst 2, 1) := by decide +kernel
theorem dl_550 : decode code 550 = .ok (.iadd, 1) := by decide +kernel
theorem dl_551 : decode code 551 = .ok (.iaload, 1) := by decide +kernel
theorem dl_552 : decode code 552 = .ok (.aload_n 0, 1) := by decide +kernel
theorem dl_553 : decode code 553 = .ok (.iload_n 3, 1) := by decide +kernel
theorem dl_554 : decode code 554 = .ok (.iconst 3, 1) := by decide +kernel
theorem dl_555 : decode code 555 = .ok (.iadd, 1) := by decide +kernel
theorem dl_556 : decode code 556 = .ok (.iaload, 1) := by decide +kernel
theorem dl_557 : decode code 557 = .ok (.aload_n 0, 1) := by decide +kernel
theorem dl_558 : decode code 558 = .ok (.iload_n 3, 1) := by decide +kernel
theorem dl_559 : decode code 559 = .ok (.iconst 4, 1) := by decide +kernel
theorem dl_560 : decode code 560 = .ok (.iadd, 1) := by decide +kernel
theorem dl_561 : decode code 561 = .ok (.iaload, 1) := by decide +kernel
theorem dl_562 : decode code 562 = .ok (.invokevirtual 73, 3) := by decide +kernel
theorem dl_565 : decode code 565 = .ok (.aload_n 2, 1) := by decide +kernel
