/-! the law's instructions -/
theorem dl_396 : decode code 396 = .ok (.aload_n 0, 1) := by decide +kernel
theorem dl_397 : decode code 397 = .ok (.iload_n 3, 1) := by decide +kernel
theorem dl_398 : decode code 398 = .ok (.iconst 1, 1) := by decide +kernel
theorem dl_399 : decode code 399 = .ok (.iadd, 1) := by decide +kernel
theorem dl_400 : decode code 400 = .ok (.iaload, 1) := by decide +kernel
theorem dl_401 : decode code 401 = .ok (.aload_n 0, 1) := by decide +kernel
theorem dl_402 : decode code 402 = .ok (.iload_n 3, 1) := by decide +kernel
theorem dl_403 : decode code 403 = .ok (.iconst 2, 1) := by decide +kernel
theorem dl_404 : decode code 404 = .ok (.iadd, 1) := by decide +kernel
theorem dl_405 : decode code 405 = .ok (.iaload, 1) := by decide +kernel
theorem dl_406 : decode code 406 = .ok (.aload_n 0, 1) := by decide +kernel
theorem dl_407 : decode code 407 = .ok (.iload_n 3, 1) := by decide +kernel
theorem dl_408 : decode code 408 = .ok (.iconst 3, 1) := by decide +kernel
theorem dl_409 : decode code 409 = .ok (.iadd, 1) := by decide +kernel
theorem dl_410 : decode code 410 = .ok (.iaload, 1) := by decide +kernel
theorem dl_411 : decode code 411 = .ok (.invokevirtual 55, 3) := by decide +kernel
theorem dl_414 : decode code 414 = .ok (.if_icmp .eq 496, 3) := by decide +kernel
theorem dl_417 : decode code 417 = .ok (.iconst 0, 1) := by decide +kernel
theorem dl_418 : decode code 418 = .ok (.ireturn, 1) := by decide +kernel
theorem dl_419 : decode code 419 = .ok (.aload_n 1, 1) := by decide +kernel
theorem dl_420 : decode code 420 = .ok (.aload_n 0, 1) := by decide +kernel
theorem dl_421 : decode code 421 = .ok (.iload_n 3, 1) := by decide +kernel
theorem dl_422 : decode code 422 = .ok (.iconst 1, 1) := by decide +kernel
theorem dl_423 : decode code 423 = .ok (.iadd, 1) := by decide +kernel
theorem dl_424 : decode code 424 = .ok (.iaload, 1) := by decide +kernel
theorem dl_425 : decode code 425 = .ok (.aload_n 0, 1) := by decide +kernel
theorem dl_426 : decode code 426 = .ok (.iload_n 3, 1) := by decide +kernel
theorem dl_427 : decode code 427 = .ok (.iconst 2, 1) := by decide +kernel
theorem dl_428 : decode code 428 = .ok (.iadd, 1) := by decide +kernel
theorem dl_429 : decode code 429 = .ok (.iaload, 1) := by decide +kernel
theorem dl_430 : decode code 430 = .ok (.aload_n 0, 1) := by decide +kernel
theorem dl_431 : decode code 431 = .ok (.iload_n 3, 1) := by decide +kernel
theorem dl_432 : decode code 432 = .ok (.iconst 3, 1) := by decide +kernel
theorem dl_433 : decode code 433 = .ok (.iadd, 1) := by decide +kernel
theorem dl_434 : decode code 434 = .ok (.iaload, 1) := by decide +kernel
theorem dl_435 : decode code 435 = .ok (.aload_n 0, 1) := by decide +kernel
theorem dl_436 : decode code 436 = .ok (.iload_n 3, 1) := by decide +kernel
theorem dl_437 : decode code 437 = .ok (.iconst 4, 1) := by decide +kernel
theorem dl_438 : decode code 438 = .ok (.iadd, 1) := by decide +kernel
theorem dl_439 : decode code 439 = .ok (.iaload, 1) := by decide +kernel
theorem dl_440 : decode code 440 = .ok (.invokevirtual 56, 3) := by decide +kernel
theorem dl_443 : decode code 443 = .ok (.aload_n 2, 1) := by decide +kernel
theorem dl_444 : decode code 444 = .ok (.aload_n 0, 1) := by decide +kernel
theorem dl_445 : decode code 445 = .ok (.iload_n 3, 1) := by decide +kernel
theorem dl_446 : decode code 446 = .ok (.iconst 1, 1) := by decide +kernel
theorem dl_447 : decode code 447 = .ok (.iadd, 1) := by decide +kernel
theorem dl_448 : decode code 448 = .ok (.iaload, 1) := by decide +kernel
theorem dl_449 : decode code 449 = .ok (.aload_n 0, 1) := by decide +kernel
theorem dl_450 : decode code 450 = .ok (.iload_n 3, 1) := by decide +kernel
theorem dl_451 : decode code 451 = .ok (.iconst 2, 1) := by decide +kernel
theorem dl_452 : decode code 452 = .ok (.iadd, 1) := by decide +kernel
theorem dl_453 : decode code 453 = .ok (.iaload, 1) := by decide +kernel
theorem dl_454 : decode code 454 = .ok (.aload_n 0, 1) := by decide +kernel
theorem dl_455 : decode code 455 = .ok (.iload_n 3, 1) := by decide +kernel
theorem dl_456 : decode code 456 = .ok (.iconst 3, 1) := by decide +kernel
theorem dl_457 : decode code 457 = .ok (.iadd, 1) := by decide +kernel
theorem dl_458 : decode code 458 = .ok (.iaload, 1) := by decide +kernel
theorem dl_459 : decode code 459 = .ok (.aload_n 0, 1) := by decide +kernel
theorem dl_460 : decode code 460 = .ok (.iload_n 3, 1) := by decide +kernel
theorem dl_461 : decode code 461 = .ok (.iconst 4, 1) := by decide +kernel
theorem dl_462 : decode code 462 = .ok (.iadd, 1) := by decide +kernel
theorem dl_463 : decode code 463 = .ok (.iaload, 1) := by decide +kernel
theorem dl_464 : decode code 464 = .ok (.invokevirtual 60, 3) := by decide +kernel
theorem dl_467 : decode code 467 = .ok (.if_icmp .eq 443, 3) := by decide +kernel
theorem dl_470 : decode code 470 = .ok (.iconst 0, 1) := by decide +kernel
theorem dl_471 : decode code 471 = .ok (.ireturn, 1) := by decide +kernel
theorem dl_472 : decode code 472 = .ok (.aload_n 1, 1) := by decide +kernel
theorem dl_473 : decode code 473 = .ok (.aload_n 0, 1) := by decide +kernel
theorem dl_474 : decode code 474 = .ok (.iload_n 3, 1) := by decide +kernel
theorem dl_475 : decode code 475 = .ok (.iconst 1, 1) := by decide +kernel
