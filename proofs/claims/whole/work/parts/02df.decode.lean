theorem zd_L_law_462 : decode code 462 = .ok (.iaload, 1) := by decide +kernel
theorem zd_L_law_463 : decode code 463 = .ok (.invokevirtual 79, 3) := by decide +kernel
theorem zd_L_law_466 : decode code 466 = .ok (.if_icmp .eq 84, 3) := by decide +kernel
theorem zd_L_law_469 : decode code 469 = .ok (.iconst 0, 1) := by decide +kernel
theorem zd_L_law_470 : decode code 470 = .ok (.ireturn, 1) := by decide +kernel
theorem zd_L_law_471 : decode code 471 = .ok (.aload_n 1, 1) := by decide +kernel
theorem zd_L_law_472 : decode code 472 = .ok (.aload_n 0, 1) := by decide +kernel
theorem zd_L_law_473 : decode code 473 = .ok (.iload_n 3, 1) := by decide +kernel
theorem zd_L_law_474 : decode code 474 = .ok (.iconst 1, 1) := by decide +kernel
theorem zd_L_law_475 : decode code 475 = .ok (.iadd, 1) := by decide +kernel
theorem zd_L_law_476 : decode code 476 = .ok (.iaload, 1) := by decide +kernel
theorem zd_L_law_477 : decode code 477 = .ok (.aload_n 0, 1) := by decide +kernel
theorem zd_L_law_478 : decode code 478 = .ok (.iload_n 3, 1) := by decide +kernel
theorem zd_L_law_479 : decode code 479 = .ok (.iconst 2, 1) := by decide +kernel
theorem zd_L_law_480 : decode code 480 = .ok (.iadd, 1) := by decide +kernel
theorem zd_L_law_481 : decode code 481 = .ok (.iaload, 1) := by decide +kernel
theorem zd_L_law_482 : decode code 482 = .ok (.invokevirtual 80, 3) := by decide +kernel
theorem zd_L_law_485 : decode code 485 = .ok (.aload_n 2, 1) := by decide +kernel
theorem zd_L_law_486 : decode code 486 = .ok (.aload_n 0, 1) := by decide +kernel
theorem zd_L_law_487 : decode code 487 = .ok (.iload_n 3, 1) := by decide +kernel
theorem zd_L_law_488 : decode code 488 = .ok (.iconst 1, 1) := by decide +kernel
theorem zd_L_law_489 : decode code 489 = .ok (.iadd, 1) := by decide +kernel
theorem zd_L_law_490 : decode code 490 = .ok (.iaload, 1) := by decide +kernel
theorem zd_L_law_491 : decode code 491 = .ok (.aload_n 0, 1) := by decide +kernel
theorem zd_L_law_492 : decode code 492 = .ok (.iload_n 3, 1) := by decide +kernel
theorem zd_L_law_493 : decode code 493 = .ok (.iconst 2, 1) := by decide +kernel
theorem zd_L_law_494 : decode code 494 = .ok (.iadd, 1) := by decide +kernel
theorem zd_L_law_495 : decode code 495 = .ok (.iaload, 1) := by decide +kernel
theorem zd_L_law_496 : decode code 496 = .ok (.invokevirtual 83, 3) := by decide +kernel
theorem zd_L_law_499 : decode code 499 = .ok (.if_icmp .eq 51, 3) := by decide +kernel
theorem zd_L_law_502 : decode code 502 = .ok (.iconst 0, 1) := by decide +kernel
theorem zd_L_law_503 : decode code 503 = .ok (.ireturn, 1) := by decide +kernel
theorem zd_L_law_504 : decode code 504 = .ok (.aload_n 1, 1) := by decide +kernel
theorem zd_L_law_505 : decode code 505 = .ok (.aload_n 0, 1) := by decide +kernel
theorem zd_L_law_506 : decode code 506 = .ok (.iload_n 3, 1) := by decide +kernel
theorem zd_L_law_507 : decode code 507 = .ok (.iconst 1, 1) := by decide +kernel
theorem zd_L_law_508 : decode code 508 = .ok (.iadd, 1) := by decide +kernel
theorem zd_L_law_509 : decode code 509 = .ok (.iaload, 1) := by decide +kernel
theorem zd_L_law_510 : decode code 510 = .ok (.invokevirtual 84, 3) := by decide +kernel
theorem zd_L_law_513 : decode code 513 = .ok (.aload_n 2, 1) := by decide +kernel
theorem zd_L_law_514 : decode code 514 = .ok (.aload_n 0, 1) := by decide +kernel
theorem zd_L_law_515 : decode code 515 = .ok (.iload_n 3, 1) := by decide +kernel
theorem zd_L_law_516 : decode code 516 = .ok (.iconst 1, 1) := by decide +kernel
theorem zd_L_law_517 : decode code 517 = .ok (.iadd, 1) := by decide +kernel
theorem zd_L_law_518 : decode code 518 = .ok (.iaload, 1) := by decide +kernel
theorem zd_L_law_519 : decode code 519 = .ok (.invokevirtual 88, 3) := by decide +kernel
theorem zd_L_law_522 : decode code 522 = .ok (.if_icmp .eq 28, 3) := by decide +kernel
theorem zd_L_law_525 : decode code 525 = .ok (.iconst 0, 1) := by decide +kernel
theorem zd_L_law_526 : decode code 526 = .ok (.ireturn, 1) := by decide +kernel
theorem zd_L_law_527 : decode code 527 = .ok (.aload_n 1, 1) := by decide +kernel
theorem zd_L_law_528 : decode code 528 = .ok (.aload_n 0, 1) := by decide +kernel
theorem zd_L_law_529 : decode code 529 = .ok (.iload_n 3, 1) := by decide +kernel
theorem zd_L_law_530 : decode code 530 = .ok (.iconst 1, 1) := by decide +kernel
theorem zd_L_law_531 : decode code 531 = .ok (.iadd, 1) := by decide +kernel
theorem zd_L_law_532 : decode code 532 = .ok (.iaload, 1) := by decide +kernel
theorem zd_L_law_533 : decode code 533 = .ok (.invokevirtual 89, 3) := by decide +kernel
theorem zd_L_law_536 : decode code 536 = .ok (.aload_n 2, 1) := by decide +kernel
theorem zd_L_law_537 : decode code 537 = .ok (.aload_n 0, 1) := by decide +kernel
theorem zd_L_law_538 : decode code 538 = .ok (.iload_n 3, 1) := by decide +kernel
theorem zd_L_law_539 : decode code 539 = .ok (.iconst 1, 1) := by decide +kernel
theorem zd_L_law_540 : decode code 540 = .ok (.iadd, 1) := by decide +kernel
theorem zd_L_law_541 : decode code 541 = .ok (.iaload, 1) := by decide +kernel
theorem zd_L_law_542 : decode code 542 = .ok (.invokevirtual 92, 3) := by decide +kernel
theorem zd_L_law_545 : decode code 545 = .ok (.if_icmp .eq 5, 3) := by decide +kernel
theorem zd_L_law_548 : decode code 548 = .ok (.iconst 0, 1) := by decide +kernel
theorem zd_L_law_549 : decode code 549 = .ok (.ireturn, 1) := by decide +kernel
theorem zd_L_law_550 : decode code 550 = .ok (.iinc 3 4, 3) := by decide +kernel
theorem zd_L_law_553 : decode code 553 = .ok (.goto (-535), 3) := by decide +kernel
theorem zd_L_law_556 : decode code 556 = .ok (.iconst 1, 1) := by decide +kernel
theorem zd_L_law_557 : decode code 557 = .ok (.ireturn, 1) := by decide +kernel
