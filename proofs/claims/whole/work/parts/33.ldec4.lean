theorem d_law_law_469 : decode code 469 = .ok (.if_icmp .eq 118, 3) := by decide +kernel
theorem d_law_law_472 : decode code 472 = .ok (.iconst 0, 1) := by decide +kernel
theorem d_law_law_473 : decode code 473 = .ok (.ireturn, 1) := by decide +kernel
theorem d_law_law_474 : decode code 474 = .ok (.aload_n 1, 1) := by decide +kernel
theorem d_law_law_475 : decode code 475 = .ok (.aload_n 0, 1) := by decide +kernel
theorem d_law_law_476 : decode code 476 = .ok (.iload_n 3, 1) := by decide +kernel
theorem d_law_law_477 : decode code 477 = .ok (.iconst 1, 1) := by decide +kernel
theorem d_law_law_478 : decode code 478 = .ok (.iadd, 1) := by decide +kernel
theorem d_law_law_479 : decode code 479 = .ok (.iaload, 1) := by decide +kernel
theorem d_law_law_480 : decode code 480 = .ok (.aload_n 0, 1) := by decide +kernel
theorem d_law_law_481 : decode code 481 = .ok (.iload_n 3, 1) := by decide +kernel
theorem d_law_law_482 : decode code 482 = .ok (.iconst 2, 1) := by decide +kernel
theorem d_law_law_483 : decode code 483 = .ok (.iadd, 1) := by decide +kernel
theorem d_law_law_484 : decode code 484 = .ok (.iaload, 1) := by decide +kernel
theorem d_law_law_485 : decode code 485 = .ok (.invokevirtual 75, 3) := by decide +kernel
theorem d_law_law_488 : decode code 488 = .ok (.aload_n 2, 1) := by decide +kernel
theorem d_law_law_489 : decode code 489 = .ok (.aload_n 0, 1) := by decide +kernel
theorem d_law_law_490 : decode code 490 = .ok (.iload_n 3, 1) := by decide +kernel
theorem d_law_law_491 : decode code 491 = .ok (.iconst 1, 1) := by decide +kernel
theorem d_law_law_492 : decode code 492 = .ok (.iadd, 1) := by decide +kernel
theorem d_law_law_493 : decode code 493 = .ok (.iaload, 1) := by decide +kernel
theorem d_law_law_494 : decode code 494 = .ok (.aload_n 0, 1) := by decide +kernel
theorem d_law_law_495 : decode code 495 = .ok (.iload_n 3, 1) := by decide +kernel
theorem d_law_law_496 : decode code 496 = .ok (.iconst 2, 1) := by decide +kernel
theorem d_law_law_497 : decode code 497 = .ok (.iadd, 1) := by decide +kernel
theorem d_law_law_498 : decode code 498 = .ok (.iaload, 1) := by decide +kernel
theorem d_law_law_499 : decode code 499 = .ok (.invokevirtual 78, 3) := by decide +kernel
theorem d_law_law_502 : decode code 502 = .ok (.if_icmp .eq 85, 3) := by decide +kernel
theorem d_law_law_505 : decode code 505 = .ok (.iconst 0, 1) := by decide +kernel
theorem d_law_law_506 : decode code 506 = .ok (.ireturn, 1) := by decide +kernel
theorem d_law_law_507 : decode code 507 = .ok (.aload_n 1, 1) := by decide +kernel
theorem d_law_law_508 : decode code 508 = .ok (.aload_n 0, 1) := by decide +kernel
theorem d_law_law_509 : decode code 509 = .ok (.iload_n 3, 1) := by decide +kernel
theorem d_law_law_510 : decode code 510 = .ok (.iconst 1, 1) := by decide +kernel
theorem d_law_law_511 : decode code 511 = .ok (.iadd, 1) := by decide +kernel
theorem d_law_law_512 : decode code 512 = .ok (.iaload, 1) := by decide +kernel
theorem d_law_law_513 : decode code 513 = .ok (.aload_n 0, 1) := by decide +kernel
theorem d_law_law_514 : decode code 514 = .ok (.iload_n 3, 1) := by decide +kernel
theorem d_law_law_515 : decode code 515 = .ok (.iconst 2, 1) := by decide +kernel
theorem d_law_law_516 : decode code 516 = .ok (.iadd, 1) := by decide +kernel
theorem d_law_law_517 : decode code 517 = .ok (.iaload, 1) := by decide +kernel
theorem d_law_law_518 : decode code 518 = .ok (.invokevirtual 79, 3) := by decide +kernel
theorem d_law_law_521 : decode code 521 = .ok (.aload_n 2, 1) := by decide +kernel
theorem d_law_law_522 : decode code 522 = .ok (.aload_n 0, 1) := by decide +kernel
theorem d_law_law_523 : decode code 523 = .ok (.iload_n 3, 1) := by decide +kernel
theorem d_law_law_524 : decode code 524 = .ok (.iconst 1, 1) := by decide +kernel
theorem d_law_law_525 : decode code 525 = .ok (.iadd, 1) := by decide +kernel
theorem d_law_law_526 : decode code 526 = .ok (.iaload, 1) := by decide +kernel
theorem d_law_law_527 : decode code 527 = .ok (.aload_n 0, 1) := by decide +kernel
theorem d_law_law_528 : decode code 528 = .ok (.iload_n 3, 1) := by decide +kernel
theorem d_law_law_529 : decode code 529 = .ok (.iconst 2, 1) := by decide +kernel
theorem d_law_law_530 : decode code 530 = .ok (.iadd, 1) := by decide +kernel
theorem d_law_law_531 : decode code 531 = .ok (.iaload, 1) := by decide +kernel
theorem d_law_law_532 : decode code 532 = .ok (.invokevirtual 82, 3) := by decide +kernel
theorem d_law_law_535 : decode code 535 = .ok (.if_icmp .eq 52, 3) := by decide +kernel
theorem d_law_law_538 : decode code 538 = .ok (.iconst 0, 1) := by decide +kernel
theorem d_law_law_539 : decode code 539 = .ok (.ireturn, 1) := by decide +kernel
theorem d_law_law_540 : decode code 540 = .ok (.aload_n 1, 1) := by decide +kernel
theorem d_law_law_541 : decode code 541 = .ok (.invokevirtual 83, 3) := by decide +kernel
theorem d_law_law_544 : decode code 544 = .ok (.aload_n 2, 1) := by decide +kernel
theorem d_law_law_545 : decode code 545 = .ok (.invokevirtual 86, 3) := by decide +kernel
theorem d_law_law_548 : decode code 548 = .ok (.if_icmp .eq 39, 3) := by decide +kernel
theorem d_law_law_551 : decode code 551 = .ok (.iconst 0, 1) := by decide +kernel
theorem d_law_law_552 : decode code 552 = .ok (.ireturn, 1) := by decide +kernel
theorem d_law_law_553 : decode code 553 = .ok (.aload_n 1, 1) := by decide +kernel
theorem d_law_law_554 : decode code 554 = .ok (.aload_n 0, 1) := by decide +kernel
theorem d_law_law_555 : decode code 555 = .ok (.iload_n 3, 1) := by decide +kernel
theorem d_law_law_556 : decode code 556 = .ok (.iconst 1, 1) := by decide +kernel
theorem d_law_law_557 : decode code 557 = .ok (.iadd, 1) := by decide +kernel
theorem d_law_law_558 : decode code 558 = .ok (.iaload, 1) := by decide +kernel
theorem d_law_law_559 : decode code 559 = .ok (.invokevirtual 87, 3) := by decide +kernel
theorem d_law_law_562 : decode code 562 = .ok (.aload_n 2, 1) := by decide +kernel
theorem d_law_law_563 : decode code 563 = .ok (.aload_n 0, 1) := by decide +kernel
theorem d_law_law_564 : decode code 564 = .ok (.iload_n 3, 1) := by decide +kernel
theorem d_law_law_565 : decode code 565 = .ok (.iconst 1, 1) := by decide +kernel
theorem d_law_law_566 : decode code 566 = .ok (.iadd, 1) := by decide +kernel
theorem d_law_law_567 : decode code 567 = .ok (.iaload, 1) := by decide +kernel
theorem d_law_law_568 : decode code 568 = .ok (.invokevirtual 90, 3) := by decide +kernel
theorem d_law_law_571 : decode code 571 = .ok (.if_icmp .eq 16, 3) := by decide +kernel
theorem d_law_law_574 : decode code 574 = .ok (.iconst 0, 1) := by decide +kernel
theorem d_law_law_575 : decode code 575 = .ok (.ireturn, 1) := by decide +kernel
theorem d_law_law_576 : decode code 576 = .ok (.aload_n 1, 1) := by decide +kernel
theorem d_law_law_577 : decode code 577 = .ok (.invokevirtual 91, 3) := by decide +kernel
theorem d_law_law_580 : decode code 580 = .ok (.aload_n 2, 1) := by decide +kernel
theorem d_law_law_581 : decode code 581 = .ok (.invokevirtual 94, 3) := by decide +kernel
theorem d_law_law_584 : decode code 584 = .ok (.goto 3, 3) := by decide +kernel
theorem d_law_law_587 : decode code 587 = .ok (.iinc 3 5, 3) := by decide +kernel
theorem d_law_law_590 : decode code 590 = .ok (.goto (-572), 3) := by decide +kernel
theorem d_law_law_593 : decode code 593 = .ok (.iconst 1, 1) := by decide +kernel
theorem d_law_law_594 : decode code 594 = .ok (.ireturn, 1) := by decide +kernel
