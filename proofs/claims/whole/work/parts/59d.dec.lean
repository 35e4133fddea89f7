/-! the law: decoded -/
theorem d_Lw_law_450 : decode code 450 = .ok (.iaload, 1) := by decide +kernel
theorem d_Lw_law_451 : decode code 451 = .ok (.invokevirtual 48, 3) := by decide +kernel
theorem d_Lw_law_454 : decode code 454 = .ok (.if_icmp .eq 713, 3) := by decide +kernel
theorem d_Lw_law_457 : decode code 457 = .ok (.iconst 0, 1) := by decide +kernel
theorem d_Lw_law_458 : decode code 458 = .ok (.ireturn, 1) := by decide +kernel
theorem d_Lw_law_459 : decode code 459 = .ok (.aload_n 1, 1) := by decide +kernel
theorem d_Lw_law_460 : decode code 460 = .ok (.aload_n 0, 1) := by decide +kernel
theorem d_Lw_law_461 : decode code 461 = .ok (.iload_n 3, 1) := by decide +kernel
theorem d_Lw_law_462 : decode code 462 = .ok (.iconst 1, 1) := by decide +kernel
theorem d_Lw_law_463 : decode code 463 = .ok (.iadd, 1) := by decide +kernel
theorem d_Lw_law_464 : decode code 464 = .ok (.iaload, 1) := by decide +kernel
theorem d_Lw_law_465 : decode code 465 = .ok (.aload_n 0, 1) := by decide +kernel
theorem d_Lw_law_466 : decode code 466 = .ok (.iload_n 3, 1) := by decide +kernel
theorem d_Lw_law_467 : decode code 467 = .ok (.iconst 2, 1) := by decide +kernel
theorem d_Lw_law_468 : decode code 468 = .ok (.iadd, 1) := by decide +kernel
theorem d_Lw_law_469 : decode code 469 = .ok (.iaload, 1) := by decide +kernel
theorem d_Lw_law_470 : decode code 470 = .ok (.aload_n 0, 1) := by decide +kernel
theorem d_Lw_law_471 : decode code 471 = .ok (.iload_n 3, 1) := by decide +kernel
theorem d_Lw_law_472 : decode code 472 = .ok (.iconst 3, 1) := by decide +kernel
theorem d_Lw_law_473 : decode code 473 = .ok (.iadd, 1) := by decide +kernel
theorem d_Lw_law_474 : decode code 474 = .ok (.iaload, 1) := by decide +kernel
theorem d_Lw_law_475 : decode code 475 = .ok (.invokevirtual 49, 3) := by decide +kernel
theorem d_Lw_law_478 : decode code 478 = .ok (.aload_n 2, 1) := by decide +kernel
theorem d_Lw_law_479 : decode code 479 = .ok (.aload_n 0, 1) := by decide +kernel
theorem d_Lw_law_480 : decode code 480 = .ok (.iload_n 3, 1) := by decide +kernel
theorem d_Lw_law_481 : decode code 481 = .ok (.iconst 1, 1) := by decide +kernel
theorem d_Lw_law_482 : decode code 482 = .ok (.iadd, 1) := by decide +kernel
theorem d_Lw_law_483 : decode code 483 = .ok (.iaload, 1) := by decide +kernel
theorem d_Lw_law_484 : decode code 484 = .ok (.aload_n 0, 1) := by decide +kernel
theorem d_Lw_law_485 : decode code 485 = .ok (.iload_n 3, 1) := by decide +kernel
theorem d_Lw_law_486 : decode code 486 = .ok (.iconst 2, 1) := by decide +kernel
theorem d_Lw_law_487 : decode code 487 = .ok (.iadd, 1) := by decide +kernel
theorem d_Lw_law_488 : decode code 488 = .ok (.iaload, 1) := by decide +kernel
theorem d_Lw_law_489 : decode code 489 = .ok (.aload_n 0, 1) := by decide +kernel
theorem d_Lw_law_490 : decode code 490 = .ok (.iload_n 3, 1) := by decide +kernel
theorem d_Lw_law_491 : decode code 491 = .ok (.iconst 3, 1) := by decide +kernel
theorem d_Lw_law_492 : decode code 492 = .ok (.iadd, 1) := by decide +kernel
theorem d_Lw_law_493 : decode code 493 = .ok (.iaload, 1) := by decide +kernel
theorem d_Lw_law_494 : decode code 494 = .ok (.invokevirtual 52, 3) := by decide +kernel
theorem d_Lw_law_497 : decode code 497 = .ok (.if_icmp .eq 670, 3) := by decide +kernel
theorem d_Lw_law_500 : decode code 500 = .ok (.iconst 0, 1) := by decide +kernel
theorem d_Lw_law_501 : decode code 501 = .ok (.ireturn, 1) := by decide +kernel
theorem d_Lw_law_502 : decode code 502 = .ok (.aload_n 1, 1) := by decide +kernel
theorem d_Lw_law_503 : decode code 503 = .ok (.aload_n 0, 1) := by decide +kernel
theorem d_Lw_law_504 : decode code 504 = .ok (.iload_n 3, 1) := by decide +kernel
theorem d_Lw_law_505 : decode code 505 = .ok (.iconst 1, 1) := by decide +kernel
theorem d_Lw_law_506 : decode code 506 = .ok (.iadd, 1) := by decide +kernel
theorem d_Lw_law_507 : decode code 507 = .ok (.iaload, 1) := by decide +kernel
theorem d_Lw_law_508 : decode code 508 = .ok (.aload_n 0, 1) := by decide +kernel
theorem d_Lw_law_509 : decode code 509 = .ok (.iload_n 3, 1) := by decide +kernel
theorem d_Lw_law_510 : decode code 510 = .ok (.iconst 2, 1) := by decide +kernel
theorem d_Lw_law_511 : decode code 511 = .ok (.iadd, 1) := by decide +kernel
theorem d_Lw_law_512 : decode code 512 = .ok (.iaload, 1) := by decide +kernel
theorem d_Lw_law_513 : decode code 513 = .ok (.invokevirtual 53, 3) := by decide +kernel
theorem d_Lw_law_516 : decode code 516 = .ok (.aload_n 2, 1) := by decide +kernel
theorem d_Lw_law_517 : decode code 517 = .ok (.aload_n 0, 1) := by decide +kernel
theorem d_Lw_law_518 : decode code 518 = .ok (.iload_n 3, 1) := by decide +kernel
theorem d_Lw_law_519 : decode code 519 = .ok (.iconst 1, 1) := by decide +kernel
theorem d_Lw_law_520 : decode code 520 = .ok (.iadd, 1) := by decide +kernel
theorem d_Lw_law_521 : decode code 521 = .ok (.iaload, 1) := by decide +kernel
theorem d_Lw_law_522 : decode code 522 = .ok (.aload_n 0, 1) := by decide +kernel
theorem d_Lw_law_523 : decode code 523 = .ok (.iload_n 3, 1) := by decide +kernel
theorem d_Lw_law_524 : decode code 524 = .ok (.iconst 2, 1) := by decide +kernel
theorem d_Lw_law_525 : decode code 525 = .ok (.iadd, 1) := by decide +kernel
theorem d_Lw_law_526 : decode code 526 = .ok (.iaload, 1) := by decide +kernel
theorem d_Lw_law_527 : decode code 527 = .ok (.invokevirtual 56, 3) := by decide +kernel
theorem d_Lw_law_530 : decode code 530 = .ok (.if_icmp .eq 637, 3) := by decide +kernel
theorem d_Lw_law_533 : decode code 533 = .ok (.iconst 0, 1) := by decide +kernel
theorem d_Lw_law_534 : decode code 534 = .ok (.ireturn, 1) := by decide +kernel
theorem d_Lw_law_535 : decode code 535 = .ok (.aload_n 1, 1) := by decide +kernel
theorem d_Lw_law_536 : decode code 536 = .ok (.aload_n 0, 1) := by decide +kernel
theorem d_Lw_law_537 : decode code 537 = .ok (.iload_n 3, 1) := by decide +kernel
theorem d_Lw_law_538 : decode code 538 = .ok (.iconst 1, 1) := by decide +kernel
theorem d_Lw_law_539 : decode code 539 = .ok (.iadd, 1) := by decide +kernel
theorem d_Lw_law_540 : decode code 540 = .ok (.iaload, 1) := by decide +kernel
theorem d_Lw_law_541 : decode code 541 = .ok (.invokevirtual 57, 3) := by decide +kernel
theorem d_Lw_law_544 : decode code 544 = .ok (.aload_n 2, 1) := by decide +kernel
theorem d_Lw_law_545 : decode code 545 = .ok (.aload_n 0, 1) := by decide +kernel
theorem d_Lw_law_546 : decode code 546 = .ok (.iload_n 3, 1) := by decide +kernel
theorem d_Lw_law_547 : decode code 547 = .ok (.iconst 1, 1) := by decide +kernel
theorem d_Lw_law_548 : decode code 548 = .ok (.iadd, 1) := by decide +kernel
theorem d_Lw_law_549 : decode code 549 = .ok (.iaload, 1) := by decide +kernel
theorem d_Lw_law_550 : decode code 550 = .ok (.invokevirtual 60, 3) := by decide +kernel
theorem d_Lw_law_553 : decode code 553 = .ok (.if_icmp .eq 614, 3) := by decide +kernel
theorem d_Lw_law_556 : decode code 556 = .ok (.iconst 0, 1) := by decide +kernel
theorem d_Lw_law_557 : decode code 557 = .ok (.ireturn, 1) := by decide +kernel
theorem d_Lw_law_558 : decode code 558 = .ok (.aload_n 1, 1) := by decide +kernel
theorem d_Lw_law_559 : decode code 559 = .ok (.aload_n 0, 1) := by decide +kernel
theorem d_Lw_law_560 : decode code 560 = .ok (.iload_n 3, 1) := by decide +kernel
theorem d_Lw_law_561 : decode code 561 = .ok (.iconst 1, 1) := by decide +kernel
theorem d_Lw_law_562 : decode code 562 = .ok (.iadd, 1) := by decide +kernel
theorem d_Lw_law_563 : decode code 563 = .ok (.iaload, 1) := by decide +kernel
theorem d_Lw_law_564 : decode code 564 = .ok (.invokevirtual 61, 3) := by decide +kernel
theorem d_Lw_law_567 : decode code 567 = .ok (.aload_n 2, 1) := by decide +kernel
theorem d_Lw_law_568 : decode code 568 = .ok (.aload_n 0, 1) := by decide +kernel
theorem d_Lw_law_569 : decode code 569 = .ok (.iload_n 3, 1) := by decide +kernel
theorem d_Lw_law_570 : decode code 570 = .ok (.iconst 1, 1) := by decide +kernel
theorem d_Lw_law_571 : decode code 571 = .ok (.iadd, 1) := by decide +kernel
theorem d_Lw_law_572 : decode code 572 = .ok (.iaload, 1) := by decide +kernel
theorem d_Lw_law_573 : decode code 573 = .ok (.invokevirtual 64, 3) := by decide +kernel
theorem d_Lw_law_576 : decode code 576 = .ok (.if_icmp .eq 591, 3) := by decide +kernel
theorem d_Lw_law_579 : decode code 579 = .ok (.iconst 0, 1) := by decide +kernel
theorem d_Lw_law_580 : decode code 580 = .ok (.ireturn, 1) := by decide +kernel
theorem d_Lw_law_581 : decode code 581 = .ok (.aload_n 1, 1) := by decide +kernel
theorem d_Lw_law_582 : decode code 582 = .ok (.aload_n 0, 1) := by decide +kernel
theorem d_Lw_law_583 : decode code 583 = .ok (.iload_n 3, 1) := by decide +kernel
theorem d_Lw_law_584 : decode code 584 = .ok (.iconst 1, 1) := by decide +kernel
theorem d_Lw_law_585 : decode code 585 = .ok (.iadd, 1) := by decide +kernel
theorem d_Lw_law_586 : decode code 586 = .ok (.iaload, 1) := by decide +kernel
theorem d_Lw_law_587 : decode code 587 = .ok (.aload_n 0, 1) := by decide +kernel
theorem d_Lw_law_588 : decode code 588 = .ok (.iload_n 3, 1) := by decide +kernel
theorem d_Lw_law_589 : decode code 589 = .ok (.iconst 2, 1) := by decide +kernel
theorem d_Lw_law_590 : decode code 590 = .ok (.iadd, 1) := by decide +kernel
theorem d_Lw_law_591 : decode code 591 = .ok (.iaload, 1) := by decide +kernel
theorem d_Lw_law_592 : decode code 592 = .ok (.invokevirtual 65, 3) := by decide +kernel
theorem d_Lw_law_595 : decode code 595 = .ok (.aload_n 2, 1) := by decide +kernel
theorem d_Lw_law_596 : decode code 596 = .ok (.aload_n 0, 1) := by decide +kernel
theorem d_Lw_law_597 : decode code 597 = .ok (.iload_n 3, 1) := by decide +kernel
theorem d_Lw_law_598 : decode code 598 = .ok (.iconst 1, 1) := by decide +kernel
theorem d_Lw_law_599 : decode code 599 = .ok (.iadd, 1) := by decide +kernel

