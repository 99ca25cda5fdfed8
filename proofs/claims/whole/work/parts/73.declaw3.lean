/-! the law's instructions, by place -/
theorem dL_law_470 : decode (mC iL_law) 470 = .ok (.ireturn, 1) := by decide +kernel
theorem dL_law_471 : decode (mC iL_law) 471 = .ok (.aload_n 1, 1) := by decide +kernel
theorem dL_law_472 : decode (mC iL_law) 472 = .ok (.aload_n 0, 1) := by decide +kernel
theorem dL_law_473 : decode (mC iL_law) 473 = .ok (.iload_n 3, 1) := by decide +kernel
theorem dL_law_474 : decode (mC iL_law) 474 = .ok (.iconst 1, 1) := by decide +kernel
theorem dL_law_475 : decode (mC iL_law) 475 = .ok (.iadd, 1) := by decide +kernel
theorem dL_law_476 : decode (mC iL_law) 476 = .ok (.iaload, 1) := by decide +kernel
theorem dL_law_477 : decode (mC iL_law) 477 = .ok (.aload_n 0, 1) := by decide +kernel
theorem dL_law_478 : decode (mC iL_law) 478 = .ok (.iload_n 3, 1) := by decide +kernel
theorem dL_law_479 : decode (mC iL_law) 479 = .ok (.iconst 2, 1) := by decide +kernel
theorem dL_law_480 : decode (mC iL_law) 480 = .ok (.iadd, 1) := by decide +kernel
theorem dL_law_481 : decode (mC iL_law) 481 = .ok (.iaload, 1) := by decide +kernel
theorem dL_law_482 : decode (mC iL_law) 482 = .ok (.invokevirtual 61, 3) := by decide +kernel
theorem dL_law_485 : decode (mC iL_law) 485 = .ok (.aload_n 2, 1) := by decide +kernel
theorem dL_law_486 : decode (mC iL_law) 486 = .ok (.aload_n 0, 1) := by decide +kernel
theorem dL_law_487 : decode (mC iL_law) 487 = .ok (.iload_n 3, 1) := by decide +kernel
theorem dL_law_488 : decode (mC iL_law) 488 = .ok (.iconst 1, 1) := by decide +kernel
theorem dL_law_489 : decode (mC iL_law) 489 = .ok (.iadd, 1) := by decide +kernel
theorem dL_law_490 : decode (mC iL_law) 490 = .ok (.iaload, 1) := by decide +kernel
theorem dL_law_491 : decode (mC iL_law) 491 = .ok (.aload_n 0, 1) := by decide +kernel
theorem dL_law_492 : decode (mC iL_law) 492 = .ok (.iload_n 3, 1) := by decide +kernel
theorem dL_law_493 : decode (mC iL_law) 493 = .ok (.iconst 2, 1) := by decide +kernel
theorem dL_law_494 : decode (mC iL_law) 494 = .ok (.iadd, 1) := by decide +kernel
theorem dL_law_495 : decode (mC iL_law) 495 = .ok (.iaload, 1) := by decide +kernel
theorem dL_law_496 : decode (mC iL_law) 496 = .ok (.invokevirtual 64, 3) := by decide +kernel
theorem dL_law_499 : decode (mC iL_law) 499 = .ok (.if_icmp .eq 334, 3) := by decide +kernel
theorem dL_law_502 : decode (mC iL_law) 502 = .ok (.iconst 0, 1) := by decide +kernel
theorem dL_law_503 : decode (mC iL_law) 503 = .ok (.ireturn, 1) := by decide +kernel
theorem dL_law_504 : decode (mC iL_law) 504 = .ok (.aload_n 1, 1) := by decide +kernel
theorem dL_law_505 : decode (mC iL_law) 505 = .ok (.aload_n 0, 1) := by decide +kernel
theorem dL_law_506 : decode (mC iL_law) 506 = .ok (.iload_n 3, 1) := by decide +kernel
theorem dL_law_507 : decode (mC iL_law) 507 = .ok (.iconst 1, 1) := by decide +kernel
theorem dL_law_508 : decode (mC iL_law) 508 = .ok (.iadd, 1) := by decide +kernel
theorem dL_law_509 : decode (mC iL_law) 509 = .ok (.iaload, 1) := by decide +kernel
theorem dL_law_510 : decode (mC iL_law) 510 = .ok (.aload_n 0, 1) := by decide +kernel
theorem dL_law_511 : decode (mC iL_law) 511 = .ok (.iload_n 3, 1) := by decide +kernel
theorem dL_law_512 : decode (mC iL_law) 512 = .ok (.iconst 2, 1) := by decide +kernel
theorem dL_law_513 : decode (mC iL_law) 513 = .ok (.iadd, 1) := by decide +kernel
theorem dL_law_514 : decode (mC iL_law) 514 = .ok (.iaload, 1) := by decide +kernel
theorem dL_law_515 : decode (mC iL_law) 515 = .ok (.invokevirtual 65, 3) := by decide +kernel
theorem dL_law_518 : decode (mC iL_law) 518 = .ok (.aload_n 2, 1) := by decide +kernel
theorem dL_law_519 : decode (mC iL_law) 519 = .ok (.aload_n 0, 1) := by decide +kernel
theorem dL_law_520 : decode (mC iL_law) 520 = .ok (.iload_n 3, 1) := by decide +kernel
theorem dL_law_521 : decode (mC iL_law) 521 = .ok (.iconst 1, 1) := by decide +kernel
theorem dL_law_522 : decode (mC iL_law) 522 = .ok (.iadd, 1) := by decide +kernel
theorem dL_law_523 : decode (mC iL_law) 523 = .ok (.iaload, 1) := by decide +kernel
theorem dL_law_524 : decode (mC iL_law) 524 = .ok (.aload_n 0, 1) := by decide +kernel
theorem dL_law_525 : decode (mC iL_law) 525 = .ok (.iload_n 3, 1) := by decide +kernel
theorem dL_law_526 : decode (mC iL_law) 526 = .ok (.iconst 2, 1) := by decide +kernel
theorem dL_law_527 : decode (mC iL_law) 527 = .ok (.iadd, 1) := by decide +kernel
theorem dL_law_528 : decode (mC iL_law) 528 = .ok (.iaload, 1) := by decide +kernel
theorem dL_law_529 : decode (mC iL_law) 529 = .ok (.invokevirtual 68, 3) := by decide +kernel
theorem dL_law_532 : decode (mC iL_law) 532 = .ok (.if_icmp .eq 301, 3) := by decide +kernel
theorem dL_law_535 : decode (mC iL_law) 535 = .ok (.iconst 0, 1) := by decide +kernel
theorem dL_law_536 : decode (mC iL_law) 536 = .ok (.ireturn, 1) := by decide +kernel
theorem dL_law_537 : decode (mC iL_law) 537 = .ok (.aload_n 1, 1) := by decide +kernel
theorem dL_law_538 : decode (mC iL_law) 538 = .ok (.aload_n 0, 1) := by decide +kernel
theorem dL_law_539 : decode (mC iL_law) 539 = .ok (.iload_n 3, 1) := by decide +kernel
theorem dL_law_540 : decode (mC iL_law) 540 = .ok (.iconst 1, 1) := by decide +kernel
theorem dL_law_541 : decode (mC iL_law) 541 = .ok (.iadd, 1) := by decide +kernel
theorem dL_law_542 : decode (mC iL_law) 542 = .ok (.iaload, 1) := by decide +kernel
theorem dL_law_543 : decode (mC iL_law) 543 = .ok (.invokevirtual 69, 3) := by decide +kernel
theorem dL_law_546 : decode (mC iL_law) 546 = .ok (.aload_n 2, 1) := by decide +kernel
theorem dL_law_547 : decode (mC iL_law) 547 = .ok (.aload_n 0, 1) := by decide +kernel
theorem dL_law_548 : decode (mC iL_law) 548 = .ok (.iload_n 3, 1) := by decide +kernel
theorem dL_law_549 : decode (mC iL_law) 549 = .ok (.iconst 1, 1) := by decide +kernel
theorem dL_law_550 : decode (mC iL_law) 550 = .ok (.iadd, 1) := by decide +kernel
theorem dL_law_551 : decode (mC iL_law) 551 = .ok (.iaload, 1) := by decide +kernel
theorem dL_law_552 : decode (mC iL_law) 552 = .ok (.invokevirtual 72, 3) := by decide +kernel
theorem dL_law_555 : decode (mC iL_law) 555 = .ok (.if_icmp .eq 278, 3) := by decide +kernel
theorem dL_law_558 : decode (mC iL_law) 558 = .ok (.iconst 0, 1) := by decide +kernel
theorem dL_law_559 : decode (mC iL_law) 559 = .ok (.ireturn, 1) := by decide +kernel
theorem dL_law_560 : decode (mC iL_law) 560 = .ok (.aload_n 1, 1) := by decide +kernel
theorem dL_law_561 : decode (mC iL_law) 561 = .ok (.aload_n 0, 1) := by decide +kernel
theorem dL_law_562 : decode (mC iL_law) 562 = .ok (.iload_n 3, 1) := by decide +kernel
theorem dL_law_563 : decode (mC iL_law) 563 = .ok (.iconst 1, 1) := by decide +kernel
theorem dL_law_564 : decode (mC iL_law) 564 = .ok (.iadd, 1) := by decide +kernel
theorem dL_law_565 : decode (mC iL_law) 565 = .ok (.iaload, 1) := by decide +kernel
theorem dL_law_566 : decode (mC iL_law) 566 = .ok (.invokevirtual 73, 3) := by decide +kernel
theorem dL_law_569 : decode (mC iL_law) 569 = .ok (.aload_n 2, 1) := by decide +kernel
theorem dL_law_570 : decode (mC iL_law) 570 = .ok (.aload_n 0, 1) := by decide +kernel
theorem dL_law_571 : decode (mC iL_law) 571 = .ok (.iload_n 3, 1) := by decide +kernel
theorem dL_law_572 : decode (mC iL_law) 572 = .ok (.iconst 1, 1) := by decide +kernel
theorem dL_law_573 : decode (mC iL_law) 573 = .ok (.iadd, 1) := by decide +kernel
theorem dL_law_574 : decode (mC iL_law) 574 = .ok (.iaload, 1) := by decide +kernel
theorem dL_law_575 : decode (mC iL_law) 575 = .ok (.invokevirtual 76, 3) := by decide +kernel
theorem dL_law_578 : decode (mC iL_law) 578 = .ok (.if_icmp .eq 255, 3) := by decide +kernel
theorem dL_law_581 : decode (mC iL_law) 581 = .ok (.iconst 0, 1) := by decide +kernel
theorem dL_law_582 : decode (mC iL_law) 582 = .ok (.ireturn, 1) := by decide +kernel
theorem dL_law_583 : decode (mC iL_law) 583 = .ok (.aload_n 1, 1) := by decide +kernel
theorem dL_law_584 : decode (mC iL_law) 584 = .ok (.aload_n 0, 1) := by decide +kernel
theorem dL_law_585 : decode (mC iL_law) 585 = .ok (.iload_n 3, 1) := by decide +kernel
theorem dL_law_586 : decode (mC iL_law) 586 = .ok (.iconst 1, 1) := by decide +kernel
theorem dL_law_587 : decode (mC iL_law) 587 = .ok (.iadd, 1) := by decide +kernel
theorem dL_law_588 : decode (mC iL_law) 588 = .ok (.iaload, 1) := by decide +kernel
theorem dL_law_589 : decode (mC iL_law) 589 = .ok (.invokevirtual 77, 3) := by decide +kernel
theorem dL_law_592 : decode (mC iL_law) 592 = .ok (.aload_n 2, 1) := by decide +kernel
theorem dL_law_593 : decode (mC iL_law) 593 = .ok (.aload_n 0, 1) := by decide +kernel
theorem dL_law_594 : decode (mC iL_law) 594 = .ok (.iload_n 3, 1) := by decide +kernel
theorem dL_law_595 : decode (mC iL_law) 595 = .ok (.iconst 1, 1) := by decide +kernel
theorem dL_law_596 : decode (mC iL_law) 596 = .ok (.iadd, 1) := by decide +kernel
theorem dL_law_597 : decode (mC iL_law) 597 = .ok (.iaload, 1) := by decide +kernel
theorem dL_law_598 : decode (mC iL_law) 598 = .ok (.invokevirtual 80, 3) := by decide +kernel
theorem dL_law_601 : decode (mC iL_law) 601 = .ok (.if_icmp .eq 232, 3) := by decide +kernel
theorem dL_law_604 : decode (mC iL_law) 604 = .ok (.iconst 0, 1) := by decide +kernel
theorem dL_law_605 : decode (mC iL_law) 605 = .ok (.ireturn, 1) := by decide +kernel
theorem dL_law_606 : decode (mC iL_law) 606 = .ok (.aload_n 1, 1) := by decide +kernel
theorem dL_law_607 : decode (mC iL_law) 607 = .ok (.aload_n 0, 1) := by decide +kernel
theorem dL_law_608 : decode (mC iL_law) 608 = .ok (.iload_n 3, 1) := by decide +kernel
theorem dL_law_609 : decode (mC iL_law) 609 = .ok (.iconst 1, 1) := by decide +kernel
theorem dL_law_610 : decode (mC iL_law) 610 = .ok (.iadd, 1) := by decide +kernel
theorem dL_law_611 : decode (mC iL_law) 611 = .ok (.iaload, 1) := by decide +kernel
theorem dL_law_612 : decode (mC iL_law) 612 = .ok (.aload_n 0, 1) := by decide +kernel
theorem dL_law_613 : decode (mC iL_law) 613 = .ok (.iload_n 3, 1) := by decide +kernel
theorem dL_law_614 : decode (mC iL_law) 614 = .ok (.iconst 2, 1) := by decide +kernel
theorem dL_law_615 : decode (mC iL_law) 615 = .ok (.iadd, 1) := by decide +kernel
theorem dL_law_616 : decode (mC iL_law) 616 = .ok (.iaload, 1) := by decide +kernel
theorem dL_law_617 : decode (mC iL_law) 617 = .ok (.invokevirtual 81, 3) := by decide +kernel
theorem dL_law_620 : decode (mC iL_law) 620 = .ok (.aload_n 2, 1) := by decide +kernel
theorem dL_law_621 : decode (mC iL_law) 621 = .ok (.aload_n 0, 1) := by decide +kernel
theorem dL_law_622 : decode (mC iL_law) 622 = .ok (.iload_n 3, 1) := by decide +kernel
theorem dL_law_623 : decode (mC iL_law) 623 = .ok (.iconst 1, 1) := by decide +kernel
theorem dL_law_624 : decode (mC iL_law) 624 = .ok (.iadd, 1) := by decide +kernel
theorem dL_law_625 : decode (mC iL_law) 625 = .ok (.iaload, 1) := by decide +kernel
theorem dL_law_626 : decode (mC iL_law) 626 = .ok (.aload_n 0, 1) := by decide +kernel
theorem dL_law_627 : decode (mC iL_law) 627 = .ok (.iload_n 3, 1) := by decide +kernel
theorem dL_law_628 : decode (mC iL_law) 628 = .ok (.iconst 2, 1) := by decide +kernel
theorem dL_law_629 : decode (mC iL_law) 629 = .ok (.iadd, 1) := by decide +kernel
theorem dL_law_630 : decode (mC iL_law) 630 = .ok (.iaload, 1) := by decide +kernel
theorem dL_law_631 : decode (mC iL_law) 631 = .ok (.invokevirtual 84, 3) := by decide +kernel
theorem dL_law_634 : decode (mC iL_law) 634 = .ok (.if_icmp .eq 199, 3) := by decide +kernel
theorem dL_law_637 : decode (mC iL_law) 637 = .ok (.iconst 0, 1) := by decide +kernel
theorem dL_law_638 : decode (mC iL_law) 638 = .ok (.ireturn, 1) := by decide +kernel
theorem dL_law_639 : decode (mC iL_law) 639 = .ok (.aload_n 1, 1) := by decide +kernel
theorem dL_law_640 : decode (mC iL_law) 640 = .ok (.aload_n 0, 1) := by decide +kernel
theorem dL_law_641 : decode (mC iL_law) 641 = .ok (.iload_n 3, 1) := by decide +kernel
theorem dL_law_642 : decode (mC iL_law) 642 = .ok (.iconst 1, 1) := by decide +kernel
theorem dL_law_643 : decode (mC iL_law) 643 = .ok (.iadd, 1) := by decide +kernel
theorem dL_law_644 : decode (mC iL_law) 644 = .ok (.iaload, 1) := by decide +kernel
