theorem d_LA_law_432 : decode (xcode m_LA_law) 432 = .ok (.iaload, 1) := by decide +kernel
theorem d_LA_law_433 : decode (xcode m_LA_law) 433 = .ok (.aload_n 0, 1) := by decide +kernel
theorem d_LA_law_434 : decode (xcode m_LA_law) 434 = .ok (.iload_n 3, 1) := by decide +kernel
theorem d_LA_law_435 : decode (xcode m_LA_law) 435 = .ok (.iconst 4, 1) := by decide +kernel
theorem d_LA_law_436 : decode (xcode m_LA_law) 436 = .ok (.iadd, 1) := by decide +kernel
theorem d_LA_law_437 : decode (xcode m_LA_law) 437 = .ok (.iaload, 1) := by decide +kernel
theorem d_LA_law_438 : decode (xcode m_LA_law) 438 = .ok (.invokevirtual 48, 3) := by decide +kernel
theorem d_LA_law_441 : decode (xcode m_LA_law) 441 = .ok (.if_icmp .eq 903, 3) := by decide +kernel
theorem d_LA_law_444 : decode (xcode m_LA_law) 444 = .ok (.iconst 0, 1) := by decide +kernel
theorem d_LA_law_445 : decode (xcode m_LA_law) 445 = .ok (.ireturn, 1) := by decide +kernel
theorem d_LA_law_446 : decode (xcode m_LA_law) 446 = .ok (.aload_n 1, 1) := by decide +kernel
theorem d_LA_law_447 : decode (xcode m_LA_law) 447 = .ok (.aload_n 0, 1) := by decide +kernel
theorem d_LA_law_448 : decode (xcode m_LA_law) 448 = .ok (.iload_n 3, 1) := by decide +kernel
theorem d_LA_law_449 : decode (xcode m_LA_law) 449 = .ok (.iconst 1, 1) := by decide +kernel
theorem d_LA_law_450 : decode (xcode m_LA_law) 450 = .ok (.iadd, 1) := by decide +kernel
theorem d_LA_law_451 : decode (xcode m_LA_law) 451 = .ok (.iaload, 1) := by decide +kernel
theorem d_LA_law_452 : decode (xcode m_LA_law) 452 = .ok (.aload_n 0, 1) := by decide +kernel
theorem d_LA_law_453 : decode (xcode m_LA_law) 453 = .ok (.iload_n 3, 1) := by decide +kernel
theorem d_LA_law_454 : decode (xcode m_LA_law) 454 = .ok (.iconst 2, 1) := by decide +kernel
theorem d_LA_law_455 : decode (xcode m_LA_law) 455 = .ok (.iadd, 1) := by decide +kernel
theorem d_LA_law_456 : decode (xcode m_LA_law) 456 = .ok (.iaload, 1) := by decide +kernel
theorem d_LA_law_457 : decode (xcode m_LA_law) 457 = .ok (.aload_n 0, 1) := by decide +kernel
theorem d_LA_law_458 : decode (xcode m_LA_law) 458 = .ok (.iload_n 3, 1) := by decide +kernel
theorem d_LA_law_459 : decode (xcode m_LA_law) 459 = .ok (.iconst 3, 1) := by decide +kernel
theorem d_LA_law_460 : decode (xcode m_LA_law) 460 = .ok (.iadd, 1) := by decide +kernel
theorem d_LA_law_461 : decode (xcode m_LA_law) 461 = .ok (.iaload, 1) := by decide +kernel
theorem d_LA_law_462 : decode (xcode m_LA_law) 462 = .ok (.aload_n 0, 1) := by decide +kernel
theorem d_LA_law_463 : decode (xcode m_LA_law) 463 = .ok (.iload_n 3, 1) := by decide +kernel
theorem d_LA_law_464 : decode (xcode m_LA_law) 464 = .ok (.iconst 4, 1) := by decide +kernel
theorem d_LA_law_465 : decode (xcode m_LA_law) 465 = .ok (.iadd, 1) := by decide +kernel
theorem d_LA_law_466 : decode (xcode m_LA_law) 466 = .ok (.iaload, 1) := by decide +kernel
theorem d_LA_law_467 : decode (xcode m_LA_law) 467 = .ok (.invokevirtual 49, 3) := by decide +kernel
theorem d_LA_law_470 : decode (xcode m_LA_law) 470 = .ok (.aload_n 2, 1) := by decide +kernel
theorem d_LA_law_471 : decode (xcode m_LA_law) 471 = .ok (.aload_n 0, 1) := by decide +kernel
theorem d_LA_law_472 : decode (xcode m_LA_law) 472 = .ok (.iload_n 3, 1) := by decide +kernel
theorem d_LA_law_473 : decode (xcode m_LA_law) 473 = .ok (.iconst 1, 1) := by decide +kernel
theorem d_LA_law_474 : decode (xcode m_LA_law) 474 = .ok (.iadd, 1) := by decide +kernel
theorem d_LA_law_475 : decode (xcode m_LA_law) 475 = .ok (.iaload, 1) := by decide +kernel
theorem d_LA_law_476 : decode (xcode m_LA_law) 476 = .ok (.aload_n 0, 1) := by decide +kernel
theorem d_LA_law_477 : decode (xcode m_LA_law) 477 = .ok (.iload_n 3, 1) := by decide +kernel
theorem d_LA_law_478 : decode (xcode m_LA_law) 478 = .ok (.iconst 2, 1) := by decide +kernel
theorem d_LA_law_479 : decode (xcode m_LA_law) 479 = .ok (.iadd, 1) := by decide +kernel
theorem d_LA_law_480 : decode (xcode m_LA_law) 480 = .ok (.iaload, 1) := by decide +kernel
theorem d_LA_law_481 : decode (xcode m_LA_law) 481 = .ok (.aload_n 0, 1) := by decide +kernel
theorem d_LA_law_482 : decode (xcode m_LA_law) 482 = .ok (.iload_n 3, 1) := by decide +kernel
theorem d_LA_law_483 : decode (xcode m_LA_law) 483 = .ok (.iconst 3, 1) := by decide +kernel
theorem d_LA_law_484 : decode (xcode m_LA_law) 484 = .ok (.iadd, 1) := by decide +kernel
theorem d_LA_law_485 : decode (xcode m_LA_law) 485 = .ok (.iaload, 1) := by decide +kernel
theorem d_LA_law_486 : decode (xcode m_LA_law) 486 = .ok (.aload_n 0, 1) := by decide +kernel
theorem d_LA_law_487 : decode (xcode m_LA_law) 487 = .ok (.iload_n 3, 1) := by decide +kernel
theorem d_LA_law_488 : decode (xcode m_LA_law) 488 = .ok (.iconst 4, 1) := by decide +kernel
theorem d_LA_law_489 : decode (xcode m_LA_law) 489 = .ok (.iadd, 1) := by decide +kernel
theorem d_LA_law_490 : decode (xcode m_LA_law) 490 = .ok (.iaload, 1) := by decide +kernel
theorem d_LA_law_491 : decode (xcode m_LA_law) 491 = .ok (.invokevirtual 52, 3) := by decide +kernel
theorem d_LA_law_494 : decode (xcode m_LA_law) 494 = .ok (.if_icmp .eq 850, 3) := by decide +kernel
theorem d_LA_law_497 : decode (xcode m_LA_law) 497 = .ok (.iconst 0, 1) := by decide +kernel
theorem d_LA_law_498 : decode (xcode m_LA_law) 498 = .ok (.ireturn, 1) := by decide +kernel
theorem d_LA_law_499 : decode (xcode m_LA_law) 499 = .ok (.aload_n 1, 1) := by decide +kernel
theorem d_LA_law_500 : decode (xcode m_LA_law) 500 = .ok (.aload_n 0, 1) := by decide +kernel
theorem d_LA_law_501 : decode (xcode m_LA_law) 501 = .ok (.iload_n 3, 1) := by decide +kernel
theorem d_LA_law_502 : decode (xcode m_LA_law) 502 = .ok (.iconst 1, 1) := by decide +kernel
theorem d_LA_law_503 : decode (xcode m_LA_law) 503 = .ok (.iadd, 1) := by decide +kernel
theorem d_LA_law_504 : decode (xcode m_LA_law) 504 = .ok (.iaload, 1) := by decide +kernel
theorem d_LA_law_505 : decode (xcode m_LA_law) 505 = .ok (.aload_n 0, 1) := by decide +kernel
theorem d_LA_law_506 : decode (xcode m_LA_law) 506 = .ok (.iload_n 3, 1) := by decide +kernel
theorem d_LA_law_507 : decode (xcode m_LA_law) 507 = .ok (.iconst 2, 1) := by decide +kernel
theorem d_LA_law_508 : decode (xcode m_LA_law) 508 = .ok (.iadd, 1) := by decide +kernel
theorem d_LA_law_509 : decode (xcode m_LA_law) 509 = .ok (.iaload, 1) := by decide +kernel
theorem d_LA_law_510 : decode (xcode m_LA_law) 510 = .ok (.aload_n 0, 1) := by decide +kernel
theorem d_LA_law_511 : decode (xcode m_LA_law) 511 = .ok (.iload_n 3, 1) := by decide +kernel
theorem d_LA_law_512 : decode (xcode m_LA_law) 512 = .ok (.iconst 3, 1) := by decide +kernel
theorem d_LA_law_513 : decode (xcode m_LA_law) 513 = .ok (.iadd, 1) := by decide +kernel
theorem d_LA_law_514 : decode (xcode m_LA_law) 514 = .ok (.iaload, 1) := by decide +kernel
theorem d_LA_law_515 : decode (xcode m_LA_law) 515 = .ok (.aload_n 0, 1) := by decide +kernel
theorem d_LA_law_516 : decode (xcode m_LA_law) 516 = .ok (.iload_n 3, 1) := by decide +kernel
theorem d_LA_law_517 : decode (xcode m_LA_law) 517 = .ok (.iconst 4, 1) := by decide +kernel
theorem d_LA_law_518 : decode (xcode m_LA_law) 518 = .ok (.iadd, 1) := by decide +kernel
theorem d_LA_law_519 : decode (xcode m_LA_law) 519 = .ok (.iaload, 1) := by decide +kernel
theorem d_LA_law_520 : decode (xcode m_LA_law) 520 = .ok (.invokevirtual 53, 3) := by decide +kernel
theorem d_LA_law_523 : decode (xcode m_LA_law) 523 = .ok (.aload_n 2, 1) := by decide +kernel
theorem d_LA_law_524 : decode (xcode m_LA_law) 524 = .ok (.aload_n 0, 1) := by decide +kernel
theorem d_LA_law_525 : decode (xcode m_LA_law) 525 = .ok (.iload_n 3, 1) := by decide +kernel
theorem d_LA_law_526 : decode (xcode m_LA_law) 526 = .ok (.iconst 1, 1) := by decide +kernel
theorem d_LA_law_527 : decode (xcode m_LA_law) 527 = .ok (.iadd, 1) := by decide +kernel
theorem d_LA_law_528 : decode (xcode m_LA_law) 528 = .ok (.iaload, 1) := by decide +kernel
theorem d_LA_law_529 : decode (xcode m_LA_law) 529 = .ok (.aload_n 0, 1) := by decide +kernel
theorem d_LA_law_530 : decode (xcode m_LA_law) 530 = .ok (.iload_n 3, 1) := by decide +kernel
theorem d_LA_law_531 : decode (xcode m_LA_law) 531 = .ok (.iconst 2, 1) := by decide +kernel
theorem d_LA_law_532 : decode (xcode m_LA_law) 532 = .ok (.iadd, 1) := by decide +kernel
theorem d_LA_law_533 : decode (xcode m_LA_law) 533 = .ok (.iaload, 1) := by decide +kernel
theorem d_LA_law_534 : decode (xcode m_LA_law) 534 = .ok (.aload_n 0, 1) := by decide +kernel
theorem d_LA_law_535 : decode (xcode m_LA_law) 535 = .ok (.iload_n 3, 1) := by decide +kernel
theorem d_LA_law_536 : decode (xcode m_LA_law) 536 = .ok (.iconst 3, 1) := by decide +kernel
theorem d_LA_law_537 : decode (xcode m_LA_law) 537 = .ok (.iadd, 1) := by decide +kernel
theorem d_LA_law_538 : decode (xcode m_LA_law) 538 = .ok (.iaload, 1) := by decide +kernel
theorem d_LA_law_539 : decode (xcode m_LA_law) 539 = .ok (.aload_n 0, 1) := by decide +kernel
theorem d_LA_law_540 : decode (xcode m_LA_law) 540 = .ok (.iload_n 3, 1) := by decide +kernel
theorem d_LA_law_541 : decode (xcode m_LA_law) 541 = .ok (.iconst 4, 1) := by decide +kernel
theorem d_LA_law_542 : decode (xcode m_LA_law) 542 = .ok (.iadd, 1) := by decide +kernel
theorem d_LA_law_543 : decode (xcode m_LA_law) 543 = .ok (.iaload, 1) := by decide +kernel
theorem d_LA_law_544 : decode (xcode m_LA_law) 544 = .ok (.invokevirtual 56, 3) := by decide +kernel
theorem d_LA_law_547 : decode (xcode m_LA_law) 547 = .ok (.if_icmp .eq 797, 3) := by decide +kernel
theorem d_LA_law_550 : decode (xcode m_LA_law) 550 = .ok (.iconst 0, 1) := by decide +kernel
theorem d_LA_law_551 : decode (xcode m_LA_law) 551 = .ok (.ireturn, 1) := by decide +kernel
theorem d_LA_law_552 : decode (xcode m_LA_law) 552 = .ok (.aload_n 1, 1) := by decide +kernel
theorem d_LA_law_553 : decode (xcode m_LA_law) 553 = .ok (.aload_n 0, 1) := by decide +kernel
theorem d_LA_law_554 : decode (xcode m_LA_law) 554 = .ok (.iload_n 3, 1) := by decide +kernel
theorem d_LA_law_555 : decode (xcode m_LA_law) 555 = .ok (.iconst 1, 1) := by decide +kernel
theorem d_LA_law_556 : decode (xcode m_LA_law) 556 = .ok (.iadd, 1) := by decide +kernel
theorem d_LA_law_557 : decode (xcode m_LA_law) 557 = .ok (.iaload, 1) := by decide +kernel
theorem d_LA_law_558 : decode (xcode m_LA_law) 558 = .ok (.aload_n 0, 1) := by decide +kernel
theorem d_LA_law_559 : decode (xcode m_LA_law) 559 = .ok (.iload_n 3, 1) := by decide +kernel
theorem d_LA_law_560 : decode (xcode m_LA_law) 560 = .ok (.iconst 2, 1) := by decide +kernel
theorem d_LA_law_561 : decode (xcode m_LA_law) 561 = .ok (.iadd, 1) := by decide +kernel
theorem d_LA_law_562 : decode (xcode m_LA_law) 562 = .ok (.iaload, 1) := by decide +kernel
theorem d_LA_law_563 : decode (xcode m_LA_law) 563 = .ok (.aload_n 0, 1) := by decide +kernel
theorem d_LA_law_564 : decode (xcode m_LA_law) 564 = .ok (.iload_n 3, 1) := by decide +kernel
theorem d_LA_law_565 : decode (xcode m_LA_law) 565 = .ok (.iconst 3, 1) := by decide +kernel
theorem d_LA_law_566 : decode (xcode m_LA_law) 566 = .ok (.iadd, 1) := by decide +kernel
theorem d_LA_law_567 : decode (xcode m_LA_law) 567 = .ok (.iaload, 1) := by decide +kernel
theorem d_LA_law_568 : decode (xcode m_LA_law) 568 = .ok (.invokevirtual 57, 3) := by decide +kernel
theorem d_LA_law_571 : decode (xcode m_LA_law) 571 = .ok (.aload_n 2, 1) := by decide +kernel
theorem d_LA_law_572 : decode (xcode m_LA_law) 572 = .ok (.aload_n 0, 1) := by decide +kernel
theorem d_LA_law_573 : decode (xcode m_LA_law) 573 = .ok (.iload_n 3, 1) := by decide +kernel
theorem d_LA_law_574 : decode (xcode m_LA_law) 574 = .ok (.iconst 1, 1) := by decide +kernel
theorem d_LA_law_575 : decode (xcode m_LA_law) 575 = .ok (.iadd, 1) := by decide +kernel
theorem d_LA_law_576 : decode (xcode m_LA_law) 576 = .ok (.iaload, 1) := by decide +kernel
theorem d_LA_law_577 : decode (xcode m_LA_law) 577 = .ok (.aload_n 0, 1) := by decide +kernel
theorem d_LA_law_578 : decode (xcode m_LA_law) 578 = .ok (.iload_n 3, 1) := by decide +kernel
theorem d_LA_law_579 : decode (xcode m_LA_law) 579 = .ok (.iconst 2, 1) := by decide +kernel
theorem d_LA_law_580 : decode (xcode m_LA_law) 580 = .ok (.iadd, 1) := by decide +kernel
theorem d_LA_law_581 : decode (xcode m_LA_law) 581 = .ok (.iaload, 1) := by decide +kernel
theorem d_LA_law_582 : decode (xcode m_LA_law) 582 = .ok (.aload_n 0, 1) := by decide +kernel
theorem d_LA_law_583 : decode (xcode m_LA_law) 583 = .ok (.iload_n 3, 1) := by decide +kernel
theorem d_LA_law_584 : decode (xcode m_LA_law) 584 = .ok (.iconst 3, 1) := by decide +kernel
theorem d_LA_law_585 : decode (xcode m_LA_law) 585 = .ok (.iadd, 1) := by decide +kernel
theorem d_LA_law_586 : decode (xcode m_LA_law) 586 = .ok (.iaload, 1) := by decide +kernel
theorem d_LA_law_587 : decode (xcode m_LA_law) 587 = .ok (.invokevirtual 61, 3) := by decide +kernel
theorem d_LA_law_590 : decode (xcode m_LA_law) 590 = .ok (.if_icmp .eq 754, 3) := by decide +kernel
theorem d_LA_law_593 : decode (xcode m_LA_law) 593 = .ok (.iconst 0, 1) := by decide +kernel
theorem d_LA_law_594 : decode (xcode m_LA_law) 594 = .ok (.ireturn, 1) := by decide +kernel
theorem d_LA_law_595 : decode (xcode m_LA_law) 595 = .ok (.aload_n 1, 1) := by decide +kernel
theorem d_LA_law_596 : decode (xcode m_LA_law) 596 = .ok (.aload_n 0, 1) := by decide +kernel
theorem d_LA_law_597 : decode (xcode m_LA_law) 597 = .ok (.iload_n 3, 1) := by decide +kernel
theorem d_LA_law_598 : decode (xcode m_LA_law) 598 = .ok (.iconst 1, 1) := by decide +kernel
theorem d_LA_law_599 : decode (xcode m_LA_law) 599 = .ok (.iadd, 1) := by decide +kernel
theorem d_LA_law_600 : decode (xcode m_LA_law) 600 = .ok (.iaload, 1) := by decide +kernel
theorem d_LA_law_601 : decode (xcode m_LA_law) 601 = .ok (.aload_n 0, 1) := by decide +kernel
theorem d_LA_law_602 : decode (xcode m_LA_law) 602 = .ok (.iload_n 3, 1) := by decide +kernel
theorem d_LA_law_603 : decode (xcode m_LA_law) 603 = .ok (.iconst 2, 1) := by decide +kernel
theorem d_LA_law_604 : decode (xcode m_LA_law) 604 = .ok (.iadd, 1) := by decide +kernel
theorem d_LA_law_605 : decode (xcode m_LA_law) 605 = .ok (.iaload, 1) := by decide +kernel
theorem d_LA_law_606 : decode (xcode m_LA_law) 606 = .ok (.aload_n 0, 1) := by decide +kernel
theorem d_LA_law_607 : decode (xcode m_LA_law) 607 = .ok (.iload_n 3, 1) := by decide +kernel
theorem d_LA_law_608 : decode (xcode m_LA_law) 608 = .ok (.iconst 3, 1) := by decide +kernel
theorem d_LA_law_609 : decode (xcode m_LA_law) 609 = .ok (.iadd, 1) := by decide +kernel
theorem d_LA_law_610 : decode (xcode m_LA_law) 610 = .ok (.iaload, 1) := by decide +kernel
theorem d_LA_law_611 : decode (xcode m_LA_law) 611 = .ok (.aload_n 0, 1) := by decide +kernel
theorem d_LA_law_612 : decode (xcode m_LA_law) 612 = .ok (.iload_n 3, 1) := by decide +kernel
theorem d_LA_law_613 : decode (xcode m_LA_law) 613 = .ok (.iconst 4, 1) := by decide +kernel
theorem d_LA_law_614 : decode (xcode m_LA_law) 614 = .ok (.iadd, 1) := by decide +kernel
theorem d_LA_law_615 : decode (xcode m_LA_law) 615 = .ok (.iaload, 1) := by decide +kernel
theorem d_LA_law_616 : decode (xcode m_LA_law) 616 = .ok (.ifCond .eq 7, 3) := by decide +kernel
theorem d_LA_law_619 : decode (xcode m_LA_law) 619 = .ok (.iconst 1, 1) := by decide +kernel
theorem d_LA_law_620 : decode (xcode m_LA_law) 620 = .ok (.goto 4, 3) := by decide +kernel
theorem d_LA_law_623 : decode (xcode m_LA_law) 623 = .ok (.iconst 0, 1) := by decide +kernel
theorem d_LA_law_624 : decode (xcode m_LA_law) 624 = .ok (.aload_n 0, 1) := by decide +kernel
theorem d_LA_law_625 : decode (xcode m_LA_law) 625 = .ok (.iload_n 3, 1) := by decide +kernel
theorem d_LA_law_626 : decode (xcode m_LA_law) 626 = .ok (.iconst 5, 1) := by decide +kernel
theorem d_LA_law_627 : decode (xcode m_LA_law) 627 = .ok (.iadd, 1) := by decide +kernel
theorem d_LA_law_628 : decode (xcode m_LA_law) 628 = .ok (.iaload, 1) := by decide +kernel
theorem d_LA_law_629 : decode (xcode m_LA_law) 629 = .ok (.invokevirtual 62, 3) := by decide +kernel
theorem d_LA_law_632 : decode (xcode m_LA_law) 632 = .ok (.aload_n 2, 1) := by decide +kernel
theorem d_LA_law_633 : decode (xcode m_LA_law) 633 = .ok (.aload_n 0, 1) := by decide +kernel
theorem d_LA_law_634 : decode (xcode m_LA_law) 634 = .ok (.iload_n 3, 1) := by decide +kernel
theorem d_LA_law_635 : decode (xcode m_LA_law) 635 = .ok (.iconst 1, 1) := by decide +kernel
theorem d_LA_law_636 : decode (xcode m_LA_law) 636 = .ok (.iadd, 1) := by decide +kernel
theorem d_LA_law_637 : decode (xcode m_LA_law) 637 = .ok (.iaload, 1) := by decide +kernel
theorem d_LA_law_638 : decode (xcode m_LA_law) 638 = .ok (.aload_n 0, 1) := by decide +kernel
theorem d_LA_law_639 : decode (xcode m_LA_law) 639 = .ok (.iload_n 3, 1) := by decide +kernel
theorem d_LA_law_640 : decode (xcode m_LA_law) 640 = .ok (.iconst 2, 1) := by decide +kernel
theorem d_LA_law_641 : decode (xcode m_LA_law) 641 = .ok (.iadd, 1) := by decide +kernel
theorem d_LA_law_642 : decode (xcode m_LA_law) 642 = .ok (.iaload, 1) := by decide +kernel
theorem d_LA_law_643 : decode (xcode m_LA_law) 643 = .ok (.aload_n 0, 1) := by decide +kernel
theorem d_LA_law_644 : decode (xcode m_LA_law) 644 = .ok (.iload_n 3, 1) := by decide +kernel
theorem d_LA_law_645 : decode (xcode m_LA_law) 645 = .ok (.iconst 3, 1) := by decide +kernel
theorem d_LA_law_646 : decode (xcode m_LA_law) 646 = .ok (.iadd, 1) := by decide +kernel
theorem d_LA_law_647 : decode (xcode m_LA_law) 647 = .ok (.iaload, 1) := by decide +kernel
theorem d_LA_law_648 : decode (xcode m_LA_law) 648 = .ok (.aload_n 0, 1) := by decide +kernel
theorem d_LA_law_649 : decode (xcode m_LA_law) 649 = .ok (.iload_n 3, 1) := by decide +kernel
theorem d_LA_law_650 : decode (xcode m_LA_law) 650 = .ok (.iconst 4, 1) := by decide +kernel
theorem d_LA_law_651 : decode (xcode m_LA_law) 651 = .ok (.iadd, 1) := by decide +kernel
theorem d_LA_law_652 : decode (xcode m_LA_law) 652 = .ok (.iaload, 1) := by decide +kernel
theorem d_LA_law_653 : decode (xcode m_LA_law) 653 = .ok (.ifCond .eq 7, 3) := by decide +kernel
theorem d_LA_law_656 : decode (xcode m_LA_law) 656 = .ok (.iconst 1, 1) := by decide +kernel
theorem d_LA_law_657 : decode (xcode m_LA_law) 657 = .ok (.goto 4, 3) := by decide +kernel
theorem d_LA_law_660 : decode (xcode m_LA_law) 660 = .ok (.iconst 0, 1) := by decide +kernel
theorem d_LA_law_661 : decode (xcode m_LA_law) 661 = .ok (.aload_n 0, 1) := by decide +kernel
theorem d_LA_law_662 : decode (xcode m_LA_law) 662 = .ok (.iload_n 3, 1) := by decide +kernel
theorem d_LA_law_663 : decode (xcode m_LA_law) 663 = .ok (.iconst 5, 1) := by decide +kernel
theorem d_LA_law_664 : decode (xcode m_LA_law) 664 = .ok (.iadd, 1) := by decide +kernel
theorem d_LA_law_665 : decode (xcode m_LA_law) 665 = .ok (.iaload, 1) := by decide +kernel
theorem d_LA_law_666 : decode (xcode m_LA_law) 666 = .ok (.invokevirtual 66, 3) := by decide +kernel
theorem d_LA_law_669 : decode (xcode m_LA_law) 669 = .ok (.if_icmp .eq 675, 3) := by decide +kernel
theorem d_LA_law_672 : decode (xcode m_LA_law) 672 = .ok (.iconst 0, 1) := by decide +kernel
theorem d_LA_law_673 : decode (xcode m_LA_law) 673 = .ok (.ireturn, 1) := by decide +kernel
theorem d_LA_law_674 : decode (xcode m_LA_law) 674 = .ok (.aload_n 1, 1) := by decide +kernel
theorem d_LA_law_675 : decode (xcode m_LA_law) 675 = .ok (.aload_n 0, 1) := by decide +kernel
theorem d_LA_law_676 : decode (xcode m_LA_law) 676 = .ok (.iload_n 3, 1) := by decide +kernel
theorem d_LA_law_677 : decode (xcode m_LA_law) 677 = .ok (.iconst 1, 1) := by decide +kernel
theorem d_LA_law_678 : decode (xcode m_LA_law) 678 = .ok (.iadd, 1) := by decide +kernel
theorem d_LA_law_679 : decode (xcode m_LA_law) 679 = .ok (.iaload, 1) := by decide +kernel
theorem d_LA_law_680 : decode (xcode m_LA_law) 680 = .ok (.aload_n 0, 1) := by decide +kernel
theorem d_LA_law_681 : decode (xcode m_LA_law) 681 = .ok (.iload_n 3, 1) := by decide +kernel
theorem d_LA_law_682 : decode (xcode m_LA_law) 682 = .ok (.iconst 2, 1) := by decide +kernel
theorem d_LA_law_683 : decode (xcode m_LA_law) 683 = .ok (.iadd, 1) := by decide +kernel
theorem d_LA_law_684 : decode (xcode m_LA_law) 684 = .ok (.iaload, 1) := by decide +kernel
theorem d_LA_law_685 : decode (xcode m_LA_law) 685 = .ok (.aload_n 0, 1) := by decide +kernel
theorem d_LA_law_686 : decode (xcode m_LA_law) 686 = .ok (.iload_n 3, 1) := by decide +kernel
theorem d_LA_law_687 : decode (xcode m_LA_law) 687 = .ok (.iconst 3, 1) := by decide +kernel
theorem d_LA_law_688 : decode (xcode m_LA_law) 688 = .ok (.iadd, 1) := by decide +kernel
theorem d_LA_law_689 : decode (xcode m_LA_law) 689 = .ok (.iaload, 1) := by decide +kernel
theorem d_LA_law_690 : decode (xcode m_LA_law) 690 = .ok (.aload_n 0, 1) := by decide +kernel
theorem d_LA_law_691 : decode (xcode m_LA_law) 691 = .ok (.iload_n 3, 1) := by decide +kernel
theorem d_LA_law_692 : decode (xcode m_LA_law) 692 = .ok (.iconst 4, 1) := by decide +kernel
theorem d_LA_law_693 : decode (xcode m_LA_law) 693 = .ok (.iadd, 1) := by decide +kernel
theorem d_LA_law_694 : decode (xcode m_LA_law) 694 = .ok (.iaload, 1) := by decide +kernel
theorem d_LA_law_695 : decode (xcode m_LA_law) 695 = .ok (.ifCond .eq 7, 3) := by decide +kernel
theorem d_LA_law_698 : decode (xcode m_LA_law) 698 = .ok (.iconst 1, 1) := by decide +kernel
theorem d_LA_law_699 : decode (xcode m_LA_law) 699 = .ok (.goto 4, 3) := by decide +kernel
theorem d_LA_law_702 : decode (xcode m_LA_law) 702 = .ok (.iconst 0, 1) := by decide +kernel
theorem d_LA_law_703 : decode (xcode m_LA_law) 703 = .ok (.invokevirtual 67, 3) := by decide +kernel
theorem d_LA_law_706 : decode (xcode m_LA_law) 706 = .ok (.aload_n 2, 1) := by decide +kernel
theorem d_LA_law_707 : decode (xcode m_LA_law) 707 = .ok (.aload_n 0, 1) := by decide +kernel
theorem d_LA_law_708 : decode (xcode m_LA_law) 708 = .ok (.iload_n 3, 1) := by decide +kernel
theorem d_LA_law_709 : decode (xcode m_LA_law) 709 = .ok (.iconst 1, 1) := by decide +kernel
theorem d_LA_law_710 : decode (xcode m_LA_law) 710 = .ok (.iadd, 1) := by decide +kernel
theorem d_LA_law_711 : decode (xcode m_LA_law) 711 = .ok (.iaload, 1) := by decide +kernel
theorem d_LA_law_712 : decode (xcode m_LA_law) 712 = .ok (.aload_n 0, 1) := by decide +kernel
theorem d_LA_law_713 : decode (xcode m_LA_law) 713 = .ok (.iload_n 3, 1) := by decide +kernel
theorem d_LA_law_714 : decode (xcode m_LA_law) 714 = .ok (.iconst 2, 1) := by decide +kernel
theorem d_LA_law_715 : decode (xcode m_LA_law) 715 = .ok (.iadd, 1) := by decide +kernel
theorem d_LA_law_716 : decode (xcode m_LA_law) 716 = .ok (.iaload, 1) := by decide +kernel
theorem d_LA_law_717 : decode (xcode m_LA_law) 717 = .ok (.aload_n 0, 1) := by decide +kernel
theorem d_LA_law_718 : decode (xcode m_LA_law) 718 = .ok (.iload_n 3, 1) := by decide +kernel
theorem d_LA_law_719 : decode (xcode m_LA_law) 719 = .ok (.iconst 3, 1) := by decide +kernel
theorem d_LA_law_720 : decode (xcode m_LA_law) 720 = .ok (.iadd, 1) := by decide +kernel
theorem d_LA_law_721 : decode (xcode m_LA_law) 721 = .ok (.iaload, 1) := by decide +kernel
theorem d_LA_law_722 : decode (xcode m_LA_law) 722 = .ok (.aload_n 0, 1) := by decide +kernel
theorem d_LA_law_723 : decode (xcode m_LA_law) 723 = .ok (.iload_n 3, 1) := by decide +kernel
theorem d_LA_law_724 : decode (xcode m_LA_law) 724 = .ok (.iconst 4, 1) := by decide +kernel
theorem d_LA_law_725 : decode (xcode m_LA_law) 725 = .ok (.iadd, 1) := by decide +kernel
theorem d_LA_law_726 : decode (xcode m_LA_law) 726 = .ok (.iaload, 1) := by decide +kernel
theorem d_LA_law_727 : decode (xcode m_LA_law) 727 = .ok (.ifCond .eq 7, 3) := by decide +kernel
theorem d_LA_law_730 : decode (xcode m_LA_law) 730 = .ok (.iconst 1, 1) := by decide +kernel
theorem d_LA_law_731 : decode (xcode m_LA_law) 731 = .ok (.goto 4, 3) := by decide +kernel
theorem d_LA_law_734 : decode (xcode m_LA_law) 734 = .ok (.iconst 0, 1) := by decide +kernel
theorem d_LA_law_735 : decode (xcode m_LA_law) 735 = .ok (.invokevirtual 71, 3) := by decide +kernel
