/-! the law's rows -/
theorem zl_425 : decode code 425 = .ok (.iadd, 1) := by decide +kernel
theorem zl_426 : decode code 426 = .ok (.iaload, 1) := by decide +kernel
theorem zl_427 : decode code 427 = .ok (.invokevirtual 44, 3) := by decide +kernel
theorem zl_430 : decode code 430 = .ok (.aload_n 2, 1) := by decide +kernel
theorem zl_431 : decode code 431 = .ok (.aload_n 0, 1) := by decide +kernel
theorem zl_432 : decode code 432 = .ok (.iload_n 3, 1) := by decide +kernel
theorem zl_433 : decode code 433 = .ok (.iconst 1, 1) := by decide +kernel
theorem zl_434 : decode code 434 = .ok (.iadd, 1) := by decide +kernel
theorem zl_435 : decode code 435 = .ok (.iaload, 1) := by decide +kernel
theorem zl_436 : decode code 436 = .ok (.invokevirtual 48, 3) := by decide +kernel
theorem zl_439 : decode code 439 = .ok (.if_icmp .eq (624), 3) := by decide +kernel
theorem zl_442 : decode code 442 = .ok (.iconst 0, 1) := by decide +kernel
theorem zl_443 : decode code 443 = .ok (.ireturn, 1) := by decide +kernel
theorem zl_444 : decode code 444 = .ok (.aload_n 1, 1) := by decide +kernel
theorem zl_445 : decode code 445 = .ok (.aload_n 0, 1) := by decide +kernel
theorem zl_446 : decode code 446 = .ok (.iload_n 3, 1) := by decide +kernel
theorem zl_447 : decode code 447 = .ok (.iconst 1, 1) := by decide +kernel
theorem zl_448 : decode code 448 = .ok (.iadd, 1) := by decide +kernel
theorem zl_449 : decode code 449 = .ok (.iaload, 1) := by decide +kernel
theorem zl_450 : decode code 450 = .ok (.invokevirtual 49, 3) := by decide +kernel
theorem zl_453 : decode code 453 = .ok (.aload_n 2, 1) := by decide +kernel
theorem zl_454 : decode code 454 = .ok (.aload_n 0, 1) := by decide +kernel
theorem zl_455 : decode code 455 = .ok (.iload_n 3, 1) := by decide +kernel
theorem zl_456 : decode code 456 = .ok (.iconst 1, 1) := by decide +kernel
theorem zl_457 : decode code 457 = .ok (.iadd, 1) := by decide +kernel
theorem zl_458 : decode code 458 = .ok (.iaload, 1) := by decide +kernel
theorem zl_459 : decode code 459 = .ok (.invokevirtual 52, 3) := by decide +kernel
theorem zl_462 : decode code 462 = .ok (.if_icmp .eq (601), 3) := by decide +kernel
theorem zl_465 : decode code 465 = .ok (.iconst 0, 1) := by decide +kernel
theorem zl_466 : decode code 466 = .ok (.ireturn, 1) := by decide +kernel
theorem zl_467 : decode code 467 = .ok (.aload_n 1, 1) := by decide +kernel
theorem zl_468 : decode code 468 = .ok (.aload_n 0, 1) := by decide +kernel
theorem zl_469 : decode code 469 = .ok (.iload_n 3, 1) := by decide +kernel
theorem zl_470 : decode code 470 = .ok (.iconst 1, 1) := by decide +kernel
theorem zl_471 : decode code 471 = .ok (.iadd, 1) := by decide +kernel
theorem zl_472 : decode code 472 = .ok (.iaload, 1) := by decide +kernel
theorem zl_473 : decode code 473 = .ok (.aload_n 0, 1) := by decide +kernel
theorem zl_474 : decode code 474 = .ok (.iload_n 3, 1) := by decide +kernel
theorem zl_475 : decode code 475 = .ok (.iconst 2, 1) := by decide +kernel
theorem zl_476 : decode code 476 = .ok (.iadd, 1) := by decide +kernel
theorem zl_477 : decode code 477 = .ok (.iaload, 1) := by decide +kernel
theorem zl_478 : decode code 478 = .ok (.aload_n 0, 1) := by decide +kernel
theorem zl_479 : decode code 479 = .ok (.iload_n 3, 1) := by decide +kernel
theorem zl_480 : decode code 480 = .ok (.iconst 3, 1) := by decide +kernel
theorem zl_481 : decode code 481 = .ok (.iadd, 1) := by decide +kernel
theorem zl_482 : decode code 482 = .ok (.iaload, 1) := by decide +kernel
theorem zl_483 : decode code 483 = .ok (.invokevirtual 53, 3) := by decide +kernel
theorem zl_486 : decode code 486 = .ok (.aload_n 2, 1) := by decide +kernel
theorem zl_487 : decode code 487 = .ok (.aload_n 0, 1) := by decide +kernel
theorem zl_488 : decode code 488 = .ok (.iload_n 3, 1) := by decide +kernel
theorem zl_489 : decode code 489 = .ok (.iconst 1, 1) := by decide +kernel
theorem zl_490 : decode code 490 = .ok (.iadd, 1) := by decide +kernel
theorem zl_491 : decode code 491 = .ok (.iaload, 1) := by decide +kernel
theorem zl_492 : decode code 492 = .ok (.aload_n 0, 1) := by decide +kernel
theorem zl_493 : decode code 493 = .ok (.iload_n 3, 1) := by decide +kernel
theorem zl_494 : decode code 494 = .ok (.iconst 2, 1) := by decide +kernel
theorem zl_495 : decode code 495 = .ok (.iadd, 1) := by decide +kernel
theorem zl_496 : decode code 496 = .ok (.iaload, 1) := by decide +kernel
theorem zl_497 : decode code 497 = .ok (.aload_n 0, 1) := by decide +kernel
theorem zl_498 : decode code 498 = .ok (.iload_n 3, 1) := by decide +kernel
theorem zl_499 : decode code 499 = .ok (.iconst 3, 1) := by decide +kernel
theorem zl_500 : decode code 500 = .ok (.iadd, 1) := by decide +kernel
theorem zl_501 : decode code 501 = .ok (.iaload, 1) := by decide +kernel
theorem zl_502 : decode code 502 = .ok (.invokevirtual 56, 3) := by decide +kernel
theorem zl_505 : decode code 505 = .ok (.if_icmp .eq (558), 3) := by decide +kernel
theorem zl_508 : decode code 508 = .ok (.iconst 0, 1) := by decide +kernel
theorem zl_509 : decode code 509 = .ok (.ireturn, 1) := by decide +kernel
theorem zl_510 : decode code 510 = .ok (.aload_n 1, 1) := by decide +kernel
theorem zl_511 : decode code 511 = .ok (.aload_n 0, 1) := by decide +kernel
theorem zl_512 : decode code 512 = .ok (.iload_n 3, 1) := by decide +kernel
theorem zl_513 : decode code 513 = .ok (.iconst 1, 1) := by decide +kernel
theorem zl_514 : decode code 514 = .ok (.iadd, 1) := by decide +kernel
theorem zl_515 : decode code 515 = .ok (.iaload, 1) := by decide +kernel
theorem zl_516 : decode code 516 = .ok (.aload_n 0, 1) := by decide +kernel
theorem zl_517 : decode code 517 = .ok (.iload_n 3, 1) := by decide +kernel
theorem zl_518 : decode code 518 = .ok (.iconst 2, 1) := by decide +kernel
theorem zl_519 : decode code 519 = .ok (.iadd, 1) := by decide +kernel
theorem zl_520 : decode code 520 = .ok (.iaload, 1) := by decide +kernel
theorem zl_521 : decode code 521 = .ok (.invokevirtual 57, 3) := by decide +kernel
theorem zl_524 : decode code 524 = .ok (.aload_n 2, 1) := by decide +kernel
theorem zl_525 : decode code 525 = .ok (.aload_n 0, 1) := by decide +kernel
theorem zl_526 : decode code 526 = .ok (.iload_n 3, 1) := by decide +kernel
theorem zl_527 : decode code 527 = .ok (.iconst 1, 1) := by decide +kernel
theorem zl_528 : decode code 528 = .ok (.iadd, 1) := by decide +kernel
theorem zl_529 : decode code 529 = .ok (.iaload, 1) := by decide +kernel
theorem zl_530 : decode code 530 = .ok (.aload_n 0, 1) := by decide +kernel
theorem zl_531 : decode code 531 = .ok (.iload_n 3, 1) := by decide +kernel
theorem zl_532 : decode code 532 = .ok (.iconst 2, 1) := by decide +kernel
theorem zl_533 : decode code 533 = .ok (.iadd, 1) := by decide +kernel
theorem zl_534 : decode code 534 = .ok (.iaload, 1) := by decide +kernel
theorem zl_535 : decode code 535 = .ok (.invokevirtual 60, 3) := by decide +kernel
theorem zl_538 : decode code 538 = .ok (.if_icmp .eq (525), 3) := by decide +kernel
theorem zl_541 : decode code 541 = .ok (.iconst 0, 1) := by decide +kernel
theorem zl_542 : decode code 542 = .ok (.ireturn, 1) := by decide +kernel
theorem zl_543 : decode code 543 = .ok (.aload_n 1, 1) := by decide +kernel
theorem zl_544 : decode code 544 = .ok (.aload_n 0, 1) := by decide +kernel
theorem zl_545 : decode code 545 = .ok (.iload_n 3, 1) := by decide +kernel
theorem zl_546 : decode code 546 = .ok (.iconst 1, 1) := by decide +kernel
theorem zl_547 : decode code 547 = .ok (.iadd, 1) := by decide +kernel
theorem zl_548 : decode code 548 = .ok (.iaload, 1) := by decide +kernel
theorem zl_549 : decode code 549 = .ok (.invokevirtual 61, 3) := by decide +kernel
theorem zl_552 : decode code 552 = .ok (.aload_n 2, 1) := by decide +kernel
theorem zl_553 : decode code 553 = .ok (.aload_n 0, 1) := by decide +kernel
theorem zl_554 : decode code 554 = .ok (.iload_n 3, 1) := by decide +kernel
theorem zl_555 : decode code 555 = .ok (.iconst 1, 1) := by decide +kernel
theorem zl_556 : decode code 556 = .ok (.iadd, 1) := by decide +kernel
theorem zl_557 : decode code 557 = .ok (.iaload, 1) := by decide +kernel
theorem zl_558 : decode code 558 = .ok (.invokevirtual 64, 3) := by decide +kernel
theorem zl_561 : decode code 561 = .ok (.if_icmp .eq (502), 3) := by decide +kernel
theorem zl_564 : decode code 564 = .ok (.iconst 0, 1) := by decide +kernel
theorem zl_565 : decode code 565 = .ok (.ireturn, 1) := by decide +kernel
theorem zl_566 : decode code 566 = .ok (.aload_n 1, 1) := by decide +kernel
theorem zl_567 : decode code 567 = .ok (.aload_n 0, 1) := by decide +kernel
theorem zl_568 : decode code 568 = .ok (.iload_n 3, 1) := by decide +kernel
theorem zl_569 : decode code 569 = .ok (.iconst 1, 1) := by decide +kernel
theorem zl_570 : decode code 570 = .ok (.iadd, 1) := by decide +kernel
theorem zl_571 : decode code 571 = .ok (.iaload, 1) := by decide +kernel
theorem zl_572 : decode code 572 = .ok (.invokevirtual 65, 3) := by decide +kernel
theorem zl_575 : decode code 575 = .ok (.aload_n 2, 1) := by decide +kernel
theorem zl_576 : decode code 576 = .ok (.aload_n 0, 1) := by decide +kernel
theorem zl_577 : decode code 577 = .ok (.iload_n 3, 1) := by decide +kernel
theorem zl_578 : decode code 578 = .ok (.iconst 1, 1) := by decide +kernel
theorem zl_579 : decode code 579 = .ok (.iadd, 1) := by decide +kernel
theorem zl_580 : decode code 580 = .ok (.iaload, 1) := by decide +kernel
theorem zl_581 : decode code 581 = .ok (.invokevirtual 68, 3) := by decide +kernel
theorem zl_584 : decode code 584 = .ok (.if_icmp .eq (479), 3) := by decide +kernel
theorem zl_587 : decode code 587 = .ok (.iconst 0, 1) := by decide +kernel
theorem zl_588 : decode code 588 = .ok (.ireturn, 1) := by decide +kernel
theorem zl_589 : decode code 589 = .ok (.aload_n 1, 1) := by decide +kernel
theorem zl_590 : decode code 590 = .ok (.aload_n 0, 1) := by decide +kernel
theorem zl_591 : decode code 591 = .ok (.iload_n 3, 1) := by decide +kernel
theorem zl_592 : decode code 592 = .ok (.iconst 1, 1) := by decide +kernel
theorem zl_593 : decode code 593 = .ok (.iadd, 1) := by decide +kernel
theorem zl_594 : decode code 594 = .ok (.iaload, 1) := by decide +kernel
theorem zl_595 : decode code 595 = .ok (.aload_n 0, 1) := by decide +kernel
theorem zl_596 : decode code 596 = .ok (.iload_n 3, 1) := by decide +kernel
theorem zl_597 : decode code 597 = .ok (.iconst 2, 1) := by decide +kernel
theorem zl_598 : decode code 598 = .ok (.iadd, 1) := by decide +kernel
theorem zl_599 : decode code 599 = .ok (.iaload, 1) := by decide +kernel
theorem zl_600 : decode code 600 = .ok (.invokevirtual 69, 3) := by decide +kernel
theorem zl_603 : decode code 603 = .ok (.aload_n 2, 1) := by decide +kernel
theorem zl_604 : decode code 604 = .ok (.aload_n 0, 1) := by decide +kernel
theorem zl_605 : decode code 605 = .ok (.iload_n 3, 1) := by decide +kernel
theorem zl_606 : decode code 606 = .ok (.iconst 1, 1) := by decide +kernel
theorem zl_607 : decode code 607 = .ok (.iadd, 1) := by decide +kernel
theorem zl_608 : decode code 608 = .ok (.iaload, 1) := by decide +kernel
theorem zl_609 : decode code 609 = .ok (.aload_n 0, 1) := by decide +kernel
theorem zl_610 : decode code 610 = .ok (.iload_n 3, 1) := by decide +kernel
theorem zl_611 : decode code 611 = .ok (.iconst 2, 1) := by decide +kernel
theorem zl_612 : decode code 612 = .ok (.iadd, 1) := by decide +kernel
theorem zl_613 : decode code 613 = .ok (.iaload, 1) := by decide +kernel
theorem zl_614 : decode code 614 = .ok (.invokevirtual 72, 3) := by decide +kernel
theorem zl_617 : decode code 617 = .ok (.if_icmp .eq (446), 3) := by decide +kernel
theorem zl_620 : decode code 620 = .ok (.iconst 0, 1) := by decide +kernel
theorem zl_621 : decode code 621 = .ok (.ireturn, 1) := by decide +kernel
theorem zl_622 : decode code 622 = .ok (.aload_n 1, 1) := by decide +kernel
theorem zl_623 : decode code 623 = .ok (.aload_n 0, 1) := by decide +kernel
theorem zl_624 : decode code 624 = .ok (.iload_n 3, 1) := by decide +kernel
theorem zl_625 : decode code 625 = .ok (.iconst 1, 1) := by decide +kernel
theorem zl_626 : decode code 626 = .ok (.iadd, 1) := by decide +kernel
theorem zl_627 : decode code 627 = .ok (.iaload, 1) := by decide +kernel
theorem zl_628 : decode code 628 = .ok (.invokevirtual 73, 3) := by decide +kernel
theorem zl_631 : decode code 631 = .ok (.aload_n 2, 1) := by decide +kernel
theorem zl_632 : decode code 632 = .ok (.aload_n 0, 1) := by decide +kernel
theorem zl_633 : decode code 633 = .ok (.iload_n 3, 1) := by decide +kernel
theorem zl_634 : decode code 634 = .ok (.iconst 1, 1) := by decide +kernel
theorem zl_635 : decode code 635 = .ok (.iadd, 1) := by decide +kernel
theorem zl_636 : decode code 636 = .ok (.iaload, 1) := by decide +kernel
theorem zl_637 : decode code 637 = .ok (.invokevirtual 76, 3) := by decide +kernel
theorem zl_640 : decode code 640 = .ok (.if_icmp .eq (423), 3) := by decide +kernel
theorem zl_643 : decode code 643 = .ok (.iconst 0, 1) := by decide +kernel
theorem zl_644 : decode code 644 = .ok (.ireturn, 1) := by decide +kernel
theorem zl_645 : decode code 645 = .ok (.aload_n 1, 1) := by decide +kernel
theorem zl_646 : decode code 646 = .ok (.aload_n 0, 1) := by decide +kernel
theorem zl_647 : decode code 647 = .ok (.iload_n 3, 1) := by decide +kernel
theorem zl_648 : decode code 648 = .ok (.iconst 1, 1) := by decide +kernel
theorem zl_649 : decode code 649 = .ok (.iadd, 1) := by decide +kernel
theorem zl_650 : decode code 650 = .ok (.iaload, 1) := by decide +kernel
theorem zl_651 : decode code 651 = .ok (.invokevirtual 77, 3) := by decide +kernel
theorem zl_654 : decode code 654 = .ok (.aload_n 2, 1) := by decide +kernel
theorem zl_655 : decode code 655 = .ok (.aload_n 0, 1) := by decide +kernel
theorem zl_656 : decode code 656 = .ok (.iload_n 3, 1) := by decide +kernel
theorem zl_657 : decode code 657 = .ok (.iconst 1, 1) := by decide +kernel
theorem zl_658 : decode code 658 = .ok (.iadd, 1) := by decide +kernel
theorem zl_659 : decode code 659 = .ok (.iaload, 1) := by decide +kernel
theorem zl_660 : decode code 660 = .ok (.invokevirtual 80, 3) := by decide +kernel
theorem zl_663 : decode code 663 = .ok (.if_icmp .eq (400), 3) := by decide +kernel
theorem zl_666 : decode code 666 = .ok (.iconst 0, 1) := by decide +kernel
theorem zl_667 : decode code 667 = .ok (.ireturn, 1) := by decide +kernel
theorem zl_668 : decode code 668 = .ok (.aload_n 1, 1) := by decide +kernel
theorem zl_669 : decode code 669 = .ok (.aload_n 0, 1) := by decide +kernel
theorem zl_670 : decode code 670 = .ok (.iload_n 3, 1) := by decide +kernel
theorem zl_671 : decode code 671 = .ok (.iconst 1, 1) := by decide +kernel
theorem zl_672 : decode code 672 = .ok (.iadd, 1) := by decide +kernel
theorem zl_673 : decode code 673 = .ok (.iaload, 1) := by decide +kernel
theorem zl_674 : decode code 674 = .ok (.invokevirtual 81, 3) := by decide +kernel
theorem zl_677 : decode code 677 = .ok (.aload_n 2, 1) := by decide +kernel
theorem zl_678 : decode code 678 = .ok (.aload_n 0, 1) := by decide +kernel
theorem zl_679 : decode code 679 = .ok (.iload_n 3, 1) := by decide +kernel
theorem zl_680 : decode code 680 = .ok (.iconst 1, 1) := by decide +kernel
theorem zl_681 : decode code 681 = .ok (.iadd, 1) := by decide +kernel
theorem zl_682 : decode code 682 = .ok (.iaload, 1) := by decide +kernel
theorem zl_683 : decode code 683 = .ok (.invokevirtual 84, 3) := by decide +kernel
theorem zl_686 : decode code 686 = .ok (.if_icmp .eq (377), 3) := by decide +kernel
theorem zl_689 : decode code 689 = .ok (.iconst 0, 1) := by decide +kernel
theorem zl_690 : decode code 690 = .ok (.ireturn, 1) := by decide +kernel
theorem zl_691 : decode code 691 = .ok (.aload_n 1, 1) := by decide +kernel
theorem zl_692 : decode code 692 = .ok (.aload_n 0, 1) := by decide +kernel
theorem zl_693 : decode code 693 = .ok (.iload_n 3, 1) := by decide +kernel
theorem zl_694 : decode code 694 = .ok (.iconst 1, 1) := by decide +kernel
theorem zl_695 : decode code 695 = .ok (.iadd, 1) := by decide +kernel
theorem zl_696 : decode code 696 = .ok (.iaload, 1) := by decide +kernel
theorem zl_697 : decode code 697 = .ok (.invokevirtual 85, 3) := by decide +kernel
theorem zl_700 : decode code 700 = .ok (.aload_n 2, 1) := by decide +kernel
theorem zl_701 : decode code 701 = .ok (.aload_n 0, 1) := by decide +kernel
theorem zl_702 : decode code 702 = .ok (.iload_n 3, 1) := by decide +kernel
theorem zl_703 : decode code 703 = .ok (.iconst 1, 1) := by decide +kernel
theorem zl_704 : decode code 704 = .ok (.iadd, 1) := by decide +kernel
theorem zl_705 : decode code 705 = .ok (.iaload, 1) := by decide +kernel
theorem zl_706 : decode code 706 = .ok (.invokevirtual 88, 3) := by decide +kernel
theorem zl_709 : decode code 709 = .ok (.if_icmp .eq (354), 3) := by decide +kernel
theorem zl_712 : decode code 712 = .ok (.iconst 0, 1) := by decide +kernel
theorem zl_713 : decode code 713 = .ok (.ireturn, 1) := by decide +kernel
theorem zl_714 : decode code 714 = .ok (.aload_n 1, 1) := by decide +kernel
theorem zl_715 : decode code 715 = .ok (.aload_n 0, 1) := by decide +kernel
