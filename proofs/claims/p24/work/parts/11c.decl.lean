theorem dL_links_395 : decode cL_links 395 = .ok (.ifCond .le 30, 3) := by decide +kernel
theorem dL_links_398 : decode cL_links 398 = .ok (.aload_n 0, 1) := by decide +kernel
theorem dL_links_399 : decode cL_links 399 = .ok (.iload 10, 2) := by decide +kernel
theorem dL_links_401 : decode cL_links 401 = .ok (.invokestatic 106, 3) := by decide +kernel
theorem dL_links_404 : decode cL_links 404 = .ok (.bipush (-73), 2) := by decide +kernel
theorem dL_links_406 : decode cL_links 406 = .ok (.if_icmp .ne 17, 3) := by decide +kernel
theorem dL_links_409 : decode cL_links 409 = .ok (.aload_n 0, 1) := by decide +kernel
theorem dL_links_410 : decode cL_links 410 = .ok (.iconst 2, 1) := by decide +kernel
theorem dL_links_411 : decode cL_links 411 = .ok (.invokestatic 106, 3) := by decide +kernel
theorem dL_links_414 : decode cL_links 414 = .ok (.bipush (-71), 2) := by decide +kernel
theorem dL_links_416 : decode cL_links 416 = .ok (.if_icmp .ne 7, 3) := by decide +kernel
theorem dL_links_419 : decode cL_links 419 = .ok (.iconst 1, 1) := by decide +kernel
theorem dL_links_420 : decode cL_links 420 = .ok (.goto 4, 3) := by decide +kernel
theorem dL_links_423 : decode cL_links 423 = .ok (.iconst 0, 1) := by decide +kernel
theorem dL_links_424 : decode cL_links 424 = .ok (.ireturn, 1) := by decide +kernel
theorem dL_links_425 : decode cL_links 425 = .ok (.bipush 6, 2) := by decide +kernel
theorem dL_links_427 : decode cL_links 427 = .ok (.iload 10, 2) := by decide +kernel
theorem dL_links_429 : decode cL_links 429 = .ok (.imul, 1) := by decide +kernel
theorem dL_links_430 : decode cL_links 430 = .ok (.istore 14, 2) := by decide +kernel
theorem dL_links_432 : decode cL_links 432 = .ok (.iload 14, 2) := by decide +kernel
theorem dL_links_434 : decode cL_links 434 = .ok (.bipush 6, 2) := by decide +kernel
theorem dL_links_436 : decode cL_links 436 = .ok (.iload 10, 2) := by decide +kernel
theorem dL_links_438 : decode cL_links 438 = .ok (.imul, 1) := by decide +kernel
theorem dL_links_439 : decode cL_links 439 = .ok (.bipush 6, 2) := by decide +kernel
theorem dL_links_441 : decode cL_links 441 = .ok (.iadd, 1) := by decide +kernel
theorem dL_links_442 : decode cL_links 442 = .ok (.if_icmp .ge 19, 3) := by decide +kernel
theorem dL_links_445 : decode cL_links 445 = .ok (.aload 8, 2) := by decide +kernel
theorem dL_links_447 : decode cL_links 447 = .ok (.iload 14, 2) := by decide +kernel
theorem dL_links_449 : decode cL_links 449 = .ok (.aload 6, 2) := by decide +kernel
theorem dL_links_451 : decode cL_links 451 = .ok (.iload 14, 2) := by decide +kernel
theorem dL_links_453 : decode cL_links 453 = .ok (.iaload, 1) := by decide +kernel
theorem dL_links_454 : decode cL_links 454 = .ok (.iastore, 1) := by decide +kernel
theorem dL_links_455 : decode cL_links 455 = .ok (.iinc 14 1, 3) := by decide +kernel
theorem dL_links_458 : decode cL_links 458 = .ok (.goto (-26), 3) := by decide +kernel
theorem dL_links_461 : decode cL_links 461 = .ok (.aload 9, 2) := by decide +kernel
theorem dL_links_463 : decode cL_links 463 = .ok (.iload 11, 2) := by decide +kernel
theorem dL_links_465 : decode cL_links 465 = .ok (.iconst 1, 1) := by decide +kernel
theorem dL_links_466 : decode cL_links 466 = .ok (.iastore, 1) := by decide +kernel
theorem dL_links_467 : decode cL_links 467 = .ok (.aload 9, 2) := by decide +kernel
theorem dL_links_469 : decode cL_links 469 = .ok (.iload 11, 2) := by decide +kernel
theorem dL_links_471 : decode cL_links 471 = .ok (.iconst 2, 1) := by decide +kernel
theorem dL_links_472 : decode cL_links 472 = .ok (.iadd, 1) := by decide +kernel
theorem dL_links_473 : decode cL_links 473 = .ok (.iconst 0, 1) := by decide +kernel
theorem dL_links_474 : decode cL_links 474 = .ok (.iastore, 1) := by decide +kernel
theorem dL_links_475 : decode cL_links 475 = .ok (.aload 12, 2) := by decide +kernel
theorem dL_links_477 : decode cL_links 477 = .ok (.aload 8, 2) := by decide +kernel
theorem dL_links_479 : decode cL_links 479 = .ok (.aload 9, 2) := by decide +kernel
theorem dL_links_481 : decode cL_links 481 = .ok (.iload 10, 2) := by decide +kernel
theorem dL_links_483 : decode cL_links 483 = .ok (.invokestatic 86, 3) := by decide +kernel
theorem dL_links_486 : decode cL_links 486 = .ok (.pop, 1) := by decide +kernel
theorem dL_links_487 : decode cL_links 487 = .ok (.aload_n 0, 1) := by decide +kernel
theorem dL_links_488 : decode cL_links 488 = .ok (.iconst (-1), 1) := by decide +kernel
theorem dL_links_489 : decode cL_links 489 = .ok (.invokestatic 106, 3) := by decide +kernel
theorem dL_links_492 : decode cL_links 492 = .ok (.bipush (-71), 2) := by decide +kernel
theorem dL_links_494 : decode cL_links 494 = .ok (.if_icmp .ne 23, 3) := by decide +kernel
theorem dL_links_497 : decode cL_links 497 = .ok (.aload_n 0, 1) := by decide +kernel
theorem dL_links_498 : decode cL_links 498 = .ok (.iload 10, 2) := by decide +kernel
theorem dL_links_500 : decode cL_links 500 = .ok (.invokestatic 106, 3) := by decide +kernel
theorem dL_links_503 : decode cL_links 503 = .ok (.aload 9, 2) := by decide +kernel
theorem dL_links_505 : decode cL_links 505 = .ok (.iload 11, 2) := by decide +kernel
theorem dL_links_507 : decode cL_links 507 = .ok (.iconst 1, 1) := by decide +kernel
theorem dL_links_508 : decode cL_links 508 = .ok (.iadd, 1) := by decide +kernel
theorem dL_links_509 : decode cL_links 509 = .ok (.iaload, 1) := by decide +kernel
theorem dL_links_510 : decode cL_links 510 = .ok (.if_icmp .ne 7, 3) := by decide +kernel
theorem dL_links_513 : decode cL_links 513 = .ok (.iconst 1, 1) := by decide +kernel
theorem dL_links_514 : decode cL_links 514 = .ok (.goto 4, 3) := by decide +kernel
theorem dL_links_517 : decode cL_links 517 = .ok (.iconst 0, 1) := by decide +kernel
theorem dL_links_518 : decode cL_links 518 = .ok (.ireturn, 1) := by decide +kernel
theorem dL_links_519 : decode cL_links 519 = .ok (.iload_n 1, 1) := by decide +kernel
theorem dL_links_520 : decode cL_links 520 = .ok (.bipush 10, 2) := by decide +kernel
theorem dL_links_522 : decode cL_links 522 = .ok (.if_icmp .ne 93, 3) := by decide +kernel
theorem dL_links_525 : decode cL_links 525 = .ok (.iload_n 3, 1) := by decide +kernel
theorem dL_links_526 : decode cL_links 526 = .ok (.bipush 6, 2) := by decide +kernel
theorem dL_links_528 : decode cL_links 528 = .ok (.iand, 1) := by decide +kernel
theorem dL_links_529 : decode cL_links 529 = .ok (.ifCond .le 19, 3) := by decide +kernel
theorem dL_links_532 : decode cL_links 532 = .ok (.aload_n 0, 1) := by decide +kernel
theorem dL_links_533 : decode cL_links 533 = .ok (.iconst 2, 1) := by decide +kernel
theorem dL_links_534 : decode cL_links 534 = .ok (.invokestatic 109, 3) := by decide +kernel
theorem dL_links_537 : decode cL_links 537 = .ok (.bipush (-71), 2) := by decide +kernel
theorem dL_links_539 : decode cL_links 539 = .ok (.if_icmp .ne 7, 3) := by decide +kernel
theorem dL_links_542 : decode cL_links 542 = .ok (.iconst 1, 1) := by decide +kernel
theorem dL_links_543 : decode cL_links 543 = .ok (.goto 4, 3) := by decide +kernel
theorem dL_links_546 : decode cL_links 546 = .ok (.iconst 0, 1) := by decide +kernel
theorem dL_links_547 : decode cL_links 547 = .ok (.ireturn, 1) := by decide +kernel
theorem dL_links_548 : decode cL_links 548 = .ok (.aload 9, 2) := by decide +kernel
theorem dL_links_550 : decode cL_links 550 = .ok (.iload 11, 2) := by decide +kernel
theorem dL_links_552 : decode cL_links 552 = .ok (.iaload, 1) := by decide +kernel
theorem dL_links_553 : decode cL_links 553 = .ok (.ifCond .ne 20, 3) := by decide +kernel
theorem dL_links_556 : decode cL_links 556 = .ok (.aload_n 0, 1) := by decide +kernel
theorem dL_links_557 : decode cL_links 557 = .ok (.iload 10, 2) := by decide +kernel
theorem dL_links_559 : decode cL_links 559 = .ok (.invokestatic 109, 3) := by decide +kernel
theorem dL_links_562 : decode cL_links 562 = .ok (.bipush (-73), 2) := by decide +kernel
theorem dL_links_564 : decode cL_links 564 = .ok (.if_icmp .ne 7, 3) := by decide +kernel
theorem dL_links_567 : decode cL_links 567 = .ok (.iconst 1, 1) := by decide +kernel
theorem dL_links_568 : decode cL_links 568 = .ok (.goto 4, 3) := by decide +kernel
theorem dL_links_571 : decode cL_links 571 = .ok (.iconst 0, 1) := by decide +kernel
theorem dL_links_572 : decode cL_links 572 = .ok (.ireturn, 1) := by decide +kernel
theorem dL_links_573 : decode cL_links 573 = .ok (.aload 9, 2) := by decide +kernel
theorem dL_links_575 : decode cL_links 575 = .ok (.iload 11, 2) := by decide +kernel
theorem dL_links_577 : decode cL_links 577 = .ok (.iaload, 1) := by decide +kernel
theorem dL_links_578 : decode cL_links 578 = .ok (.istore 14, 2) := by decide +kernel
theorem dL_links_580 : decode cL_links 580 = .ok (.aload 12, 2) := by decide +kernel
theorem dL_links_582 : decode cL_links 582 = .ok (.aload 9, 2) := by decide +kernel
theorem dL_links_584 : decode cL_links 584 = .ok (.iload 10, 2) := by decide +kernel
theorem dL_links_586 : decode cL_links 586 = .ok (.iconst 4, 1) := by decide +kernel
theorem dL_links_587 : decode cL_links 587 = .ok (.iconst 0, 1) := by decide +kernel
theorem dL_links_588 : decode cL_links 588 = .ok (.lconst 0, 1) := by decide +kernel
theorem dL_links_589 : decode cL_links 589 = .ok (.invokestatic 73, 3) := by decide +kernel
theorem dL_links_592 : decode cL_links 592 = .ok (.aload 9, 2) := by decide +kernel
theorem dL_links_594 : decode cL_links 594 = .ok (.iload 11, 2) := by decide +kernel
theorem dL_links_596 : decode cL_links 596 = .ok (.iconst 0, 1) := by decide +kernel
theorem dL_links_597 : decode cL_links 597 = .ok (.iastore, 1) := by decide +kernel
theorem dL_links_598 : decode cL_links 598 = .ok (.aload_n 0, 1) := by decide +kernel
theorem dL_links_599 : decode cL_links 599 = .ok (.iload 10, 2) := by decide +kernel
theorem dL_links_601 : decode cL_links 601 = .ok (.invokestatic 109, 3) := by decide +kernel
theorem dL_links_604 : decode cL_links 604 = .ok (.iload 14, 2) := by decide +kernel
theorem dL_links_606 : decode cL_links 606 = .ok (.if_icmp .ne 7, 3) := by decide +kernel
theorem dL_links_609 : decode cL_links 609 = .ok (.iconst 1, 1) := by decide +kernel
theorem dL_links_610 : decode cL_links 610 = .ok (.goto 4, 3) := by decide +kernel
theorem dL_links_613 : decode cL_links 613 = .ok (.iconst 0, 1) := by decide +kernel
theorem dL_links_614 : decode cL_links 614 = .ok (.ireturn, 1) := by decide +kernel
theorem dL_links_615 : decode cL_links 615 = .ok (.iload_n 1, 1) := by decide +kernel
theorem dL_links_616 : decode cL_links 616 = .ok (.bipush 14, 2) := by decide +kernel
theorem dL_links_618 : decode cL_links 618 = .ok (.if_icmp .ge 88, 3) := by decide +kernel
theorem dL_links_621 : decode cL_links 621 = .ok (.iconst 1, 1) := by decide +kernel
theorem dL_links_622 : decode cL_links 622 = .ok (.iload_n 3, 1) := by decide +kernel
theorem dL_links_623 : decode cL_links 623 = .ok (.iload_n 2, 1) := by decide +kernel
theorem dL_links_624 : decode cL_links 624 = .ok (.bipush 48, 2) := by decide +kernel
theorem dL_links_626 : decode cL_links 626 = .ok (.iand, 1) := by decide +kernel
theorem dL_links_627 : decode cL_links 627 = .ok (.ifCond .ne 8, 3) := by decide +kernel
theorem dL_links_630 : decode cL_links 630 = .ok (.bipush 50, 2) := by decide +kernel
theorem dL_links_632 : decode cL_links 632 = .ok (.goto 4, 3) := by decide +kernel
theorem dL_links_635 : decode cL_links 635 = .ok (.iconst 5, 1) := by decide +kernel
theorem dL_links_636 : decode cL_links 636 = .ok (.invokestatic 94, 3) := by decide +kernel
theorem dL_links_639 : decode cL_links 639 = .ok (.iadd, 1) := by decide +kernel
theorem dL_links_640 : decode cL_links 640 = .ok (.istore 14, 2) := by decide +kernel
theorem dL_links_642 : decode cL_links 642 = .ok (.iload 14, 2) := by decide +kernel
theorem dL_links_644 : decode cL_links 644 = .ok (.aload 4, 2) := by decide +kernel
theorem dL_links_646 : decode cL_links 646 = .ok (.aload 5, 2) := by decide +kernel
theorem dL_links_648 : decode cL_links 648 = .ok (.aload 8, 2) := by decide +kernel
theorem dL_links_650 : decode cL_links 650 = .ok (.aload 9, 2) := by decide +kernel
theorem dL_links_652 : decode cL_links 652 = .ok (.invokestatic 111, 3) := by decide +kernel
theorem dL_links_655 : decode cL_links 655 = .ok (.istore 15, 2) := by decide +kernel
theorem dL_links_657 : decode cL_links 657 = .ok (.aload_n 0, 1) := by decide +kernel
theorem dL_links_658 : decode cL_links 658 = .ok (.iconst 0, 1) := by decide +kernel
theorem dL_links_659 : decode cL_links 659 = .ok (.invokestatic 115, 3) := by decide +kernel
theorem dL_links_662 : decode cL_links 662 = .ok (.bipush (-72), 2) := by decide +kernel
theorem dL_links_664 : decode cL_links 664 = .ok (.if_icmp .ne 40, 3) := by decide +kernel
theorem dL_links_667 : decode cL_links 667 = .ok (.aload_n 0, 1) := by decide +kernel
theorem dL_links_668 : decode cL_links 668 = .ok (.bipush 51, 2) := by decide +kernel
theorem dL_links_670 : decode cL_links 670 = .ok (.invokestatic 115, 3) := by decide +kernel
theorem dL_links_673 : decode cL_links 673 = .ok (.bipush (-72), 2) := by decide +kernel
theorem dL_links_675 : decode cL_links 675 = .ok (.if_icmp .ne 29, 3) := by decide +kernel
theorem dL_links_678 : decode cL_links 678 = .ok (.aload_n 0, 1) := by decide +kernel
theorem dL_links_679 : decode cL_links 679 = .ok (.ldc 67, 2) := by decide +kernel
theorem dL_links_681 : decode cL_links 681 = .ok (.invokestatic 115, 3) := by decide +kernel
theorem dL_links_684 : decode cL_links 684 = .ok (.bipush (-72), 2) := by decide +kernel
theorem dL_links_686 : decode cL_links 686 = .ok (.if_icmp .ne 18, 3) := by decide +kernel
theorem dL_links_689 : decode cL_links 689 = .ok (.aload_n 0, 1) := by decide +kernel
theorem dL_links_690 : decode cL_links 690 = .ok (.iload 14, 2) := by decide +kernel
theorem dL_links_692 : decode cL_links 692 = .ok (.invokestatic 115, 3) := by decide +kernel
theorem dL_links_695 : decode cL_links 695 = .ok (.iload 15, 2) := by decide +kernel
theorem dL_links_697 : decode cL_links 697 = .ok (.if_icmp .ne 7, 3) := by decide +kernel
theorem dL_links_700 : decode cL_links 700 = .ok (.iconst 1, 1) := by decide +kernel
theorem dL_links_701 : decode cL_links 701 = .ok (.goto 4, 3) := by decide +kernel
theorem dL_links_704 : decode cL_links 704 = .ok (.iconst 0, 1) := by decide +kernel
theorem dL_links_705 : decode cL_links 705 = .ok (.ireturn, 1) := by decide +kernel
theorem dL_links_706 : decode cL_links 706 = .ok (.aload_n 0, 1) := by decide +kernel
theorem dL_links_707 : decode cL_links 707 = .ok (.iconst 2, 1) := by decide +kernel
theorem dL_links_708 : decode cL_links 708 = .ok (.invokestatic 117, 3) := by decide +kernel
theorem dL_links_711 : decode cL_links 711 = .ok (.bipush (-71), 2) := by decide +kernel
theorem dL_links_713 : decode cL_links 713 = .ok (.if_icmp .ne 23, 3) := by decide +kernel
theorem dL_links_716 : decode cL_links 716 = .ok (.aload_n 0, 1) := by decide +kernel
theorem dL_links_717 : decode cL_links 717 = .ok (.iconst (-1), 1) := by decide +kernel
theorem dL_links_718 : decode cL_links 718 = .ok (.invokestatic 119, 3) := by decide +kernel
theorem dL_links_721 : decode cL_links 721 = .ok (.bipush (-71), 2) := by decide +kernel
theorem dL_links_723 : decode cL_links 723 = .ok (.if_icmp .ne 13, 3) := by decide +kernel
theorem dL_links_726 : decode cL_links 726 = .ok (.aload_n 0, 1) := by decide +kernel
theorem dL_links_727 : decode cL_links 727 = .ok (.iconst 2, 1) := by decide +kernel
theorem dL_links_728 : decode cL_links 728 = .ok (.invokestatic 121, 3) := by decide +kernel
theorem dL_links_731 : decode cL_links 731 = .ok (.bipush (-71), 2) := by decide +kernel
theorem dL_links_733 : decode cL_links 733 = .ok (.if_icmp .eq 5, 3) := by decide +kernel
theorem dL_links_736 : decode cL_links 736 = .ok (.iconst 0, 1) := by decide +kernel
theorem dL_links_737 : decode cL_links 737 = .ok (.ireturn, 1) := by decide +kernel
theorem dL_links_738 : decode cL_links 738 = .ok (.aload 9, 2) := by decide +kernel
theorem dL_links_740 : decode cL_links 740 = .ok (.iload 11, 2) := by decide +kernel
theorem dL_links_742 : decode cL_links 742 = .ok (.bipush 7, 2) := by decide +kernel
theorem dL_links_744 : decode cL_links 744 = .ok (.iadd, 1) := by decide +kernel
theorem dL_links_745 : decode cL_links 745 = .ok (.iaload, 1) := by decide +kernel
theorem dL_links_746 : decode cL_links 746 = .ok (.ifCond .ne 42, 3) := by decide +kernel
theorem dL_links_749 : decode cL_links 749 = .ok (.aload_n 0, 1) := by decide +kernel
theorem dL_links_750 : decode cL_links 750 = .ok (.iload 10, 2) := by decide +kernel
theorem dL_links_752 : decode cL_links 752 = .ok (.invokestatic 117, 3) := by decide +kernel
theorem dL_links_755 : decode cL_links 755 = .ok (.bipush (-73), 2) := by decide +kernel
theorem dL_links_757 : decode cL_links 757 = .ok (.if_icmp .ne 29, 3) := by decide +kernel
theorem dL_links_760 : decode cL_links 760 = .ok (.aload_n 0, 1) := by decide +kernel
theorem dL_links_761 : decode cL_links 761 = .ok (.iload 10, 2) := by decide +kernel
theorem dL_links_763 : decode cL_links 763 = .ok (.invokestatic 119, 3) := by decide +kernel
theorem dL_links_766 : decode cL_links 766 = .ok (.bipush (-73), 2) := by decide +kernel
theorem dL_links_768 : decode cL_links 768 = .ok (.if_icmp .ne 18, 3) := by decide +kernel
theorem dL_links_771 : decode cL_links 771 = .ok (.aload_n 0, 1) := by decide +kernel
theorem dL_links_772 : decode cL_links 772 = .ok (.iload 10, 2) := by decide +kernel
theorem dL_links_774 : decode cL_links 774 = .ok (.invokestatic 121, 3) := by decide +kernel
theorem dL_links_777 : decode cL_links 777 = .ok (.bipush (-73), 2) := by decide +kernel
theorem dL_links_779 : decode cL_links 779 = .ok (.if_icmp .ne 7, 3) := by decide +kernel
theorem dL_links_782 : decode cL_links 782 = .ok (.iconst 1, 1) := by decide +kernel
theorem dL_links_783 : decode cL_links 783 = .ok (.goto 4, 3) := by decide +kernel
theorem dL_links_786 : decode cL_links 786 = .ok (.iconst 0, 1) := by decide +kernel
theorem dL_links_787 : decode cL_links 787 = .ok (.ireturn, 1) := by decide +kernel
theorem dL_links_788 : decode cL_links 788 = .ok (.aload 12, 2) := by decide +kernel
theorem dL_links_790 : decode cL_links 790 = .ok (.aload 9, 2) := by decide +kernel
theorem dL_links_792 : decode cL_links 792 = .ok (.iload 10, 2) := by decide +kernel
theorem dL_links_794 : decode cL_links 794 = .ok (.invokestatic 123, 3) := by decide +kernel
theorem dL_links_797 : decode cL_links 797 = .ok (.lstore 14, 2) := by decide +kernel
theorem dL_links_799 : decode cL_links 799 = .ok (.lload 14, 2) := by decide +kernel
theorem dL_links_801 : decode cL_links 801 = .ok (.ldc2_w 81, 3) := by decide +kernel
theorem dL_links_804 : decode cL_links 804 = .ok (.land, 1) := by decide +kernel
theorem dL_links_805 : decode cL_links 805 = .ok (.l2i, 1) := by decide +kernel
theorem dL_links_806 : decode cL_links 806 = .ok (.istore 16, 2) := by decide +kernel
theorem dL_links_808 : decode cL_links 808 = .ok (.iload_n 1, 1) := by decide +kernel
theorem dL_links_809 : decode cL_links 809 = .ok (.bipush 22, 2) := by decide +kernel
theorem dL_links_811 : decode cL_links 811 = .ok (.if_icmp .ge 47, 3) := by decide +kernel
theorem dL_links_814 : decode cL_links 814 = .ok (.lload 14, 2) := by decide +kernel
theorem dL_links_816 : decode cL_links 816 = .ok (.iload 10, 2) := by decide +kernel
theorem dL_links_818 : decode cL_links 818 = .ok (.ifCond .ne 8, 3) := by decide +kernel
theorem dL_links_821 : decode cL_links 821 = .ok (.aload 5, 2) := by decide +kernel
theorem dL_links_823 : decode cL_links 823 = .ok (.goto 5, 3) := by decide +kernel
theorem dL_links_826 : decode cL_links 826 = .ok (.aload 4, 2) := by decide +kernel
theorem dL_links_828 : decode cL_links 828 = .ok (.aload 7, 2) := by decide +kernel
theorem dL_links_830 : decode cL_links 830 = .ok (.aload 8, 2) := by decide +kernel
theorem dL_links_832 : decode cL_links 832 = .ok (.aload 9, 2) := by decide +kernel
theorem dL_links_834 : decode cL_links 834 = .ok (.iconst 1, 1) := by decide +kernel
theorem dL_links_835 : decode cL_links 835 = .ok (.iload 10, 2) := by decide +kernel
theorem dL_links_837 : decode cL_links 837 = .ok (.isub, 1) := by decide +kernel
theorem dL_links_838 : decode cL_links 838 = .ok (.invokestatic 127, 3) := by decide +kernel
theorem dL_links_841 : decode cL_links 841 = .ok (.aload_n 0, 1) := by decide +kernel
theorem dL_links_842 : decode cL_links 842 = .ok (.iload 10, 2) := by decide +kernel
theorem dL_links_844 : decode cL_links 844 = .ok (.invokestatic 117, 3) := by decide +kernel
theorem dL_links_847 : decode cL_links 847 = .ok (.iload 16, 2) := by decide +kernel
theorem dL_links_849 : decode cL_links 849 = .ok (.if_icmp .ne 7, 3) := by decide +kernel
theorem dL_links_852 : decode cL_links 852 = .ok (.iconst 1, 1) := by decide +kernel
theorem dL_links_853 : decode cL_links 853 = .ok (.goto 4, 3) := by decide +kernel
theorem dL_links_856 : decode cL_links 856 = .ok (.iconst 0, 1) := by decide +kernel
theorem dL_links_857 : decode cL_links 857 = .ok (.ireturn, 1) := by decide +kernel
theorem dL_links_858 : decode cL_links 858 = .ok (.aload 9, 2) := by decide +kernel
theorem dL_links_860 : decode cL_links 860 = .ok (.iload 11, 2) := by decide +kernel
theorem dL_links_862 : decode cL_links 862 = .ok (.iconst 5, 1) := by decide +kernel
theorem dL_links_863 : decode cL_links 863 = .ok (.iadd, 1) := by decide +kernel
theorem dL_links_864 : decode cL_links 864 = .ok (.dup2, 1) := by decide +kernel
theorem dL_links_865 : decode cL_links 865 = .ok (.iaload, 1) := by decide +kernel
theorem dL_links_866 : decode cL_links 866 = .ok (.iconst 1, 1) := by decide +kernel
theorem dL_links_867 : decode cL_links 867 = .ok (.iadd, 1) := by decide +kernel
theorem dL_links_868 : decode cL_links 868 = .ok (.iastore, 1) := by decide +kernel
theorem dL_links_869 : decode cL_links 869 = .ok (.iload_n 1, 1) := by decide +kernel
theorem dL_links_870 : decode cL_links 870 = .ok (.bipush 22, 2) := by decide +kernel
theorem dL_links_872 : decode cL_links 872 = .ok (.if_icmp .ne 20, 3) := by decide +kernel
theorem dL_links_875 : decode cL_links 875 = .ok (.aload_n 0, 1) := by decide +kernel
theorem dL_links_876 : decode cL_links 876 = .ok (.iload 10, 2) := by decide +kernel
theorem dL_links_878 : decode cL_links 878 = .ok (.invokestatic 119, 3) := by decide +kernel
theorem dL_links_881 : decode cL_links 881 = .ok (.iload 16, 2) := by decide +kernel
theorem dL_links_883 : decode cL_links 883 = .ok (.if_icmp .ne 7, 3) := by decide +kernel
theorem dL_links_886 : decode cL_links 886 = .ok (.iconst 1, 1) := by decide +kernel
theorem dL_links_887 : decode cL_links 887 = .ok (.goto 4, 3) := by decide +kernel
theorem dL_links_890 : decode cL_links 890 = .ok (.iconst 0, 1) := by decide +kernel
theorem dL_links_891 : decode cL_links 891 = .ok (.ireturn, 1) := by decide +kernel
theorem dL_links_892 : decode cL_links 892 = .ok (.lload 14, 2) := by decide +kernel
theorem dL_links_894 : decode cL_links 894 = .ok (.aload 12, 2) := by decide +kernel
theorem dL_links_896 : decode cL_links 896 = .ok (.aload 7, 2) := by decide +kernel
theorem dL_links_898 : decode cL_links 898 = .ok (.aload 8, 2) := by decide +kernel
theorem dL_links_900 : decode cL_links 900 = .ok (.aload 9, 2) := by decide +kernel
theorem dL_links_902 : decode cL_links 902 = .ok (.iload 10, 2) := by decide +kernel
theorem dL_links_904 : decode cL_links 904 = .ok (.invokestatic 127, 3) := by decide +kernel
theorem dL_links_907 : decode cL_links 907 = .ok (.aload_n 0, 1) := by decide +kernel
theorem dL_links_908 : decode cL_links 908 = .ok (.iload 10, 2) := by decide +kernel
theorem dL_links_910 : decode cL_links 910 = .ok (.invokestatic 121, 3) := by decide +kernel
theorem dL_links_913 : decode cL_links 913 = .ok (.iload 16, 2) := by decide +kernel
theorem dL_links_915 : decode cL_links 915 = .ok (.if_icmp .ne 7, 3) := by decide +kernel
theorem dL_links_918 : decode cL_links 918 = .ok (.iconst 1, 1) := by decide +kernel
theorem dL_links_919 : decode cL_links 919 = .ok (.goto 4, 3) := by decide +kernel
theorem dL_links_922 : decode cL_links 922 = .ok (.iconst 0, 1) := by decide +kernel
theorem dL_links_923 : decode cL_links 923 = .ok (.ireturn, 1) := by decide +kernel
theorem dL_follow_0 : decode cL_follow 0 = .ok (.aload_n 3, 1) := by decide +kernel
theorem dL_follow_1 : decode cL_follow 1 = .ok (.iconst 3, 1) := by decide +kernel
theorem dL_follow_2 : decode cL_follow 2 = .ok (.iaload, 1) := by decide +kernel
theorem dL_follow_3 : decode cL_follow 3 = .ok (.aload_n 3, 1) := by decide +kernel
theorem dL_follow_4 : decode cL_follow 4 = .ok (.iconst 4, 1) := by decide +kernel
theorem dL_follow_5 : decode cL_follow 5 = .ok (.iaload, 1) := by decide +kernel
theorem dL_follow_6 : decode cL_follow 6 = .ok (.if_icmp .ge 9, 3) := by decide +kernel
theorem dL_follow_9 : decode cL_follow 9 = .ok (.aload_n 3, 1) := by decide +kernel
theorem dL_follow_10 : decode cL_follow 10 = .ok (.iconst 3, 1) := by decide +kernel
theorem dL_follow_11 : decode cL_follow 11 = .ok (.iaload, 1) := by decide +kernel
theorem dL_follow_12 : decode cL_follow 12 = .ok (.goto 6, 3) := by decide +kernel
theorem dL_follow_15 : decode cL_follow 15 = .ok (.aload_n 3, 1) := by decide +kernel
theorem dL_follow_16 : decode cL_follow 16 = .ok (.iconst 4, 1) := by decide +kernel
theorem dL_follow_17 : decode cL_follow 17 = .ok (.iaload, 1) := by decide +kernel
theorem dL_follow_18 : decode cL_follow 18 = .ok (.istore 4, 2) := by decide +kernel
theorem dL_follow_20 : decode cL_follow 20 = .ok (.aload_n 3, 1) := by decide +kernel
theorem dL_follow_21 : decode cL_follow 21 = .ok (.iconst 5, 1) := by decide +kernel
theorem dL_follow_22 : decode cL_follow 22 = .ok (.iaload, 1) := by decide +kernel
theorem dL_follow_23 : decode cL_follow 23 = .ok (.iload 4, 2) := by decide +kernel
theorem dL_follow_25 : decode cL_follow 25 = .ok (.if_icmp .ge 9, 3) := by decide +kernel
theorem dL_follow_28 : decode cL_follow 28 = .ok (.aload_n 3, 1) := by decide +kernel
theorem dL_follow_29 : decode cL_follow 29 = .ok (.iconst 5, 1) := by decide +kernel
theorem dL_follow_30 : decode cL_follow 30 = .ok (.iaload, 1) := by decide +kernel
theorem dL_follow_31 : decode cL_follow 31 = .ok (.goto 5, 3) := by decide +kernel
theorem dL_follow_34 : decode cL_follow 34 = .ok (.iload 4, 2) := by decide +kernel
theorem dL_follow_36 : decode cL_follow 36 = .ok (.istore 4, 2) := by decide +kernel
theorem dL_follow_38 : decode cL_follow 38 = .ok (.iconst 0, 1) := by decide +kernel
theorem dL_follow_39 : decode cL_follow 39 = .ok (.istore 5, 2) := by decide +kernel
theorem dL_follow_41 : decode cL_follow 41 = .ok (.aload_n 3, 1) := by decide +kernel
theorem dL_follow_42 : decode cL_follow 42 = .ok (.bipush 8, 2) := by decide +kernel
theorem dL_follow_44 : decode cL_follow 44 = .ok (.iaload, 1) := by decide +kernel
theorem dL_follow_45 : decode cL_follow 45 = .ok (.aload_n 3, 1) := by decide +kernel
theorem dL_follow_46 : decode cL_follow 46 = .ok (.bipush 6, 2) := by decide +kernel
theorem dL_follow_48 : decode cL_follow 48 = .ok (.iaload, 1) := by decide +kernel
theorem dL_follow_49 : decode cL_follow 49 = .ok (.if_icmp .ge 180, 3) := by decide +kernel
theorem dL_follow_52 : decode cL_follow 52 = .ok (.aload_n 0, 1) := by decide +kernel
theorem dL_follow_53 : decode cL_follow 53 = .ok (.iload 5, 2) := by decide +kernel
theorem dL_follow_55 : decode cL_follow 55 = .ok (.iconst 1, 1) := by decide +kernel
theorem dL_follow_56 : decode cL_follow 56 = .ok (.iadd, 1) := by decide +kernel
theorem dL_follow_57 : decode cL_follow 57 = .ok (.iaload, 1) := by decide +kernel
theorem dL_follow_58 : decode cL_follow 58 = .ok (.aload_n 3, 1) := by decide +kernel
theorem dL_follow_59 : decode cL_follow 59 = .ok (.bipush 8, 2) := by decide +kernel
theorem dL_follow_61 : decode cL_follow 61 = .ok (.iaload, 1) := by decide +kernel
theorem dL_follow_62 : decode cL_follow 62 = .ok (.if_icmp .gt 9, 3) := by decide +kernel
theorem dL_follow_65 : decode cL_follow 65 = .ok (.iinc 5 1, 3) := by decide +kernel
theorem dL_follow_68 : decode cL_follow 68 = .ok (.goto (-16), 3) := by decide +kernel
theorem dL_follow_71 : decode cL_follow 71 = .ok (.aload_n 1, 1) := by decide +kernel
theorem dL_follow_72 : decode cL_follow 72 = .ok (.iconst 0, 1) := by decide +kernel
theorem dL_follow_73 : decode cL_follow 73 = .ok (.laload, 1) := by decide +kernel
theorem dL_follow_74 : decode cL_follow 74 = .ok (.aload_n 3, 1) := by decide +kernel
theorem dL_follow_75 : decode cL_follow 75 = .ok (.bipush 8, 2) := by decide +kernel
theorem dL_follow_77 : decode cL_follow 77 = .ok (.iaload, 1) := by decide +kernel
theorem dL_follow_78 : decode cL_follow 78 = .ok (.lshr, 1) := by decide +kernel
theorem dL_follow_79 : decode cL_follow 79 = .ok (.lconst 1, 1) := by decide +kernel
theorem dL_follow_80 : decode cL_follow 80 = .ok (.land, 1) := by decide +kernel
theorem dL_follow_81 : decode cL_follow 81 = .ok (.lconst 1, 1) := by decide +kernel
theorem dL_follow_82 : decode cL_follow 82 = .ok (.lcmp, 1) := by decide +kernel
theorem dL_follow_83 : decode cL_follow 83 = .ok (.ifCond .ne 7, 3) := by decide +kernel
theorem dL_follow_86 : decode cL_follow 86 = .ok (.iconst 1, 1) := by decide +kernel
theorem dL_follow_87 : decode cL_follow 87 = .ok (.goto 4, 3) := by decide +kernel
theorem dL_follow_90 : decode cL_follow 90 = .ok (.iconst 0, 1) := by decide +kernel
theorem dL_follow_91 : decode cL_follow 91 = .ok (.istore 6, 2) := by decide +kernel
theorem dL_follow_93 : decode cL_follow 93 = .ok (.iload 6, 2) := by decide +kernel
theorem dL_follow_95 : decode cL_follow 95 = .ok (.ifCond .ne 13, 3) := by decide +kernel
theorem dL_follow_98 : decode cL_follow 98 = .ok (.aload_n 3, 1) := by decide +kernel
theorem dL_follow_99 : decode cL_follow 99 = .ok (.bipush 8, 2) := by decide +kernel
theorem dL_follow_101 : decode cL_follow 101 = .ok (.iaload, 1) := by decide +kernel
theorem dL_follow_102 : decode cL_follow 102 = .ok (.iload 4, 2) := by decide +kernel
theorem dL_follow_104 : decode cL_follow 104 = .ok (.if_icmp .lt 4, 3) := by decide +kernel
theorem dL_follow_107 : decode cL_follow 107 = .ok (.return_, 1) := by decide +kernel
theorem dL_follow_108 : decode cL_follow 108 = .ok (.iload 6, 2) := by decide +kernel
theorem dL_follow_110 : decode cL_follow 110 = .ok (.ifCond .eq 14, 3) := by decide +kernel
theorem dL_follow_113 : decode cL_follow 113 = .ok (.aload_n 3, 1) := by decide +kernel
theorem dL_follow_114 : decode cL_follow 114 = .ok (.bipush 8, 2) := by decide +kernel
theorem dL_follow_116 : decode cL_follow 116 = .ok (.iaload, 1) := by decide +kernel
theorem dL_follow_117 : decode cL_follow 117 = .ok (.aload_n 0, 1) := by decide +kernel
theorem dL_follow_118 : decode cL_follow 118 = .ok (.iload 5, 2) := by decide +kernel
theorem dL_follow_120 : decode cL_follow 120 = .ok (.iaload, 1) := by decide +kernel
theorem dL_follow_121 : decode cL_follow 121 = .ok (.if_icmp .le 14, 3) := by decide +kernel
theorem dL_follow_124 : decode cL_follow 124 = .ok (.aload_n 3, 1) := by decide +kernel
theorem dL_follow_125 : decode cL_follow 125 = .ok (.bipush 8, 2) := by decide +kernel
theorem dL_follow_127 : decode cL_follow 127 = .ok (.dup2, 1) := by decide +kernel
theorem dL_follow_128 : decode cL_follow 128 = .ok (.iaload, 1) := by decide +kernel
theorem dL_follow_129 : decode cL_follow 129 = .ok (.iconst 1, 1) := by decide +kernel
theorem dL_follow_130 : decode cL_follow 130 = .ok (.iadd, 1) := by decide +kernel
theorem dL_follow_131 : decode cL_follow 131 = .ok (.iastore, 1) := by decide +kernel
theorem dL_follow_132 : decode cL_follow 132 = .ok (.goto (-91), 3) := by decide +kernel
theorem dL_follow_135 : decode cL_follow 135 = .ok (.aload_n 3, 1) := by decide +kernel
theorem dL_follow_136 : decode cL_follow 136 = .ok (.bipush 8, 2) := by decide +kernel
theorem dL_follow_138 : decode cL_follow 138 = .ok (.iaload, 1) := by decide +kernel
theorem dL_follow_139 : decode cL_follow 139 = .ok (.istore 7, 2) := by decide +kernel
theorem dL_follow_141 : decode cL_follow 141 = .ok (.iload 7, 2) := by decide +kernel
theorem dL_follow_143 : decode cL_follow 143 = .ok (.aload_n 0, 1) := by decide +kernel
theorem dL_follow_144 : decode cL_follow 144 = .ok (.iload 5, 2) := by decide +kernel
theorem dL_follow_146 : decode cL_follow 146 = .ok (.iconst 1, 1) := by decide +kernel
theorem dL_follow_147 : decode cL_follow 147 = .ok (.iadd, 1) := by decide +kernel
theorem dL_follow_148 : decode cL_follow 148 = .ok (.iaload, 1) := by decide +kernel
theorem dL_follow_149 : decode cL_follow 149 = .ok (.if_icmp .ge 22, 3) := by decide +kernel
theorem dL_follow_152 : decode cL_follow 152 = .ok (.aload_n 1, 1) := by decide +kernel
theorem dL_follow_153 : decode cL_follow 153 = .ok (.iconst 0, 1) := by decide +kernel
theorem dL_follow_154 : decode cL_follow 154 = .ok (.laload, 1) := by decide +kernel
theorem dL_follow_155 : decode cL_follow 155 = .ok (.iload 7, 2) := by decide +kernel
theorem dL_follow_157 : decode cL_follow 157 = .ok (.lshr, 1) := by decide +kernel
theorem dL_follow_158 : decode cL_follow 158 = .ok (.lconst 1, 1) := by decide +kernel
theorem dL_follow_159 : decode cL_follow 159 = .ok (.land, 1) := by decide +kernel
theorem dL_follow_160 : decode cL_follow 160 = .ok (.lconst 1, 1) := by decide +kernel
theorem dL_follow_161 : decode cL_follow 161 = .ok (.lcmp, 1) := by decide +kernel
theorem dL_follow_162 : decode cL_follow 162 = .ok (.ifCond .ne 9, 3) := by decide +kernel
theorem dL_follow_165 : decode cL_follow 165 = .ok (.iinc 7 1, 3) := by decide +kernel
theorem dL_follow_168 : decode cL_follow 168 = .ok (.goto (-27), 3) := by decide +kernel
theorem dL_follow_171 : decode cL_follow 171 = .ok (.iload 7, 2) := by decide +kernel
theorem dL_follow_173 : decode cL_follow 173 = .ok (.aload_n 0, 1) := by decide +kernel
theorem dL_follow_174 : decode cL_follow 174 = .ok (.iload 5, 2) := by decide +kernel
theorem dL_follow_176 : decode cL_follow 176 = .ok (.iconst 1, 1) := by decide +kernel
theorem dL_follow_177 : decode cL_follow 177 = .ok (.iadd, 1) := by decide +kernel
theorem dL_follow_178 : decode cL_follow 178 = .ok (.iaload, 1) := by decide +kernel
theorem dL_follow_179 : decode cL_follow 179 = .ok (.if_icmp .ne 28, 3) := by decide +kernel
theorem dL_follow_182 : decode cL_follow 182 = .ok (.aload_n 2, 1) := by decide +kernel
theorem dL_follow_183 : decode cL_follow 183 = .ok (.aload_n 3, 1) := by decide +kernel
theorem dL_follow_184 : decode cL_follow 184 = .ok (.bipush 9, 2) := by decide +kernel
theorem dL_follow_186 : decode cL_follow 186 = .ok (.iaload, 1) := by decide +kernel
theorem dL_follow_187 : decode cL_follow 187 = .ok (.iload 5, 2) := by decide +kernel
theorem dL_follow_189 : decode cL_follow 189 = .ok (.iastore, 1) := by decide +kernel
theorem dL_follow_190 : decode cL_follow 190 = .ok (.aload_n 3, 1) := by decide +kernel
theorem dL_follow_191 : decode cL_follow 191 = .ok (.bipush 9, 2) := by decide +kernel
theorem dL_follow_193 : decode cL_follow 193 = .ok (.dup2, 1) := by decide +kernel
theorem dL_follow_194 : decode cL_follow 194 = .ok (.iaload, 1) := by decide +kernel
theorem dL_follow_195 : decode cL_follow 195 = .ok (.iconst 1, 1) := by decide +kernel
theorem dL_follow_196 : decode cL_follow 196 = .ok (.iadd, 1) := by decide +kernel
theorem dL_follow_197 : decode cL_follow 197 = .ok (.iastore, 1) := by decide +kernel
theorem dL_follow_198 : decode cL_follow 198 = .ok (.aload_n 3, 1) := by decide +kernel
theorem dL_follow_199 : decode cL_follow 199 = .ok (.bipush 8, 2) := by decide +kernel
theorem dL_follow_201 : decode cL_follow 201 = .ok (.iload 7, 2) := by decide +kernel
theorem dL_follow_203 : decode cL_follow 203 = .ok (.iastore, 1) := by decide +kernel
theorem dL_follow_204 : decode cL_follow 204 = .ok (.goto 22, 3) := by decide +kernel
theorem dL_follow_207 : decode cL_follow 207 = .ok (.iload 7, 2) := by decide +kernel
theorem dL_follow_209 : decode cL_follow 209 = .ok (.iload 4, 2) := by decide +kernel
theorem dL_follow_211 : decode cL_follow 211 = .ok (.if_icmp .ge 14, 3) := by decide +kernel
theorem dL_follow_214 : decode cL_follow 214 = .ok (.aload_n 3, 1) := by decide +kernel
theorem dL_follow_215 : decode cL_follow 215 = .ok (.bipush 8, 2) := by decide +kernel
theorem dL_follow_217 : decode cL_follow 217 = .ok (.iload 7, 2) := by decide +kernel
theorem dL_follow_219 : decode cL_follow 219 = .ok (.iconst 1, 1) := by decide +kernel
theorem dL_follow_220 : decode cL_follow 220 = .ok (.iadd, 1) := by decide +kernel
theorem dL_follow_221 : decode cL_follow 221 = .ok (.iastore, 1) := by decide +kernel
theorem dL_follow_222 : decode cL_follow 222 = .ok (.goto 4, 3) := by decide +kernel
theorem dL_follow_225 : decode cL_follow 225 = .ok (.return_, 1) := by decide +kernel
theorem dL_follow_226 : decode cL_follow 226 = .ok (.goto (-185), 3) := by decide +kernel
theorem dL_follow_229 : decode cL_follow 229 = .ok (.return_, 1) := by decide +kernel
theorem dL_bundles_0 : decode cL_bundles 0 = .ok (.iload_n 1, 1) := by decide +kernel
theorem dL_bundles_1 : decode cL_bundles 1 = .ok (.iconst 2, 1) := by decide +kernel
theorem dL_bundles_2 : decode cL_bundles 2 = .ok (.if_icmp .ge 141, 3) := by decide +kernel
theorem dL_bundles_5 : decode cL_bundles 5 = .ok (.iconst 1, 1) := by decide +kernel
theorem dL_bundles_6 : decode cL_bundles 6 = .ok (.iload_n 2, 1) := by decide +kernel
theorem dL_bundles_7 : decode cL_bundles 7 = .ok (.iconst 4, 1) := by decide +kernel
theorem dL_bundles_8 : decode cL_bundles 8 = .ok (.invokestatic 94, 3) := by decide +kernel
theorem dL_bundles_11 : decode cL_bundles 11 = .ok (.iadd, 1) := by decide +kernel
theorem dL_bundles_12 : decode cL_bundles 12 = .ok (.istore 8, 2) := by decide +kernel
theorem dL_bundles_14 : decode cL_bundles 14 = .ok (.aload_n 0, 1) := by decide +kernel
theorem dL_bundles_15 : decode cL_bundles 15 = .ok (.iconst 0, 1) := by decide +kernel
theorem dL_bundles_16 : decode cL_bundles 16 = .ok (.invokestatic 131, 3) := by decide +kernel
theorem dL_bundles_19 : decode cL_bundles 19 = .ok (.bipush (-72), 2) := by decide +kernel
theorem dL_bundles_21 : decode cL_bundles 21 = .ok (.if_icmp .ne 24, 3) := by decide +kernel
theorem dL_bundles_24 : decode cL_bundles 24 = .ok (.aload_n 0, 1) := by decide +kernel
theorem dL_bundles_25 : decode cL_bundles 25 = .ok (.iconst 5, 1) := by decide +kernel
theorem dL_bundles_26 : decode cL_bundles 26 = .ok (.invokestatic 131, 3) := by decide +kernel
theorem dL_bundles_29 : decode cL_bundles 29 = .ok (.bipush (-72), 2) := by decide +kernel
theorem dL_bundles_31 : decode cL_bundles 31 = .ok (.if_icmp .ne 14, 3) := by decide +kernel
theorem dL_bundles_34 : decode cL_bundles 34 = .ok (.aload_n 0, 1) := by decide +kernel
theorem dL_bundles_35 : decode cL_bundles 35 = .ok (.ldc 68, 2) := by decide +kernel
theorem dL_bundles_37 : decode cL_bundles 37 = .ok (.invokestatic 131, 3) := by decide +kernel
theorem dL_bundles_40 : decode cL_bundles 40 = .ok (.bipush (-72), 2) := by decide +kernel
theorem dL_bundles_42 : decode cL_bundles 42 = .ok (.if_icmp .eq 5, 3) := by decide +kernel
theorem dL_bundles_45 : decode cL_bundles 45 = .ok (.iconst 0, 1) := by decide +kernel
theorem dL_bundles_46 : decode cL_bundles 46 = .ok (.ireturn, 1) := by decide +kernel
theorem dL_bundles_47 : decode cL_bundles 47 = .ok (.aload 7, 2) := by decide +kernel
theorem dL_bundles_49 : decode cL_bundles 49 = .ok (.bipush 6, 2) := by decide +kernel
theorem dL_bundles_51 : decode cL_bundles 51 = .ok (.iaload, 1) := by decide +kernel
theorem dL_bundles_52 : decode cL_bundles 52 = .ok (.bipush 56, 2) := by decide +kernel
theorem dL_bundles_54 : decode cL_bundles 54 = .ok (.if_icmp .le 19, 3) := by decide +kernel
theorem dL_bundles_57 : decode cL_bundles 57 = .ok (.aload_n 0, 1) := by decide +kernel
theorem dL_bundles_58 : decode cL_bundles 58 = .ok (.iconst (-1), 1) := by decide +kernel
theorem dL_bundles_59 : decode cL_bundles 59 = .ok (.invokestatic 131, 3) := by decide +kernel
theorem dL_bundles_62 : decode cL_bundles 62 = .ok (.bipush (-72), 2) := by decide +kernel
theorem dL_bundles_64 : decode cL_bundles 64 = .ok (.if_icmp .ne 7, 3) := by decide +kernel
theorem dL_bundles_67 : decode cL_bundles 67 = .ok (.iconst 1, 1) := by decide +kernel
theorem dL_bundles_68 : decode cL_bundles 68 = .ok (.goto 4, 3) := by decide +kernel
theorem dL_bundles_71 : decode cL_bundles 71 = .ok (.iconst 0, 1) := by decide +kernel
theorem dL_bundles_72 : decode cL_bundles 72 = .ok (.ireturn, 1) := by decide +kernel
theorem dL_bundles_73 : decode cL_bundles 73 = .ok (.aload 4, 2) := by decide +kernel
theorem dL_bundles_75 : decode cL_bundles 75 = .ok (.aload 7, 2) := by decide +kernel
theorem dL_bundles_77 : decode cL_bundles 77 = .ok (.bipush 7, 2) := by decide +kernel
theorem dL_bundles_79 : decode cL_bundles 79 = .ok (.iaload, 1) := by decide +kernel
theorem dL_bundles_80 : decode cL_bundles 80 = .ok (.aload 7, 2) := by decide +kernel
theorem dL_bundles_82 : decode cL_bundles 82 = .ok (.bipush 6, 2) := by decide +kernel
theorem dL_bundles_84 : decode cL_bundles 84 = .ok (.iaload, 1) := by decide +kernel
theorem dL_bundles_85 : decode cL_bundles 85 = .ok (.iastore, 1) := by decide +kernel
theorem dL_bundles_86 : decode cL_bundles 86 = .ok (.aload 7, 2) := by decide +kernel
theorem dL_bundles_88 : decode cL_bundles 88 = .ok (.bipush 7, 2) := by decide +kernel
theorem dL_bundles_90 : decode cL_bundles 90 = .ok (.dup2, 1) := by decide +kernel
theorem dL_bundles_91 : decode cL_bundles 91 = .ok (.iaload, 1) := by decide +kernel
theorem dL_bundles_92 : decode cL_bundles 92 = .ok (.iconst 1, 1) := by decide +kernel
theorem dL_bundles_93 : decode cL_bundles 93 = .ok (.iadd, 1) := by decide +kernel
theorem dL_bundles_94 : decode cL_bundles 94 = .ok (.iastore, 1) := by decide +kernel
theorem dL_bundles_95 : decode cL_bundles 95 = .ok (.aload 7, 2) := by decide +kernel
theorem dL_bundles_97 : decode cL_bundles 97 = .ok (.bipush 6, 2) := by decide +kernel
