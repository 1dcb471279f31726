/-! ===== decode rows of the law ===== -/
theorem dL_law_416 : decode cL_law 416 = .ok (.istore 21, 2) := by decide +kernel
theorem dL_law_418 : decode cL_law 418 = .ok (.iload 17, 2) := by decide +kernel
theorem dL_law_420 : decode cL_law 420 = .ok (.iconst 5, 1) := by decide +kernel
theorem dL_law_421 : decode cL_law 421 = .ok (.ishr, 1) := by decide +kernel
theorem dL_law_422 : decode cL_law 422 = .ok (.bipush 70, 2) := by decide +kernel
theorem dL_law_424 : decode cL_law 424 = .ok (.irem, 1) := by decide +kernel
theorem dL_law_425 : decode cL_law 425 = .ok (.istore 22, 2) := by decide +kernel
theorem dL_law_427 : decode cL_law 427 = .ok (.iload 17, 2) := by decide +kernel
theorem dL_law_429 : decode cL_law 429 = .ok (.bipush 9, 2) := by decide +kernel
theorem dL_law_431 : decode cL_law 431 = .ok (.ishr, 1) := by decide +kernel
theorem dL_law_432 : decode cL_law 432 = .ok (.bipush 60, 2) := by decide +kernel
theorem dL_law_434 : decode cL_law 434 = .ok (.irem, 1) := by decide +kernel
theorem dL_law_435 : decode cL_law 435 = .ok (.istore 23, 2) := by decide +kernel
theorem dL_law_437 : decode cL_law 437 = .ok (.aload_n 1, 1) := by decide +kernel
theorem dL_law_438 : decode cL_law 438 = .ok (.iload 19, 2) := by decide +kernel
theorem dL_law_440 : decode cL_law 440 = .ok (.iload 21, 2) := by decide +kernel
theorem dL_law_442 : decode cL_law 442 = .ok (.iload 22, 2) := by decide +kernel
theorem dL_law_444 : decode cL_law 444 = .ok (.iload 23, 2) := by decide +kernel
theorem dL_law_446 : decode cL_law 446 = .ok (.iload 17, 2) := by decide +kernel
theorem dL_law_448 : decode cL_law 448 = .ok (.bipush 13, 2) := by decide +kernel
theorem dL_law_450 : decode cL_law 450 = .ok (.ishr, 1) := by decide +kernel
theorem dL_law_451 : decode cL_law 451 = .ok (.iconst 4, 1) := by decide +kernel
theorem dL_law_452 : decode cL_law 452 = .ok (.irem, 1) := by decide +kernel
theorem dL_law_453 : decode cL_law 453 = .ok (.invokestatic 90, 3) := by decide +kernel
theorem dL_law_456 : decode cL_law 456 = .ok (.istore 24, 2) := by decide +kernel
theorem dL_law_458 : decode cL_law 458 = .ok (.iload 24, 2) := by decide +kernel
theorem dL_law_460 : decode cL_law 460 = .ok (.ldc 51, 2) := by decide +kernel
theorem dL_law_462 : decode cL_law 462 = .ok (.if_icmp .ne 21, 3) := by decide +kernel
theorem dL_law_465 : decode cL_law 465 = .ok (.aload 4, 2) := by decide +kernel
theorem dL_law_467 : decode cL_law 467 = .ok (.iload 19, 2) := by decide +kernel
theorem dL_law_469 : decode cL_law 469 = .ok (.iaload, 1) := by decide +kernel
theorem dL_law_470 : decode cL_law 470 = .ok (.bipush 12, 2) := by decide +kernel
theorem dL_law_472 : decode cL_law 472 = .ok (.if_icmp .ne 7, 3) := by decide +kernel
theorem dL_law_475 : decode cL_law 475 = .ok (.iconst 1, 1) := by decide +kernel
theorem dL_law_476 : decode cL_law 476 = .ok (.goto 54, 3) := by decide +kernel
theorem dL_law_479 : decode cL_law 479 = .ok (.iconst 0, 1) := by decide +kernel
theorem dL_law_480 : decode cL_law 480 = .ok (.goto 50, 3) := by decide +kernel
theorem dL_law_483 : decode cL_law 483 = .ok (.iload 24, 2) := by decide +kernel
theorem dL_law_485 : decode cL_law 485 = .ok (.aload 4, 2) := by decide +kernel
theorem dL_law_487 : decode cL_law 487 = .ok (.iload 19, 2) := by decide +kernel
theorem dL_law_489 : decode cL_law 489 = .ok (.iaload, 1) := by decide +kernel
theorem dL_law_490 : decode cL_law 490 = .ok (.if_icmp .eq 15, 3) := by decide +kernel
theorem dL_law_493 : decode cL_law 493 = .ok (.iload 24, 2) := by decide +kernel
theorem dL_law_495 : decode cL_law 495 = .ok (.aload 4, 2) := by decide +kernel
theorem dL_law_497 : decode cL_law 497 = .ok (.iload 19, 2) := by decide +kernel
theorem dL_law_499 : decode cL_law 499 = .ok (.iaload, 1) := by decide +kernel
theorem dL_law_500 : decode cL_law 500 = .ok (.iconst 1, 1) := by decide +kernel
theorem dL_law_501 : decode cL_law 501 = .ok (.iadd, 1) := by decide +kernel
theorem dL_law_502 : decode cL_law 502 = .ok (.if_icmp .ne 27, 3) := by decide +kernel
theorem dL_law_505 : decode cL_law 505 = .ok (.aload_n 1, 1) := by decide +kernel
theorem dL_law_506 : decode cL_law 506 = .ok (.iload 19, 2) := by decide +kernel
theorem dL_law_508 : decode cL_law 508 = .ok (.iload 21, 2) := by decide +kernel
theorem dL_law_510 : decode cL_law 510 = .ok (.invokevirtual 63, 3) := by decide +kernel
theorem dL_law_513 : decode cL_law 513 = .ok (.sipush 1000, 3) := by decide +kernel
theorem dL_law_516 : decode cL_law 516 = .ok (.iload 22, 2) := by decide +kernel
theorem dL_law_518 : decode cL_law 518 = .ok (.imul, 1) := by decide +kernel
theorem dL_law_519 : decode cL_law 519 = .ok (.iload 23, 2) := by decide +kernel
theorem dL_law_521 : decode cL_law 521 = .ok (.iadd, 1) := by decide +kernel
theorem dL_law_522 : decode cL_law 522 = .ok (.if_icmp .ne 7, 3) := by decide +kernel
theorem dL_law_525 : decode cL_law 525 = .ok (.iconst 1, 1) := by decide +kernel
theorem dL_law_526 : decode cL_law 526 = .ok (.goto 4, 3) := by decide +kernel
theorem dL_law_529 : decode cL_law 529 = .ok (.iconst 0, 1) := by decide +kernel
theorem dL_law_530 : decode cL_law 530 = .ok (.istore 13, 2) := by decide +kernel
theorem dL_law_532 : decode cL_law 532 = .ok (.aload 4, 2) := by decide +kernel
theorem dL_law_534 : decode cL_law 534 = .ok (.iload 19, 2) := by decide +kernel
theorem dL_law_536 : decode cL_law 536 = .ok (.iload 24, 2) := by decide +kernel
theorem dL_law_538 : decode cL_law 538 = .ok (.ifCond .le 8, 3) := by decide +kernel
theorem dL_law_541 : decode cL_law 541 = .ok (.iload 24, 2) := by decide +kernel
theorem dL_law_543 : decode cL_law 543 = .ok (.goto 8, 3) := by decide +kernel
theorem dL_law_546 : decode cL_law 546 = .ok (.aload 4, 2) := by decide +kernel
theorem dL_law_548 : decode cL_law 548 = .ok (.iload 19, 2) := by decide +kernel
theorem dL_law_550 : decode cL_law 550 = .ok (.iaload, 1) := by decide +kernel
theorem dL_law_551 : decode cL_law 551 = .ok (.iastore, 1) := by decide +kernel
theorem dL_law_552 : decode cL_law 552 = .ok (.goto 1074, 3) := by decide +kernel
theorem dL_law_555 : decode cL_law 555 = .ok (.iload 18, 2) := by decide +kernel
theorem dL_law_557 : decode cL_law 557 = .ok (.bipush 6, 2) := by decide +kernel
theorem dL_law_559 : decode cL_law 559 = .ok (.if_icmp .ne 93, 3) := by decide +kernel
theorem dL_law_562 : decode cL_law 562 = .ok (.aload_n 1, 1) := by decide +kernel
theorem dL_law_563 : decode cL_law 563 = .ok (.iconst 0, 1) := by decide +kernel
theorem dL_law_564 : decode cL_law 564 = .ok (.iload 19, 2) := by decide +kernel
theorem dL_law_566 : decode cL_law 566 = .ok (.iload 17, 2) := by decide +kernel
theorem dL_law_568 : decode cL_law 568 = .ok (.iconst 3, 1) := by decide +kernel
theorem dL_law_569 : decode cL_law 569 = .ok (.ishr, 1) := by decide +kernel
theorem dL_law_570 : decode cL_law 570 = .ok (.sipush 150, 3) := by decide +kernel
theorem dL_law_573 : decode cL_law 573 = .ok (.irem, 1) := by decide +kernel
theorem dL_law_574 : decode cL_law 574 = .ok (.iconst 0, 1) := by decide +kernel
theorem dL_law_575 : decode cL_law 575 = .ok (.iconst 0, 1) := by decide +kernel
theorem dL_law_576 : decode cL_law 576 = .ok (.invokestatic 59, 3) := by decide +kernel
theorem dL_law_579 : decode cL_law 579 = .ok (.istore 21, 2) := by decide +kernel
theorem dL_law_581 : decode cL_law 581 = .ok (.iload 21, 2) := by decide +kernel
theorem dL_law_583 : decode cL_law 583 = .ok (.ldc 54, 2) := by decide +kernel
theorem dL_law_585 : decode cL_law 585 = .ok (.if_icmp .eq 37, 3) := by decide +kernel
theorem dL_law_588 : decode cL_law 588 = .ok (.iload 21, 2) := by decide +kernel
theorem dL_law_590 : decode cL_law 590 = .ok (.aload 4, 2) := by decide +kernel
theorem dL_law_592 : decode cL_law 592 = .ok (.iload 19, 2) := by decide +kernel
theorem dL_law_594 : decode cL_law 594 = .ok (.iaload, 1) := by decide +kernel
theorem dL_law_595 : decode cL_law 595 = .ok (.iconst 1, 1) := by decide +kernel
theorem dL_law_596 : decode cL_law 596 = .ok (.isub, 1) := by decide +kernel
theorem dL_law_597 : decode cL_law 597 = .ok (.if_icmp .ne 29, 3) := by decide +kernel
theorem dL_law_600 : decode cL_law 600 = .ok (.aload_n 1, 1) := by decide +kernel
theorem dL_law_601 : decode cL_law 601 = .ok (.iconst 0, 1) := by decide +kernel
theorem dL_law_602 : decode cL_law 602 = .ok (.iload 19, 2) := by decide +kernel
theorem dL_law_604 : decode cL_law 604 = .ok (.iload 17, 2) := by decide +kernel
theorem dL_law_606 : decode cL_law 606 = .ok (.iconst 3, 1) := by decide +kernel
theorem dL_law_607 : decode cL_law 607 = .ok (.ishr, 1) := by decide +kernel
theorem dL_law_608 : decode cL_law 608 = .ok (.sipush 150, 3) := by decide +kernel
theorem dL_law_611 : decode cL_law 611 = .ok (.irem, 1) := by decide +kernel
theorem dL_law_612 : decode cL_law 612 = .ok (.iconst 0, 1) := by decide +kernel
theorem dL_law_613 : decode cL_law 613 = .ok (.iconst 0, 1) := by decide +kernel
theorem dL_law_614 : decode cL_law 614 = .ok (.invokestatic 59, 3) := by decide +kernel
theorem dL_law_617 : decode cL_law 617 = .ok (.ldc 54, 2) := by decide +kernel
theorem dL_law_619 : decode cL_law 619 = .ok (.if_icmp .ne 7, 3) := by decide +kernel
theorem dL_law_622 : decode cL_law 622 = .ok (.iconst 1, 1) := by decide +kernel
theorem dL_law_623 : decode cL_law 623 = .ok (.goto 4, 3) := by decide +kernel
theorem dL_law_626 : decode cL_law 626 = .ok (.iconst 0, 1) := by decide +kernel
theorem dL_law_627 : decode cL_law 627 = .ok (.istore 13, 2) := by decide +kernel
theorem dL_law_629 : decode cL_law 629 = .ok (.aload 4, 2) := by decide +kernel
theorem dL_law_631 : decode cL_law 631 = .ok (.iload 19, 2) := by decide +kernel
theorem dL_law_633 : decode cL_law 633 = .ok (.iload 21, 2) := by decide +kernel
theorem dL_law_635 : decode cL_law 635 = .ok (.ifCond .lt 8, 3) := by decide +kernel
theorem dL_law_638 : decode cL_law 638 = .ok (.iload 21, 2) := by decide +kernel
theorem dL_law_640 : decode cL_law 640 = .ok (.goto 8, 3) := by decide +kernel
theorem dL_law_643 : decode cL_law 643 = .ok (.aload 4, 2) := by decide +kernel
theorem dL_law_645 : decode cL_law 645 = .ok (.iload 19, 2) := by decide +kernel
theorem dL_law_647 : decode cL_law 647 = .ok (.iaload, 1) := by decide +kernel
theorem dL_law_648 : decode cL_law 648 = .ok (.iastore, 1) := by decide +kernel
theorem dL_law_649 : decode cL_law 649 = .ok (.goto 977, 3) := by decide +kernel
theorem dL_law_652 : decode cL_law 652 = .ok (.iload 18, 2) := by decide +kernel
theorem dL_law_654 : decode cL_law 654 = .ok (.bipush 7, 2) := by decide +kernel
theorem dL_law_656 : decode cL_law 656 = .ok (.if_icmp .ne 72, 3) := by decide +kernel
theorem dL_law_659 : decode cL_law 659 = .ok (.iload 17, 2) := by decide +kernel
theorem dL_law_661 : decode cL_law 661 = .ok (.bipush 7, 2) := by decide +kernel
theorem dL_law_663 : decode cL_law 663 = .ok (.ishr, 1) := by decide +kernel
theorem dL_law_664 : decode cL_law 664 = .ok (.iconst 3, 1) := by decide +kernel
theorem dL_law_665 : decode cL_law 665 = .ok (.iand, 1) := by decide +kernel
theorem dL_law_666 : decode cL_law 666 = .ok (.ifCond .ne 7, 3) := by decide +kernel
theorem dL_law_669 : decode cL_law 669 = .ok (.iconst (-1), 1) := by decide +kernel
theorem dL_law_670 : decode cL_law 670 = .ok (.goto 11, 3) := by decide +kernel
theorem dL_law_673 : decode cL_law 673 = .ok (.iload 17, 2) := by decide +kernel
theorem dL_law_675 : decode cL_law 675 = .ok (.bipush 9, 2) := by decide +kernel
theorem dL_law_677 : decode cL_law 677 = .ok (.ishr, 1) := by decide +kernel
theorem dL_law_678 : decode cL_law 678 = .ok (.bipush 100, 2) := by decide +kernel
theorem dL_law_680 : decode cL_law 680 = .ok (.irem, 1) := by decide +kernel
theorem dL_law_681 : decode cL_law 681 = .ok (.istore 21, 2) := by decide +kernel
theorem dL_law_683 : decode cL_law 683 = .ok (.aload_n 1, 1) := by decide +kernel
theorem dL_law_684 : decode cL_law 684 = .ok (.iload 17, 2) := by decide +kernel
theorem dL_law_686 : decode cL_law 686 = .ok (.iconst 3, 1) := by decide +kernel
theorem dL_law_687 : decode cL_law 687 = .ok (.ishr, 1) := by decide +kernel
theorem dL_law_688 : decode cL_law 688 = .ok (.bipush 10, 2) := by decide +kernel
theorem dL_law_690 : decode cL_law 690 = .ok (.irem, 1) := by decide +kernel
theorem dL_law_691 : decode cL_law 691 = .ok (.iload 21, 2) := by decide +kernel
theorem dL_law_693 : decode cL_law 693 = .ok (.invokevirtual 93, 3) := by decide +kernel
theorem dL_law_696 : decode cL_law 696 = .ok (.iconst (-1), 1) := by decide +kernel
theorem dL_law_697 : decode cL_law 697 = .ok (.if_icmp .lt 25, 3) := by decide +kernel
theorem dL_law_700 : decode cL_law 700 = .ok (.aload_n 1, 1) := by decide +kernel
theorem dL_law_701 : decode cL_law 701 = .ok (.iload 17, 2) := by decide +kernel
theorem dL_law_703 : decode cL_law 703 = .ok (.iconst 3, 1) := by decide +kernel
theorem dL_law_704 : decode cL_law 704 = .ok (.ishr, 1) := by decide +kernel
theorem dL_law_705 : decode cL_law 705 = .ok (.bipush 10, 2) := by decide +kernel
theorem dL_law_707 : decode cL_law 707 = .ok (.irem, 1) := by decide +kernel
theorem dL_law_708 : decode cL_law 708 = .ok (.iload 21, 2) := by decide +kernel
theorem dL_law_710 : decode cL_law 710 = .ok (.invokevirtual 93, 3) := by decide +kernel
theorem dL_law_713 : decode cL_law 713 = .ok (.iload 21, 2) := by decide +kernel
theorem dL_law_715 : decode cL_law 715 = .ok (.if_icmp .ne 7, 3) := by decide +kernel
theorem dL_law_718 : decode cL_law 718 = .ok (.iconst 1, 1) := by decide +kernel
theorem dL_law_719 : decode cL_law 719 = .ok (.goto 4, 3) := by decide +kernel
theorem dL_law_722 : decode cL_law 722 = .ok (.iconst 0, 1) := by decide +kernel
theorem dL_law_723 : decode cL_law 723 = .ok (.istore 13, 2) := by decide +kernel
theorem dL_law_725 : decode cL_law 725 = .ok (.goto 901, 3) := by decide +kernel
theorem dL_law_728 : decode cL_law 728 = .ok (.iload 18, 2) := by decide +kernel
theorem dL_law_730 : decode cL_law 730 = .ok (.bipush 8, 2) := by decide +kernel
theorem dL_law_732 : decode cL_law 732 = .ok (.if_icmp .ne 60, 3) := by decide +kernel
theorem dL_law_735 : decode cL_law 735 = .ok (.iload 17, 2) := by decide +kernel
theorem dL_law_737 : decode cL_law 737 = .ok (.iconst 3, 1) := by decide +kernel
theorem dL_law_738 : decode cL_law 738 = .ok (.ishr, 1) := by decide +kernel
theorem dL_law_739 : decode cL_law 739 = .ok (.iconst 3, 1) := by decide +kernel
theorem dL_law_740 : decode cL_law 740 = .ok (.iand, 1) := by decide +kernel
theorem dL_law_741 : decode cL_law 741 = .ok (.ifCond .ne 7, 3) := by decide +kernel
theorem dL_law_744 : decode cL_law 744 = .ok (.iconst (-1), 1) := by decide +kernel
theorem dL_law_745 : decode cL_law 745 = .ok (.goto 10, 3) := by decide +kernel
theorem dL_law_748 : decode cL_law 748 = .ok (.iload 17, 2) := by decide +kernel
theorem dL_law_750 : decode cL_law 750 = .ok (.iconst 5, 1) := by decide +kernel
theorem dL_law_751 : decode cL_law 751 = .ok (.ishr, 1) := by decide +kernel
theorem dL_law_752 : decode cL_law 752 = .ok (.bipush 10, 2) := by decide +kernel
theorem dL_law_754 : decode cL_law 754 = .ok (.irem, 1) := by decide +kernel
theorem dL_law_755 : decode cL_law 755 = .ok (.istore 21, 2) := by decide +kernel
theorem dL_law_757 : decode cL_law 757 = .ok (.aload_n 1, 1) := by decide +kernel
theorem dL_law_758 : decode cL_law 758 = .ok (.iload 19, 2) := by decide +kernel
theorem dL_law_760 : decode cL_law 760 = .ok (.iload 21, 2) := by decide +kernel
theorem dL_law_762 : decode cL_law 762 = .ok (.invokevirtual 96, 3) := by decide +kernel
theorem dL_law_765 : decode cL_law 765 = .ok (.iconst (-1), 1) := by decide +kernel
theorem dL_law_766 : decode cL_law 766 = .ok (.if_icmp .lt 20, 3) := by decide +kernel
theorem dL_law_769 : decode cL_law 769 = .ok (.aload_n 1, 1) := by decide +kernel
theorem dL_law_770 : decode cL_law 770 = .ok (.iload 19, 2) := by decide +kernel
theorem dL_law_772 : decode cL_law 772 = .ok (.iload 21, 2) := by decide +kernel
theorem dL_law_774 : decode cL_law 774 = .ok (.invokevirtual 96, 3) := by decide +kernel
theorem dL_law_777 : decode cL_law 777 = .ok (.iload 21, 2) := by decide +kernel
theorem dL_law_779 : decode cL_law 779 = .ok (.if_icmp .ne 7, 3) := by decide +kernel
theorem dL_law_782 : decode cL_law 782 = .ok (.iconst 1, 1) := by decide +kernel
theorem dL_law_783 : decode cL_law 783 = .ok (.goto 4, 3) := by decide +kernel
theorem dL_law_786 : decode cL_law 786 = .ok (.iconst 0, 1) := by decide +kernel
theorem dL_law_787 : decode cL_law 787 = .ok (.istore 13, 2) := by decide +kernel
theorem dL_law_789 : decode cL_law 789 = .ok (.goto 837, 3) := by decide +kernel
theorem dL_law_792 : decode cL_law 792 = .ok (.iload 18, 2) := by decide +kernel
theorem dL_law_794 : decode cL_law 794 = .ok (.bipush 9, 2) := by decide +kernel
theorem dL_law_796 : decode cL_law 796 = .ok (.if_icmp .ne 76, 3) := by decide +kernel
theorem dL_law_799 : decode cL_law 799 = .ok (.iload 11, 2) := by decide +kernel
theorem dL_law_801 : decode cL_law 801 = .ok (.iconst 4, 1) := by decide +kernel
theorem dL_law_802 : decode cL_law 802 = .ok (.if_icmp .ge 70, 3) := by decide +kernel
theorem dL_law_805 : decode cL_law 805 = .ok (.aload 5, 2) := by decide +kernel
theorem dL_law_807 : decode cL_law 807 = .ok (.iload 11, 2) := by decide +kernel
theorem dL_law_809 : decode cL_law 809 = .ok (.iload 17, 2) := by decide +kernel
theorem dL_law_811 : decode cL_law 811 = .ok (.iconst 3, 1) := by decide +kernel
theorem dL_law_812 : decode cL_law 812 = .ok (.ishr, 1) := by decide +kernel
theorem dL_law_813 : decode cL_law 813 = .ok (.sipush 200, 3) := by decide +kernel
theorem dL_law_816 : decode cL_law 816 = .ok (.irem, 1) := by decide +kernel
theorem dL_law_817 : decode cL_law 817 = .ok (.iastore, 1) := by decide +kernel
theorem dL_law_818 : decode cL_law 818 = .ok (.aload 6, 2) := by decide +kernel
theorem dL_law_820 : decode cL_law 820 = .ok (.iload 11, 2) := by decide +kernel
theorem dL_law_822 : decode cL_law 822 = .ok (.iconst 1, 1) := by decide +kernel
theorem dL_law_823 : decode cL_law 823 = .ok (.iload 17, 2) := by decide +kernel
theorem dL_law_825 : decode cL_law 825 = .ok (.bipush 9, 2) := by decide +kernel
theorem dL_law_827 : decode cL_law 827 = .ok (.ishr, 1) := by decide +kernel
theorem dL_law_828 : decode cL_law 828 = .ok (.bipush 100, 2) := by decide +kernel
theorem dL_law_830 : decode cL_law 830 = .ok (.irem, 1) := by decide +kernel
theorem dL_law_831 : decode cL_law 831 = .ok (.iadd, 1) := by decide +kernel
theorem dL_law_832 : decode cL_law 832 = .ok (.iastore, 1) := by decide +kernel
theorem dL_law_833 : decode cL_law 833 = .ok (.aload 8, 2) := by decide +kernel
theorem dL_law_835 : decode cL_law 835 = .ok (.iload 11, 2) := by decide +kernel
theorem dL_law_837 : decode cL_law 837 = .ok (.bipush 50, 2) := by decide +kernel
theorem dL_law_839 : decode cL_law 839 = .ok (.iastore, 1) := by decide +kernel
theorem dL_law_840 : decode cL_law 840 = .ok (.aload_n 1, 1) := by decide +kernel
