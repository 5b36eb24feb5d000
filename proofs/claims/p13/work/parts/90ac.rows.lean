theorem d_law_536 : decode code 536 = .ok (.iadd, 1) := by decide +kernel
theorem d_law_537 : decode code 537 = .ok (.iaload, 1) := by decide +kernel
theorem d_law_538 : decode code 538 = .ok (.i2l, 1) := by decide +kernel
theorem d_law_539 : decode code 539 = .ok (.bipush 32, 2) := by decide +kernel
theorem d_law_541 : decode code 541 = .ok (.lshl, 1) := by decide +kernel
theorem d_law_542 : decode code 542 = .ok (.aload_n 0, 1) := by decide +kernel
theorem d_law_543 : decode code 543 = .ok (.iload 4, 2) := by decide +kernel
theorem d_law_545 : decode code 545 = .ok (.iconst 3, 1) := by decide +kernel
theorem d_law_546 : decode code 546 = .ok (.iadd, 1) := by decide +kernel
theorem d_law_547 : decode code 547 = .ok (.iaload, 1) := by decide +kernel
theorem d_law_548 : decode code 548 = .ok (.i2l, 1) := by decide +kernel
theorem d_law_549 : decode code 549 = .ok (.ldc2_w 98, 3) := by decide +kernel
theorem d_law_552 : decode code 552 = .ok (.land, 1) := by decide +kernel
theorem d_law_553 : decode code 553 = .ok (.lor, 1) := by decide +kernel
theorem d_law_554 : decode code 554 = .ok (.aload_n 0, 1) := by decide +kernel
theorem d_law_555 : decode code 555 = .ok (.iload 4, 2) := by decide +kernel
theorem d_law_557 : decode code 557 = .ok (.iconst 4, 1) := by decide +kernel
theorem d_law_558 : decode code 558 = .ok (.iadd, 1) := by decide +kernel
theorem d_law_559 : decode code 559 = .ok (.iaload, 1) := by decide +kernel
theorem d_law_560 : decode code 560 = .ok (.aload_n 0, 1) := by decide +kernel
theorem d_law_561 : decode code 561 = .ok (.iload 4, 2) := by decide +kernel
theorem d_law_563 : decode code 563 = .ok (.iconst 5, 1) := by decide +kernel
theorem d_law_564 : decode code 564 = .ok (.iadd, 1) := by decide +kernel
theorem d_law_565 : decode code 565 = .ok (.iaload, 1) := by decide +kernel
theorem d_law_566 : decode code 566 = .ok (.ifCond .eq 7, 3) := by decide +kernel
theorem d_law_569 : decode code 569 = .ok (.iconst 1, 1) := by decide +kernel
theorem d_law_570 : decode code 570 = .ok (.goto 4, 3) := by decide +kernel
theorem d_law_573 : decode code 573 = .ok (.iconst 0, 1) := by decide +kernel
theorem d_law_574 : decode code 574 = .ok (.aload_n 3, 1) := by decide +kernel
theorem d_law_575 : decode code 575 = .ok (.invokestatic 100, 3) := by decide +kernel
theorem d_law_578 : decode code 578 = .ok (.istore 5, 2) := by decide +kernel
theorem d_law_580 : decode code 580 = .ok (.aload_n 2, 1) := by decide +kernel
theorem d_law_581 : decode code 581 = .ok (.aload_n 0, 1) := by decide +kernel
theorem d_law_582 : decode code 582 = .ok (.iload 4, 2) := by decide +kernel
theorem d_law_584 : decode code 584 = .ok (.iconst 1, 1) := by decide +kernel
theorem d_law_585 : decode code 585 = .ok (.iadd, 1) := by decide +kernel
theorem d_law_586 : decode code 586 = .ok (.iaload, 1) := by decide +kernel
theorem d_law_587 : decode code 587 = .ok (.aload_n 0, 1) := by decide +kernel
theorem d_law_588 : decode code 588 = .ok (.iload 4, 2) := by decide +kernel
theorem d_law_590 : decode code 590 = .ok (.iconst 2, 1) := by decide +kernel
theorem d_law_591 : decode code 591 = .ok (.iadd, 1) := by decide +kernel
theorem d_law_592 : decode code 592 = .ok (.iaload, 1) := by decide +kernel
theorem d_law_593 : decode code 593 = .ok (.i2l, 1) := by decide +kernel
theorem d_law_594 : decode code 594 = .ok (.bipush 32, 2) := by decide +kernel
theorem d_law_596 : decode code 596 = .ok (.lshl, 1) := by decide +kernel
theorem d_law_597 : decode code 597 = .ok (.aload_n 0, 1) := by decide +kernel
theorem d_law_598 : decode code 598 = .ok (.iload 4, 2) := by decide +kernel
theorem d_law_600 : decode code 600 = .ok (.iconst 3, 1) := by decide +kernel
theorem d_law_601 : decode code 601 = .ok (.iadd, 1) := by decide +kernel
theorem d_law_602 : decode code 602 = .ok (.iaload, 1) := by decide +kernel
theorem d_law_603 : decode code 603 = .ok (.i2l, 1) := by decide +kernel
theorem d_law_604 : decode code 604 = .ok (.ldc2_w 98, 3) := by decide +kernel
theorem d_law_607 : decode code 607 = .ok (.land, 1) := by decide +kernel
theorem d_law_608 : decode code 608 = .ok (.lor, 1) := by decide +kernel
theorem d_law_609 : decode code 609 = .ok (.aload_n 0, 1) := by decide +kernel
theorem d_law_610 : decode code 610 = .ok (.iload 4, 2) := by decide +kernel
theorem d_law_612 : decode code 612 = .ok (.iconst 4, 1) := by decide +kernel
theorem d_law_613 : decode code 613 = .ok (.iadd, 1) := by decide +kernel
theorem d_law_614 : decode code 614 = .ok (.iaload, 1) := by decide +kernel
theorem d_law_615 : decode code 615 = .ok (.aload_n 0, 1) := by decide +kernel
theorem d_law_616 : decode code 616 = .ok (.iload 4, 2) := by decide +kernel
theorem d_law_618 : decode code 618 = .ok (.iconst 5, 1) := by decide +kernel
theorem d_law_619 : decode code 619 = .ok (.iadd, 1) := by decide +kernel
theorem d_law_620 : decode code 620 = .ok (.iaload, 1) := by decide +kernel
theorem d_law_621 : decode code 621 = .ok (.ifCond .eq 7, 3) := by decide +kernel
theorem d_law_624 : decode code 624 = .ok (.iconst 1, 1) := by decide +kernel
theorem d_law_625 : decode code 625 = .ok (.goto 4, 3) := by decide +kernel
theorem d_law_628 : decode code 628 = .ok (.iconst 0, 1) := by decide +kernel
theorem d_law_629 : decode code 629 = .ok (.invokevirtual 103, 3) := by decide +kernel
theorem d_law_632 : decode code 632 = .ok (.istore 6, 2) := by decide +kernel
theorem d_law_634 : decode code 634 = .ok (.goto 299, 3) := by decide +kernel
theorem d_law_637 : decode code 637 = .ok (.aload_n 1, 1) := by decide +kernel
theorem d_law_638 : decode code 638 = .ok (.aload_n 0, 1) := by decide +kernel
theorem d_law_639 : decode code 639 = .ok (.iload 4, 2) := by decide +kernel
theorem d_law_641 : decode code 641 = .ok (.iconst 1, 1) := by decide +kernel
theorem d_law_642 : decode code 642 = .ok (.iadd, 1) := by decide +kernel
theorem d_law_643 : decode code 643 = .ok (.iaload, 1) := by decide +kernel
theorem d_law_644 : decode code 644 = .ok (.aload_n 3, 1) := by decide +kernel
theorem d_law_645 : decode code 645 = .ok (.invokestatic 104, 3) := by decide +kernel
theorem d_law_648 : decode code 648 = .ok (.istore 5, 2) := by decide +kernel
theorem d_law_650 : decode code 650 = .ok (.aload_n 2, 1) := by decide +kernel
theorem d_law_651 : decode code 651 = .ok (.aload_n 0, 1) := by decide +kernel
theorem d_law_652 : decode code 652 = .ok (.iload 4, 2) := by decide +kernel
theorem d_law_654 : decode code 654 = .ok (.iconst 1, 1) := by decide +kernel
theorem d_law_655 : decode code 655 = .ok (.iadd, 1) := by decide +kernel
theorem d_law_656 : decode code 656 = .ok (.iaload, 1) := by decide +kernel
theorem d_law_657 : decode code 657 = .ok (.invokevirtual 106, 3) := by decide +kernel
theorem d_law_660 : decode code 660 = .ok (.istore 6, 2) := by decide +kernel
theorem d_law_662 : decode code 662 = .ok (.goto 271, 3) := by decide +kernel
theorem d_law_665 : decode code 665 = .ok (.aload_n 1, 1) := by decide +kernel
theorem d_law_666 : decode code 666 = .ok (.aload_n 0, 1) := by decide +kernel
theorem d_law_667 : decode code 667 = .ok (.iload 4, 2) := by decide +kernel
theorem d_law_669 : decode code 669 = .ok (.iconst 1, 1) := by decide +kernel
theorem d_law_670 : decode code 670 = .ok (.iadd, 1) := by decide +kernel
theorem d_law_671 : decode code 671 = .ok (.iaload, 1) := by decide +kernel
theorem d_law_672 : decode code 672 = .ok (.aload_n 3, 1) := by decide +kernel
theorem d_law_673 : decode code 673 = .ok (.invokestatic 107, 3) := by decide +kernel
theorem d_law_676 : decode code 676 = .ok (.istore 5, 2) := by decide +kernel
theorem d_law_678 : decode code 678 = .ok (.aload_n 2, 1) := by decide +kernel
theorem d_law_679 : decode code 679 = .ok (.aload_n 0, 1) := by decide +kernel
theorem d_law_680 : decode code 680 = .ok (.iload 4, 2) := by decide +kernel
theorem d_law_682 : decode code 682 = .ok (.iconst 1, 1) := by decide +kernel
theorem d_law_683 : decode code 683 = .ok (.iadd, 1) := by decide +kernel
theorem d_law_684 : decode code 684 = .ok (.iaload, 1) := by decide +kernel
theorem d_law_685 : decode code 685 = .ok (.invokevirtual 109, 3) := by decide +kernel
theorem d_law_688 : decode code 688 = .ok (.istore 6, 2) := by decide +kernel
theorem d_law_690 : decode code 690 = .ok (.aload_n 2, 1) := by decide +kernel
theorem d_law_691 : decode code 691 = .ok (.invokevirtual 110, 3) := by decide +kernel
theorem d_law_694 : decode code 694 = .ok (.iload 5, 2) := by decide +kernel
theorem d_law_696 : decode code 696 = .ok (.if_icmp .eq 5, 3) := by decide +kernel
theorem d_law_701 : decode code 701 = .ok (.iload 5, 2) := by decide +kernel
theorem d_law_703 : decode code 703 = .ok (.ifCond .ne 15, 3) := by decide +kernel
theorem d_law_706 : decode code 706 = .ok (.aload_n 3, 1) := by decide +kernel
theorem d_law_707 : decode code 707 = .ok (.iconst 0, 1) := by decide +kernel
theorem d_law_708 : decode code 708 = .ok (.laload, 1) := by decide +kernel
theorem d_law_709 : decode code 709 = .ok (.iload 6, 2) := by decide +kernel
theorem d_law_711 : decode code 711 = .ok (.i2l, 1) := by decide +kernel
theorem d_law_712 : decode code 712 = .ok (.lcmp, 1) := by decide +kernel
theorem d_law_713 : decode code 713 = .ok (.ifCond .eq 5, 3) := by decide +kernel
theorem d_law_718 : decode code 718 = .ok (.goto 215, 3) := by decide +kernel
theorem d_law_721 : decode code 721 = .ok (.aload_n 1, 1) := by decide +kernel
theorem d_law_722 : decode code 722 = .ok (.aload_n 0, 1) := by decide +kernel
theorem d_law_723 : decode code 723 = .ok (.iload 4, 2) := by decide +kernel
theorem d_law_725 : decode code 725 = .ok (.iconst 1, 1) := by decide +kernel
theorem d_law_726 : decode code 726 = .ok (.iadd, 1) := by decide +kernel
theorem d_law_727 : decode code 727 = .ok (.iaload, 1) := by decide +kernel
theorem d_law_728 : decode code 728 = .ok (.aload_n 0, 1) := by decide +kernel
theorem d_law_729 : decode code 729 = .ok (.iload 4, 2) := by decide +kernel
theorem d_law_731 : decode code 731 = .ok (.iconst 2, 1) := by decide +kernel
theorem d_law_732 : decode code 732 = .ok (.iadd, 1) := by decide +kernel
theorem d_law_733 : decode code 733 = .ok (.iaload, 1) := by decide +kernel
theorem d_law_734 : decode code 734 = .ok (.i2l, 1) := by decide +kernel
theorem d_law_735 : decode code 735 = .ok (.bipush 32, 2) := by decide +kernel
theorem d_law_737 : decode code 737 = .ok (.lshl, 1) := by decide +kernel
theorem d_law_738 : decode code 738 = .ok (.aload_n 0, 1) := by decide +kernel
theorem d_law_739 : decode code 739 = .ok (.iload 4, 2) := by decide +kernel
theorem d_law_741 : decode code 741 = .ok (.iconst 3, 1) := by decide +kernel
theorem d_law_742 : decode code 742 = .ok (.iadd, 1) := by decide +kernel
theorem d_law_743 : decode code 743 = .ok (.iaload, 1) := by decide +kernel
theorem d_law_744 : decode code 744 = .ok (.i2l, 1) := by decide +kernel
theorem d_law_745 : decode code 745 = .ok (.ldc2_w 98, 3) := by decide +kernel
theorem d_law_748 : decode code 748 = .ok (.land, 1) := by decide +kernel
theorem d_law_749 : decode code 749 = .ok (.lor, 1) := by decide +kernel
theorem d_law_750 : decode code 750 = .ok (.aload_n 0, 1) := by decide +kernel
theorem d_law_751 : decode code 751 = .ok (.iload 4, 2) := by decide +kernel
theorem d_law_753 : decode code 753 = .ok (.iconst 4, 1) := by decide +kernel
theorem d_law_754 : decode code 754 = .ok (.iadd, 1) := by decide +kernel
theorem d_law_755 : decode code 755 = .ok (.iaload, 1) := by decide +kernel
theorem d_law_756 : decode code 756 = .ok (.i2l, 1) := by decide +kernel
theorem d_law_757 : decode code 757 = .ok (.bipush 32, 2) := by decide +kernel
theorem d_law_759 : decode code 759 = .ok (.lshl, 1) := by decide +kernel
theorem d_law_760 : decode code 760 = .ok (.aload_n 0, 1) := by decide +kernel
theorem d_law_761 : decode code 761 = .ok (.iload 4, 2) := by decide +kernel
theorem d_law_763 : decode code 763 = .ok (.iconst 5, 1) := by decide +kernel
theorem d_law_764 : decode code 764 = .ok (.iadd, 1) := by decide +kernel
theorem d_law_765 : decode code 765 = .ok (.iaload, 1) := by decide +kernel
