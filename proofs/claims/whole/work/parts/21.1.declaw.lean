theorem dW_law_479 : decode code 479 = .ok (.ifCond .ne 15, 3) := by decide +kernel
theorem dW_law_482 : decode code 482 = .ok (.aload_n 3, 1) := by decide +kernel
theorem dW_law_483 : decode code 483 = .ok (.iconst 0, 1) := by decide +kernel
theorem dW_law_484 : decode code 484 = .ok (.laload, 1) := by decide +kernel
theorem dW_law_485 : decode code 485 = .ok (.iload 6, 2) := by decide +kernel
theorem dW_law_487 : decode code 487 = .ok (.i2l, 1) := by decide +kernel
theorem dW_law_488 : decode code 488 = .ok (.lcmp, 1) := by decide +kernel
theorem dW_law_489 : decode code 489 = .ok (.ifCond .eq 5, 3) := by decide +kernel
theorem dW_law_492 : decode code 492 = .ok (.iconst 0, 1) := by decide +kernel
theorem dW_law_493 : decode code 493 = .ok (.ireturn, 1) := by decide +kernel
theorem dW_law_494 : decode code 494 = .ok (.goto 757, 3) := by decide +kernel
theorem dW_law_497 : decode code 497 = .ok (.aload_n 1, 1) := by decide +kernel
theorem dW_law_498 : decode code 498 = .ok (.aload_n 0, 1) := by decide +kernel
theorem dW_law_499 : decode code 499 = .ok (.iload 4, 2) := by decide +kernel
theorem dW_law_501 : decode code 501 = .ok (.iconst 1, 1) := by decide +kernel
theorem dW_law_502 : decode code 502 = .ok (.iadd, 1) := by decide +kernel
theorem dW_law_503 : decode code 503 = .ok (.iaload, 1) := by decide +kernel
theorem dW_law_504 : decode code 504 = .ok (.aload_n 3, 1) := by decide +kernel
theorem dW_law_505 : decode code 505 = .ok (.invokestatic 106, 3) := by decide +kernel
theorem dW_law_508 : decode code 508 = .ok (.istore 5, 2) := by decide +kernel
theorem dW_law_510 : decode code 510 = .ok (.aload_n 2, 1) := by decide +kernel
theorem dW_law_511 : decode code 511 = .ok (.aload_n 0, 1) := by decide +kernel
theorem dW_law_512 : decode code 512 = .ok (.iload 4, 2) := by decide +kernel
theorem dW_law_514 : decode code 514 = .ok (.iconst 1, 1) := by decide +kernel
theorem dW_law_515 : decode code 515 = .ok (.iadd, 1) := by decide +kernel
theorem dW_law_516 : decode code 516 = .ok (.iaload, 1) := by decide +kernel
theorem dW_law_517 : decode code 517 = .ok (.invokevirtual 108, 3) := by decide +kernel
theorem dW_law_520 : decode code 520 = .ok (.istore 6, 2) := by decide +kernel
theorem dW_law_522 : decode code 522 = .ok (.aload_n 2, 1) := by decide +kernel
theorem dW_law_523 : decode code 523 = .ok (.invokevirtual 82, 3) := by decide +kernel
theorem dW_law_526 : decode code 526 = .ok (.iload 5, 2) := by decide +kernel
theorem dW_law_528 : decode code 528 = .ok (.if_icmp .eq 5, 3) := by decide +kernel
theorem dW_law_531 : decode code 531 = .ok (.iconst 0, 1) := by decide +kernel
theorem dW_law_532 : decode code 532 = .ok (.ireturn, 1) := by decide +kernel
theorem dW_law_533 : decode code 533 = .ok (.iload 5, 2) := by decide +kernel
theorem dW_law_535 : decode code 535 = .ok (.ifCond .ne 15, 3) := by decide +kernel
theorem dW_law_538 : decode code 538 = .ok (.aload_n 3, 1) := by decide +kernel
theorem dW_law_539 : decode code 539 = .ok (.iconst 0, 1) := by decide +kernel
theorem dW_law_540 : decode code 540 = .ok (.laload, 1) := by decide +kernel
theorem dW_law_541 : decode code 541 = .ok (.iload 6, 2) := by decide +kernel
theorem dW_law_543 : decode code 543 = .ok (.i2l, 1) := by decide +kernel
theorem dW_law_544 : decode code 544 = .ok (.lcmp, 1) := by decide +kernel
theorem dW_law_545 : decode code 545 = .ok (.ifCond .eq 5, 3) := by decide +kernel
theorem dW_law_548 : decode code 548 = .ok (.iconst 0, 1) := by decide +kernel
theorem dW_law_549 : decode code 549 = .ok (.ireturn, 1) := by decide +kernel
theorem dW_law_550 : decode code 550 = .ok (.goto 701, 3) := by decide +kernel
theorem dW_law_553 : decode code 553 = .ok (.aload_n 1, 1) := by decide +kernel
theorem dW_law_554 : decode code 554 = .ok (.aload_n 0, 1) := by decide +kernel
theorem dW_law_555 : decode code 555 = .ok (.iload 4, 2) := by decide +kernel
theorem dW_law_557 : decode code 557 = .ok (.iconst 1, 1) := by decide +kernel
theorem dW_law_558 : decode code 558 = .ok (.iadd, 1) := by decide +kernel
theorem dW_law_559 : decode code 559 = .ok (.iaload, 1) := by decide +kernel
theorem dW_law_560 : decode code 560 = .ok (.aload_n 0, 1) := by decide +kernel
theorem dW_law_561 : decode code 561 = .ok (.iload 4, 2) := by decide +kernel
theorem dW_law_563 : decode code 563 = .ok (.iconst 2, 1) := by decide +kernel
theorem dW_law_564 : decode code 564 = .ok (.iadd, 1) := by decide +kernel
theorem dW_law_565 : decode code 565 = .ok (.iaload, 1) := by decide +kernel
theorem dW_law_566 : decode code 566 = .ok (.aload_n 0, 1) := by decide +kernel
theorem dW_law_567 : decode code 567 = .ok (.iload 4, 2) := by decide +kernel
theorem dW_law_569 : decode code 569 = .ok (.iconst 3, 1) := by decide +kernel
theorem dW_law_570 : decode code 570 = .ok (.iadd, 1) := by decide +kernel
theorem dW_law_571 : decode code 571 = .ok (.iaload, 1) := by decide +kernel
theorem dW_law_572 : decode code 572 = .ok (.aload_n 3, 1) := by decide +kernel
theorem dW_law_573 : decode code 573 = .ok (.invokestatic 109, 3) := by decide +kernel
theorem dW_law_576 : decode code 576 = .ok (.istore 5, 2) := by decide +kernel
theorem dW_law_578 : decode code 578 = .ok (.aload_n 2, 1) := by decide +kernel
theorem dW_law_579 : decode code 579 = .ok (.aload_n 0, 1) := by decide +kernel
theorem dW_law_580 : decode code 580 = .ok (.iload 4, 2) := by decide +kernel
theorem dW_law_582 : decode code 582 = .ok (.iconst 1, 1) := by decide +kernel
theorem dW_law_583 : decode code 583 = .ok (.iadd, 1) := by decide +kernel
theorem dW_law_584 : decode code 584 = .ok (.iaload, 1) := by decide +kernel
theorem dW_law_585 : decode code 585 = .ok (.aload_n 0, 1) := by decide +kernel
theorem dW_law_586 : decode code 586 = .ok (.iload 4, 2) := by decide +kernel
theorem dW_law_588 : decode code 588 = .ok (.iconst 2, 1) := by decide +kernel
theorem dW_law_589 : decode code 589 = .ok (.iadd, 1) := by decide +kernel
theorem dW_law_590 : decode code 590 = .ok (.iaload, 1) := by decide +kernel
theorem dW_law_591 : decode code 591 = .ok (.aload_n 0, 1) := by decide +kernel
theorem dW_law_592 : decode code 592 = .ok (.iload 4, 2) := by decide +kernel
theorem dW_law_594 : decode code 594 = .ok (.iconst 3, 1) := by decide +kernel
theorem dW_law_595 : decode code 595 = .ok (.iadd, 1) := by decide +kernel
theorem dW_law_596 : decode code 596 = .ok (.iaload, 1) := by decide +kernel
theorem dW_law_597 : decode code 597 = .ok (.invokevirtual 112, 3) := by decide +kernel
theorem dW_law_600 : decode code 600 = .ok (.istore 6, 2) := by decide +kernel
theorem dW_law_602 : decode code 602 = .ok (.aload_n 2, 1) := by decide +kernel
theorem dW_law_603 : decode code 603 = .ok (.invokevirtual 82, 3) := by decide +kernel
theorem dW_law_606 : decode code 606 = .ok (.iload 5, 2) := by decide +kernel
theorem dW_law_608 : decode code 608 = .ok (.if_icmp .eq 5, 3) := by decide +kernel
theorem dW_law_611 : decode code 611 = .ok (.iconst 0, 1) := by decide +kernel
theorem dW_law_612 : decode code 612 = .ok (.ireturn, 1) := by decide +kernel
theorem dW_law_613 : decode code 613 = .ok (.iload 5, 2) := by decide +kernel
theorem dW_law_615 : decode code 615 = .ok (.ifCond .ne 15, 3) := by decide +kernel
theorem dW_law_618 : decode code 618 = .ok (.aload_n 3, 1) := by decide +kernel
theorem dW_law_619 : decode code 619 = .ok (.iconst 0, 1) := by decide +kernel
theorem dW_law_620 : decode code 620 = .ok (.laload, 1) := by decide +kernel
theorem dW_law_621 : decode code 621 = .ok (.iload 6, 2) := by decide +kernel
theorem dW_law_623 : decode code 623 = .ok (.i2l, 1) := by decide +kernel
theorem dW_law_624 : decode code 624 = .ok (.lcmp, 1) := by decide +kernel
theorem dW_law_625 : decode code 625 = .ok (.ifCond .eq 5, 3) := by decide +kernel
theorem dW_law_628 : decode code 628 = .ok (.iconst 0, 1) := by decide +kernel
theorem dW_law_629 : decode code 629 = .ok (.ireturn, 1) := by decide +kernel
theorem dW_law_630 : decode code 630 = .ok (.goto 621, 3) := by decide +kernel
theorem dW_law_633 : decode code 633 = .ok (.aload_n 1, 1) := by decide +kernel
theorem dW_law_634 : decode code 634 = .ok (.aload_n 0, 1) := by decide +kernel
theorem dW_law_635 : decode code 635 = .ok (.iload 4, 2) := by decide +kernel
theorem dW_law_637 : decode code 637 = .ok (.iconst 1, 1) := by decide +kernel
theorem dW_law_638 : decode code 638 = .ok (.iadd, 1) := by decide +kernel
theorem dW_law_639 : decode code 639 = .ok (.iaload, 1) := by decide +kernel
theorem dW_law_640 : decode code 640 = .ok (.aload_n 3, 1) := by decide +kernel
theorem dW_law_641 : decode code 641 = .ok (.invokestatic 113, 3) := by decide +kernel
theorem dW_law_644 : decode code 644 = .ok (.istore 5, 2) := by decide +kernel
theorem dW_law_646 : decode code 646 = .ok (.aload_n 2, 1) := by decide +kernel
theorem dW_law_647 : decode code 647 = .ok (.aload_n 0, 1) := by decide +kernel
theorem dW_law_648 : decode code 648 = .ok (.iload 4, 2) := by decide +kernel
theorem dW_law_650 : decode code 650 = .ok (.iconst 1, 1) := by decide +kernel
theorem dW_law_651 : decode code 651 = .ok (.iadd, 1) := by decide +kernel
theorem dW_law_652 : decode code 652 = .ok (.iaload, 1) := by decide +kernel
theorem dW_law_653 : decode code 653 = .ok (.invokevirtual 115, 3) := by decide +kernel
theorem dW_law_656 : decode code 656 = .ok (.istore 6, 2) := by decide +kernel
theorem dW_law_658 : decode code 658 = .ok (.aload_n 2, 1) := by decide +kernel
theorem dW_law_659 : decode code 659 = .ok (.invokevirtual 82, 3) := by decide +kernel
theorem dW_law_662 : decode code 662 = .ok (.iload 5, 2) := by decide +kernel
theorem dW_law_664 : decode code 664 = .ok (.if_icmp .eq 5, 3) := by decide +kernel
theorem dW_law_667 : decode code 667 = .ok (.iconst 0, 1) := by decide +kernel
theorem dW_law_668 : decode code 668 = .ok (.ireturn, 1) := by decide +kernel
theorem dW_law_669 : decode code 669 = .ok (.iload 5, 2) := by decide +kernel
theorem dW_law_671 : decode code 671 = .ok (.ifCond .ne 15, 3) := by decide +kernel
theorem dW_law_674 : decode code 674 = .ok (.aload_n 3, 1) := by decide +kernel
theorem dW_law_675 : decode code 675 = .ok (.iconst 0, 1) := by decide +kernel
theorem dW_law_676 : decode code 676 = .ok (.laload, 1) := by decide +kernel
theorem dW_law_677 : decode code 677 = .ok (.iload 6, 2) := by decide +kernel
theorem dW_law_679 : decode code 679 = .ok (.i2l, 1) := by decide +kernel
theorem dW_law_680 : decode code 680 = .ok (.lcmp, 1) := by decide +kernel
theorem dW_law_681 : decode code 681 = .ok (.ifCond .eq 5, 3) := by decide +kernel
theorem dW_law_684 : decode code 684 = .ok (.iconst 0, 1) := by decide +kernel
theorem dW_law_685 : decode code 685 = .ok (.ireturn, 1) := by decide +kernel
theorem dW_law_686 : decode code 686 = .ok (.goto 565, 3) := by decide +kernel
theorem dW_law_689 : decode code 689 = .ok (.aload_n 1, 1) := by decide +kernel
theorem dW_law_690 : decode code 690 = .ok (.aload_n 0, 1) := by decide +kernel
theorem dW_law_691 : decode code 691 = .ok (.iload 4, 2) := by decide +kernel
theorem dW_law_693 : decode code 693 = .ok (.iconst 1, 1) := by decide +kernel
theorem dW_law_694 : decode code 694 = .ok (.iadd, 1) := by decide +kernel
theorem dW_law_695 : decode code 695 = .ok (.iaload, 1) := by decide +kernel
theorem dW_law_696 : decode code 696 = .ok (.aload_n 0, 1) := by decide +kernel
theorem dW_law_697 : decode code 697 = .ok (.iload 4, 2) := by decide +kernel
theorem dW_law_699 : decode code 699 = .ok (.iconst 2, 1) := by decide +kernel
theorem dW_law_700 : decode code 700 = .ok (.iadd, 1) := by decide +kernel
theorem dW_law_701 : decode code 701 = .ok (.iaload, 1) := by decide +kernel
theorem dW_law_702 : decode code 702 = .ok (.aload_n 3, 1) := by decide +kernel
theorem dW_law_703 : decode code 703 = .ok (.invokestatic 116, 3) := by decide +kernel
theorem dW_law_706 : decode code 706 = .ok (.istore 5, 2) := by decide +kernel
theorem dW_law_708 : decode code 708 = .ok (.aload_n 2, 1) := by decide +kernel
theorem dW_law_709 : decode code 709 = .ok (.aload_n 0, 1) := by decide +kernel
theorem dW_law_710 : decode code 710 = .ok (.iload 4, 2) := by decide +kernel
theorem dW_law_712 : decode code 712 = .ok (.iconst 1, 1) := by decide +kernel
theorem dW_law_713 : decode code 713 = .ok (.iadd, 1) := by decide +kernel
theorem dW_law_714 : decode code 714 = .ok (.iaload, 1) := by decide +kernel
theorem dW_law_715 : decode code 715 = .ok (.aload_n 0, 1) := by decide +kernel
theorem dW_law_716 : decode code 716 = .ok (.iload 4, 2) := by decide +kernel
theorem dW_law_718 : decode code 718 = .ok (.iconst 2, 1) := by decide +kernel
theorem dW_law_719 : decode code 719 = .ok (.iadd, 1) := by decide +kernel
theorem dW_law_720 : decode code 720 = .ok (.iaload, 1) := by decide +kernel
theorem dW_law_721 : decode code 721 = .ok (.invokevirtual 118, 3) := by decide +kernel
theorem dW_law_724 : decode code 724 = .ok (.istore 6, 2) := by decide +kernel
theorem dW_law_726 : decode code 726 = .ok (.aload_n 2, 1) := by decide +kernel
theorem dW_law_727 : decode code 727 = .ok (.invokevirtual 82, 3) := by decide +kernel
theorem dW_law_730 : decode code 730 = .ok (.iload 5, 2) := by decide +kernel
theorem dW_law_732 : decode code 732 = .ok (.if_icmp .eq 5, 3) := by decide +kernel
theorem dW_law_735 : decode code 735 = .ok (.iconst 0, 1) := by decide +kernel
theorem dW_law_736 : decode code 736 = .ok (.ireturn, 1) := by decide +kernel
theorem dW_law_737 : decode code 737 = .ok (.iload 5, 2) := by decide +kernel
theorem dW_law_739 : decode code 739 = .ok (.ifCond .ne 15, 3) := by decide +kernel
theorem dW_law_742 : decode code 742 = .ok (.aload_n 3, 1) := by decide +kernel
theorem dW_law_743 : decode code 743 = .ok (.iconst 0, 1) := by decide +kernel
theorem dW_law_744 : decode code 744 = .ok (.laload, 1) := by decide +kernel
theorem dW_law_745 : decode code 745 = .ok (.iload 6, 2) := by decide +kernel
theorem dW_law_747 : decode code 747 = .ok (.i2l, 1) := by decide +kernel
theorem dW_law_748 : decode code 748 = .ok (.lcmp, 1) := by decide +kernel
theorem dW_law_749 : decode code 749 = .ok (.ifCond .eq 5, 3) := by decide +kernel
theorem dW_law_752 : decode code 752 = .ok (.iconst 0, 1) := by decide +kernel
theorem dW_law_753 : decode code 753 = .ok (.ireturn, 1) := by decide +kernel
theorem dW_law_754 : decode code 754 = .ok (.goto 497, 3) := by decide +kernel
theorem dW_law_757 : decode code 757 = .ok (.aload_n 1, 1) := by decide +kernel
theorem dW_law_758 : decode code 758 = .ok (.aload_n 0, 1) := by decide +kernel
theorem dW_law_759 : decode code 759 = .ok (.iload 4, 2) := by decide +kernel
theorem dW_law_761 : decode code 761 = .ok (.iconst 1, 1) := by decide +kernel
theorem dW_law_762 : decode code 762 = .ok (.iadd, 1) := by decide +kernel
theorem dW_law_763 : decode code 763 = .ok (.iaload, 1) := by decide +kernel
theorem dW_law_764 : decode code 764 = .ok (.aload_n 0, 1) := by decide +kernel
theorem dW_law_765 : decode code 765 = .ok (.iload 4, 2) := by decide +kernel
theorem dW_law_767 : decode code 767 = .ok (.iconst 2, 1) := by decide +kernel
theorem dW_law_768 : decode code 768 = .ok (.iadd, 1) := by decide +kernel
theorem dW_law_769 : decode code 769 = .ok (.iaload, 1) := by decide +kernel
theorem dW_law_770 : decode code 770 = .ok (.aload_n 0, 1) := by decide +kernel
theorem dW_law_771 : decode code 771 = .ok (.iload 4, 2) := by decide +kernel
theorem dW_law_773 : decode code 773 = .ok (.iconst 3, 1) := by decide +kernel
theorem dW_law_774 : decode code 774 = .ok (.iadd, 1) := by decide +kernel
theorem dW_law_775 : decode code 775 = .ok (.iaload, 1) := by decide +kernel
theorem dW_law_776 : decode code 776 = .ok (.ifCond .eq 7, 3) := by decide +kernel
theorem dW_law_779 : decode code 779 = .ok (.iconst 1, 1) := by decide +kernel
theorem dW_law_780 : decode code 780 = .ok (.goto 4, 3) := by decide +kernel
theorem dW_law_783 : decode code 783 = .ok (.iconst 0, 1) := by decide +kernel
theorem dW_law_784 : decode code 784 = .ok (.aload_n 3, 1) := by decide +kernel
theorem dW_law_785 : decode code 785 = .ok (.invokestatic 119, 3) := by decide +kernel
theorem dW_law_788 : decode code 788 = .ok (.istore 5, 2) := by decide +kernel
theorem dW_law_790 : decode code 790 = .ok (.aload_n 2, 1) := by decide +kernel
theorem dW_law_791 : decode code 791 = .ok (.aload_n 0, 1) := by decide +kernel
theorem dW_law_792 : decode code 792 = .ok (.iload 4, 2) := by decide +kernel
theorem dW_law_794 : decode code 794 = .ok (.iconst 1, 1) := by decide +kernel
theorem dW_law_795 : decode code 795 = .ok (.iadd, 1) := by decide +kernel
theorem dW_law_796 : decode code 796 = .ok (.iaload, 1) := by decide +kernel
theorem dW_law_797 : decode code 797 = .ok (.aload_n 0, 1) := by decide +kernel
theorem dW_law_798 : decode code 798 = .ok (.iload 4, 2) := by decide +kernel
theorem dW_law_800 : decode code 800 = .ok (.iconst 2, 1) := by decide +kernel
theorem dW_law_801 : decode code 801 = .ok (.iadd, 1) := by decide +kernel
theorem dW_law_802 : decode code 802 = .ok (.iaload, 1) := by decide +kernel
theorem dW_law_803 : decode code 803 = .ok (.aload_n 0, 1) := by decide +kernel
theorem dW_law_804 : decode code 804 = .ok (.iload 4, 2) := by decide +kernel
theorem dW_law_806 : decode code 806 = .ok (.iconst 3, 1) := by decide +kernel
theorem dW_law_807 : decode code 807 = .ok (.iadd, 1) := by decide +kernel
theorem dW_law_808 : decode code 808 = .ok (.iaload, 1) := by decide +kernel
theorem dW_law_809 : decode code 809 = .ok (.ifCond .eq 7, 3) := by decide +kernel
theorem dW_law_812 : decode code 812 = .ok (.iconst 1, 1) := by decide +kernel
theorem dW_law_813 : decode code 813 = .ok (.goto 4, 3) := by decide +kernel
theorem dW_law_816 : decode code 816 = .ok (.iconst 0, 1) := by decide +kernel
theorem dW_law_817 : decode code 817 = .ok (.invokevirtual 122, 3) := by decide +kernel
theorem dW_law_820 : decode code 820 = .ok (.istore 6, 2) := by decide +kernel
theorem dW_law_822 : decode code 822 = .ok (.aload_n 2, 1) := by decide +kernel
theorem dW_law_823 : decode code 823 = .ok (.invokevirtual 82, 3) := by decide +kernel
theorem dW_law_826 : decode code 826 = .ok (.iload 5, 2) := by decide +kernel
theorem dW_law_828 : decode code 828 = .ok (.if_icmp .eq 5, 3) := by decide +kernel
theorem dW_law_831 : decode code 831 = .ok (.iconst 0, 1) := by decide +kernel
theorem dW_law_832 : decode code 832 = .ok (.ireturn, 1) := by decide +kernel
theorem dW_law_833 : decode code 833 = .ok (.iload 5, 2) := by decide +kernel
theorem dW_law_835 : decode code 835 = .ok (.ifCond .ne 22, 3) := by decide +kernel
theorem dW_law_838 : decode code 838 = .ok (.aload_n 3, 1) := by decide +kernel
theorem dW_law_839 : decode code 839 = .ok (.iconst 0, 1) := by decide +kernel
theorem dW_law_840 : decode code 840 = .ok (.laload, 1) := by decide +kernel
theorem dW_law_841 : decode code 841 = .ok (.iload 6, 2) := by decide +kernel
theorem dW_law_843 : decode code 843 = .ok (.ifCond .eq 7, 3) := by decide +kernel
theorem dW_law_846 : decode code 846 = .ok (.lconst 1, 1) := by decide +kernel
theorem dW_law_847 : decode code 847 = .ok (.goto 4, 3) := by decide +kernel
theorem dW_law_850 : decode code 850 = .ok (.lconst 0, 1) := by decide +kernel
theorem dW_law_851 : decode code 851 = .ok (.lcmp, 1) := by decide +kernel
theorem dW_law_852 : decode code 852 = .ok (.ifCond .eq 5, 3) := by decide +kernel
theorem dW_law_855 : decode code 855 = .ok (.iconst 0, 1) := by decide +kernel
theorem dW_law_856 : decode code 856 = .ok (.ireturn, 1) := by decide +kernel
theorem dW_law_857 : decode code 857 = .ok (.goto 394, 3) := by decide +kernel
theorem dW_law_860 : decode code 860 = .ok (.aload_n 1, 1) := by decide +kernel
theorem dW_law_861 : decode code 861 = .ok (.aload_n 0, 1) := by decide +kernel
theorem dW_law_862 : decode code 862 = .ok (.iload 4, 2) := by decide +kernel
theorem dW_law_864 : decode code 864 = .ok (.iconst 1, 1) := by decide +kernel
theorem dW_law_865 : decode code 865 = .ok (.iadd, 1) := by decide +kernel
theorem dW_law_866 : decode code 866 = .ok (.iaload, 1) := by decide +kernel
theorem dW_law_867 : decode code 867 = .ok (.aload_n 3, 1) := by decide +kernel
theorem dW_law_868 : decode code 868 = .ok (.invokestatic 123, 3) := by decide +kernel
theorem dW_law_871 : decode code 871 = .ok (.istore 5, 2) := by decide +kernel
theorem dW_law_873 : decode code 873 = .ok (.aload_n 2, 1) := by decide +kernel
theorem dW_law_874 : decode code 874 = .ok (.aload_n 0, 1) := by decide +kernel
theorem dW_law_875 : decode code 875 = .ok (.iload 4, 2) := by decide +kernel
theorem dW_law_877 : decode code 877 = .ok (.iconst 1, 1) := by decide +kernel
