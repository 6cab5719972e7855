theorem dL_isRefused_481 : decode cL_isRefused 481 = .ok (.bipush 18, 2) := by decide +kernel
theorem dL_isRefused_483 : decode cL_isRefused 483 = .ok (.iload 8, 2) := by decide +kernel
theorem dL_isRefused_485 : decode cL_isRefused 485 = .ok (.iconst 0, 1) := by decide +kernel
theorem dL_isRefused_486 : decode cL_isRefused 486 = .ok (.iconst 0, 1) := by decide +kernel
theorem dL_isRefused_487 : decode cL_isRefused 487 = .ok (.invokestatic 151, 3) := by decide +kernel
theorem dL_isRefused_490 : decode cL_isRefused 490 = .ok (.ifCond .eq 242, 3) := by decide +kernel
theorem dL_isRefused_493 : decode cL_isRefused 493 = .ok (.aload_n 0, 1) := by decide +kernel
theorem dL_isRefused_494 : decode cL_isRefused 494 = .ok (.bipush 19, 2) := by decide +kernel
theorem dL_isRefused_496 : decode cL_isRefused 496 = .ok (.iload 5, 2) := by decide +kernel
theorem dL_isRefused_498 : decode cL_isRefused 498 = .ok (.ifCond .eq 13, 3) := by decide +kernel
theorem dL_isRefused_501 : decode cL_isRefused 501 = .ok (.iconst 0, 1) := by decide +kernel
theorem dL_isRefused_502 : decode cL_isRefused 502 = .ok (.iload 4, 2) := by decide +kernel
theorem dL_isRefused_504 : decode cL_isRefused 504 = .ok (.bipush 30, 2) := by decide +kernel
theorem dL_isRefused_506 : decode cL_isRefused 506 = .ok (.irem, 1) := by decide +kernel
theorem dL_isRefused_507 : decode cL_isRefused 507 = .ok (.isub, 1) := by decide +kernel
theorem dL_isRefused_508 : decode cL_isRefused 508 = .ok (.goto 6, 3) := by decide +kernel
theorem dL_isRefused_511 : decode cL_isRefused 511 = .ok (.sipush 201, 3) := by decide +kernel
theorem dL_isRefused_514 : decode cL_isRefused 514 = .ok (.iconst 0, 1) := by decide +kernel
theorem dL_isRefused_515 : decode cL_isRefused 515 = .ok (.iconst 0, 1) := by decide +kernel
theorem dL_isRefused_516 : decode cL_isRefused 516 = .ok (.iconst 0, 1) := by decide +kernel
theorem dL_isRefused_517 : decode cL_isRefused 517 = .ok (.iconst 0, 1) := by decide +kernel
theorem dL_isRefused_518 : decode cL_isRefused 518 = .ok (.invokestatic 147, 3) := by decide +kernel
theorem dL_isRefused_521 : decode cL_isRefused 521 = .ok (.ifCond .eq 211, 3) := by decide +kernel
theorem dL_isRefused_524 : decode cL_isRefused 524 = .ok (.aload_n 0, 1) := by decide +kernel
theorem dL_isRefused_525 : decode cL_isRefused 525 = .ok (.bipush 20, 2) := by decide +kernel
theorem dL_isRefused_527 : decode cL_isRefused 527 = .ok (.iload 6, 2) := by decide +kernel
theorem dL_isRefused_529 : decode cL_isRefused 529 = .ok (.iconst 0, 1) := by decide +kernel
theorem dL_isRefused_530 : decode cL_isRefused 530 = .ok (.sipush 999, 3) := by decide +kernel
theorem dL_isRefused_533 : decode cL_isRefused 533 = .ok (.invokestatic 151, 3) := by decide +kernel
theorem dL_isRefused_536 : decode cL_isRefused 536 = .ok (.ifCond .eq 196, 3) := by decide +kernel
theorem dL_isRefused_539 : decode cL_isRefused 539 = .ok (.aload_n 0, 1) := by decide +kernel
theorem dL_isRefused_540 : decode cL_isRefused 540 = .ok (.bipush 21, 2) := by decide +kernel
theorem dL_isRefused_542 : decode cL_isRefused 542 = .ok (.iload 6, 2) := by decide +kernel
theorem dL_isRefused_544 : decode cL_isRefused 544 = .ok (.iconst 0, 1) := by decide +kernel
theorem dL_isRefused_545 : decode cL_isRefused 545 = .ok (.iconst 0, 1) := by decide +kernel
theorem dL_isRefused_546 : decode cL_isRefused 546 = .ok (.invokestatic 151, 3) := by decide +kernel
theorem dL_isRefused_549 : decode cL_isRefused 549 = .ok (.ifCond .eq 183, 3) := by decide +kernel
theorem dL_isRefused_552 : decode cL_isRefused 552 = .ok (.aload_n 0, 1) := by decide +kernel
theorem dL_isRefused_553 : decode cL_isRefused 553 = .ok (.bipush 22, 2) := by decide +kernel
theorem dL_isRefused_555 : decode cL_isRefused 555 = .ok (.iload 6, 2) := by decide +kernel
theorem dL_isRefused_557 : decode cL_isRefused 557 = .ok (.iconst 0, 1) := by decide +kernel
theorem dL_isRefused_558 : decode cL_isRefused 558 = .ok (.sipush 999, 3) := by decide +kernel
theorem dL_isRefused_561 : decode cL_isRefused 561 = .ok (.invokestatic 151, 3) := by decide +kernel
theorem dL_isRefused_564 : decode cL_isRefused 564 = .ok (.ifCond .eq 168, 3) := by decide +kernel
theorem dL_isRefused_567 : decode cL_isRefused 567 = .ok (.aload_n 0, 1) := by decide +kernel
theorem dL_isRefused_568 : decode cL_isRefused 568 = .ok (.bipush 23, 2) := by decide +kernel
theorem dL_isRefused_570 : decode cL_isRefused 570 = .ok (.iload 6, 2) := by decide +kernel
theorem dL_isRefused_572 : decode cL_isRefused 572 = .ok (.iconst 0, 1) := by decide +kernel
theorem dL_isRefused_573 : decode cL_isRefused 573 = .ok (.sipush 999, 3) := by decide +kernel
theorem dL_isRefused_576 : decode cL_isRefused 576 = .ok (.invokestatic 151, 3) := by decide +kernel
theorem dL_isRefused_579 : decode cL_isRefused 579 = .ok (.ifCond .eq 153, 3) := by decide +kernel
theorem dL_isRefused_582 : decode cL_isRefused 582 = .ok (.aload_n 0, 1) := by decide +kernel
theorem dL_isRefused_583 : decode cL_isRefused 583 = .ok (.bipush 24, 2) := by decide +kernel
theorem dL_isRefused_585 : decode cL_isRefused 585 = .ok (.iload 8, 2) := by decide +kernel
theorem dL_isRefused_587 : decode cL_isRefused 587 = .ok (.iconst 0, 1) := by decide +kernel
theorem dL_isRefused_588 : decode cL_isRefused 588 = .ok (.iconst 0, 1) := by decide +kernel
theorem dL_isRefused_589 : decode cL_isRefused 589 = .ok (.invokestatic 151, 3) := by decide +kernel
theorem dL_isRefused_592 : decode cL_isRefused 592 = .ok (.ifCond .eq 140, 3) := by decide +kernel
theorem dL_isRefused_595 : decode cL_isRefused 595 = .ok (.aload_n 0, 1) := by decide +kernel
theorem dL_isRefused_596 : decode cL_isRefused 596 = .ok (.bipush 25, 2) := by decide +kernel
theorem dL_isRefused_598 : decode cL_isRefused 598 = .ok (.iload 8, 2) := by decide +kernel
theorem dL_isRefused_600 : decode cL_isRefused 600 = .ok (.iconst (-1), 1) := by decide +kernel
theorem dL_isRefused_601 : decode cL_isRefused 601 = .ok (.iconst 0, 1) := by decide +kernel
theorem dL_isRefused_602 : decode cL_isRefused 602 = .ok (.invokestatic 151, 3) := by decide +kernel
theorem dL_isRefused_605 : decode cL_isRefused 605 = .ok (.ifCond .eq 127, 3) := by decide +kernel
theorem dL_isRefused_608 : decode cL_isRefused 608 = .ok (.aload_n 0, 1) := by decide +kernel
theorem dL_isRefused_609 : decode cL_isRefused 609 = .ok (.bipush 26, 2) := by decide +kernel
theorem dL_isRefused_611 : decode cL_isRefused 611 = .ok (.iload 8, 2) := by decide +kernel
theorem dL_isRefused_613 : decode cL_isRefused 613 = .ok (.bipush 9, 2) := by decide +kernel
theorem dL_isRefused_615 : decode cL_isRefused 615 = .ok (.iconst 0, 1) := by decide +kernel
theorem dL_isRefused_616 : decode cL_isRefused 616 = .ok (.invokestatic 151, 3) := by decide +kernel
theorem dL_isRefused_619 : decode cL_isRefused 619 = .ok (.ifCond .eq 113, 3) := by decide +kernel
theorem dL_isRefused_622 : decode cL_isRefused 622 = .ok (.aload_n 0, 1) := by decide +kernel
theorem dL_isRefused_623 : decode cL_isRefused 623 = .ok (.bipush 27, 2) := by decide +kernel
theorem dL_isRefused_625 : decode cL_isRefused 625 = .ok (.iload 6, 2) := by decide +kernel
theorem dL_isRefused_627 : decode cL_isRefused 627 = .ok (.iconst 0, 1) := by decide +kernel
theorem dL_isRefused_628 : decode cL_isRefused 628 = .ok (.bipush 9, 2) := by decide +kernel
theorem dL_isRefused_630 : decode cL_isRefused 630 = .ok (.invokestatic 151, 3) := by decide +kernel
theorem dL_isRefused_633 : decode cL_isRefused 633 = .ok (.ifCond .eq 99, 3) := by decide +kernel
theorem dL_isRefused_636 : decode cL_isRefused 636 = .ok (.aload_n 0, 1) := by decide +kernel
theorem dL_isRefused_637 : decode cL_isRefused 637 = .ok (.bipush 28, 2) := by decide +kernel
theorem dL_isRefused_639 : decode cL_isRefused 639 = .ok (.iload 6, 2) := by decide +kernel
theorem dL_isRefused_641 : decode cL_isRefused 641 = .ok (.iconst 1, 1) := by decide +kernel
theorem dL_isRefused_642 : decode cL_isRefused 642 = .ok (.iconst 0, 1) := by decide +kernel
theorem dL_isRefused_643 : decode cL_isRefused 643 = .ok (.invokestatic 151, 3) := by decide +kernel
theorem dL_isRefused_646 : decode cL_isRefused 646 = .ok (.ifCond .eq 86, 3) := by decide +kernel
theorem dL_isRefused_649 : decode cL_isRefused 649 = .ok (.aload_n 0, 1) := by decide +kernel
theorem dL_isRefused_650 : decode cL_isRefused 650 = .ok (.bipush 29, 2) := by decide +kernel
theorem dL_isRefused_652 : decode cL_isRefused 652 = .ok (.iload 6, 2) := by decide +kernel
theorem dL_isRefused_654 : decode cL_isRefused 654 = .ok (.iconst 0, 1) := by decide +kernel
theorem dL_isRefused_655 : decode cL_isRefused 655 = .ok (.iconst 0, 1) := by decide +kernel
theorem dL_isRefused_656 : decode cL_isRefused 656 = .ok (.invokestatic 151, 3) := by decide +kernel
theorem dL_isRefused_659 : decode cL_isRefused 659 = .ok (.ifCond .eq 73, 3) := by decide +kernel
theorem dL_isRefused_662 : decode cL_isRefused 662 = .ok (.aload_n 0, 1) := by decide +kernel
theorem dL_isRefused_663 : decode cL_isRefused 663 = .ok (.bipush 30, 2) := by decide +kernel
theorem dL_isRefused_665 : decode cL_isRefused 665 = .ok (.iload 9, 2) := by decide +kernel
theorem dL_isRefused_667 : decode cL_isRefused 667 = .ok (.iconst 0, 1) := by decide +kernel
theorem dL_isRefused_668 : decode cL_isRefused 668 = .ok (.iconst 0, 1) := by decide +kernel
theorem dL_isRefused_669 : decode cL_isRefused 669 = .ok (.invokestatic 151, 3) := by decide +kernel
theorem dL_isRefused_672 : decode cL_isRefused 672 = .ok (.ifCond .eq 60, 3) := by decide +kernel
theorem dL_isRefused_675 : decode cL_isRefused 675 = .ok (.aload_n 0, 1) := by decide +kernel
theorem dL_isRefused_676 : decode cL_isRefused 676 = .ok (.bipush 31, 2) := by decide +kernel
theorem dL_isRefused_678 : decode cL_isRefused 678 = .ok (.iload 5, 2) := by decide +kernel
theorem dL_isRefused_680 : decode cL_isRefused 680 = .ok (.ifCond .eq 13, 3) := by decide +kernel
theorem dL_isRefused_683 : decode cL_isRefused 683 = .ok (.iconst (-1), 1) := by decide +kernel
theorem dL_isRefused_684 : decode cL_isRefused 684 = .ok (.iload 4, 2) := by decide +kernel
theorem dL_isRefused_686 : decode cL_isRefused 686 = .ok (.bipush 30, 2) := by decide +kernel
theorem dL_isRefused_688 : decode cL_isRefused 688 = .ok (.irem, 1) := by decide +kernel
theorem dL_isRefused_689 : decode cL_isRefused 689 = .ok (.isub, 1) := by decide +kernel
theorem dL_isRefused_690 : decode cL_isRefused 690 = .ok (.goto 11, 3) := by decide +kernel
theorem dL_isRefused_693 : decode cL_isRefused 693 = .ok (.bipush 6, 2) := by decide +kernel
theorem dL_isRefused_695 : decode cL_isRefused 695 = .ok (.iload 4, 2) := by decide +kernel
theorem dL_isRefused_697 : decode cL_isRefused 697 = .ok (.bipush 30, 2) := by decide +kernel
theorem dL_isRefused_699 : decode cL_isRefused 699 = .ok (.irem, 1) := by decide +kernel
theorem dL_isRefused_700 : decode cL_isRefused 700 = .ok (.iadd, 1) := by decide +kernel
theorem dL_isRefused_701 : decode cL_isRefused 701 = .ok (.iconst 0, 1) := by decide +kernel
theorem dL_isRefused_702 : decode cL_isRefused 702 = .ok (.iconst 0, 1) := by decide +kernel
theorem dL_isRefused_703 : decode cL_isRefused 703 = .ok (.invokestatic 151, 3) := by decide +kernel
theorem dL_isRefused_706 : decode cL_isRefused 706 = .ok (.ifCond .eq 26, 3) := by decide +kernel
theorem dL_isRefused_709 : decode cL_isRefused 709 = .ok (.aload_n 0, 1) := by decide +kernel
theorem dL_isRefused_710 : decode cL_isRefused 710 = .ok (.iconst 0, 1) := by decide +kernel
theorem dL_isRefused_711 : decode cL_isRefused 711 = .ok (.iload 6, 2) := by decide +kernel
theorem dL_isRefused_713 : decode cL_isRefused 713 = .ok (.iconst 0, 1) := by decide +kernel
theorem dL_isRefused_714 : decode cL_isRefused 714 = .ok (.iconst 0, 1) := by decide +kernel
theorem dL_isRefused_715 : decode cL_isRefused 715 = .ok (.iconst 3, 1) := by decide +kernel
theorem dL_isRefused_716 : decode cL_isRefused 716 = .ok (.sipush 999, 3) := by decide +kernel
theorem dL_isRefused_719 : decode cL_isRefused 719 = .ok (.iconst 1, 1) := by decide +kernel
theorem dL_isRefused_720 : decode cL_isRefused 720 = .ok (.invokestatic 155, 3) := by decide +kernel
theorem dL_isRefused_723 : decode cL_isRefused 723 = .ok (.ldc 120, 2) := by decide +kernel
theorem dL_isRefused_725 : decode cL_isRefused 725 = .ok (.if_icmp .ne 7, 3) := by decide +kernel
theorem dL_isRefused_728 : decode cL_isRefused 728 = .ok (.iconst 1, 1) := by decide +kernel
theorem dL_isRefused_729 : decode cL_isRefused 729 = .ok (.goto 4, 3) := by decide +kernel
theorem dL_isRefused_732 : decode cL_isRefused 732 = .ok (.iconst 0, 1) := by decide +kernel
theorem dL_isRefused_733 : decode cL_isRefused 733 = .ok (.istore 12, 2) := by decide +kernel
theorem dL_isRefused_735 : decode cL_isRefused 735 = .ok (.iconst 0, 1) := by decide +kernel
theorem dL_isRefused_736 : decode cL_isRefused 736 = .ok (.istore 13, 2) := by decide +kernel
theorem dL_isRefused_738 : decode cL_isRefused 738 = .ok (.iload 13, 2) := by decide +kernel
theorem dL_isRefused_740 : decode cL_isRefused 740 = .ok (.aload_n 1, 1) := by decide +kernel
theorem dL_isRefused_741 : decode cL_isRefused 741 = .ok (.iconst 1, 1) := by decide +kernel
theorem dL_isRefused_742 : decode cL_isRefused 742 = .ok (.iaload, 1) := by decide +kernel
theorem dL_isRefused_743 : decode cL_isRefused 743 = .ok (.if_icmp .ge 535, 3) := by decide +kernel
theorem dL_isRefused_746 : decode cL_isRefused 746 = .ok (.iload 12, 2) := by decide +kernel
theorem dL_isRefused_748 : decode cL_isRefused 748 = .ok (.ifCond .eq 530, 3) := by decide +kernel
theorem dL_isRefused_751 : decode cL_isRefused 751 = .ok (.iload 5, 2) := by decide +kernel
theorem dL_isRefused_753 : decode cL_isRefused 753 = .ok (.ifCond .eq 13, 3) := by decide +kernel
theorem dL_isRefused_756 : decode cL_isRefused 756 = .ok (.iconst (-1), 1) := by decide +kernel
theorem dL_isRefused_757 : decode cL_isRefused 757 = .ok (.iload 4, 2) := by decide +kernel
theorem dL_isRefused_759 : decode cL_isRefused 759 = .ok (.bipush 30, 2) := by decide +kernel
theorem dL_isRefused_761 : decode cL_isRefused 761 = .ok (.irem, 1) := by decide +kernel
theorem dL_isRefused_762 : decode cL_isRefused 762 = .ok (.isub, 1) := by decide +kernel
theorem dL_isRefused_763 : decode cL_isRefused 763 = .ok (.goto 13, 3) := by decide +kernel
theorem dL_isRefused_766 : decode cL_isRefused 766 = .ok (.aload_n 2, 1) := by decide +kernel
theorem dL_isRefused_767 : decode cL_isRefused 767 = .ok (.iload 13, 2) := by decide +kernel
theorem dL_isRefused_769 : decode cL_isRefused 769 = .ok (.iaload, 1) := by decide +kernel
theorem dL_isRefused_770 : decode cL_isRefused 770 = .ok (.iload 4, 2) := by decide +kernel
theorem dL_isRefused_772 : decode cL_isRefused 772 = .ok (.bipush 30, 2) := by decide +kernel
theorem dL_isRefused_774 : decode cL_isRefused 774 = .ok (.irem, 1) := by decide +kernel
theorem dL_isRefused_775 : decode cL_isRefused 775 = .ok (.iadd, 1) := by decide +kernel
theorem dL_isRefused_776 : decode cL_isRefused 776 = .ok (.istore 14, 2) := by decide +kernel
theorem dL_isRefused_778 : decode cL_isRefused 778 = .ok (.aload_n 0, 1) := by decide +kernel
theorem dL_isRefused_779 : decode cL_isRefused 779 = .ok (.iconst 2, 1) := by decide +kernel
theorem dL_isRefused_780 : decode cL_isRefused 780 = .ok (.iload 13, 2) := by decide +kernel
theorem dL_isRefused_782 : decode cL_isRefused 782 = .ok (.iload 5, 2) := by decide +kernel
theorem dL_isRefused_784 : decode cL_isRefused 784 = .ok (.ifCond .eq 7, 3) := by decide +kernel
theorem dL_isRefused_787 : decode cL_isRefused 787 = .ok (.iconst (-1), 1) := by decide +kernel
theorem dL_isRefused_788 : decode cL_isRefused 788 = .ok (.goto 4, 3) := by decide +kernel
theorem dL_isRefused_791 : decode cL_isRefused 791 = .ok (.iconst 5, 1) := by decide +kernel
theorem dL_isRefused_792 : decode cL_isRefused 792 = .ok (.iload 5, 2) := by decide +kernel
theorem dL_isRefused_794 : decode cL_isRefused 794 = .ok (.ifCond .eq 7, 3) := by decide +kernel
theorem dL_isRefused_797 : decode cL_isRefused 797 = .ok (.iconst 5, 1) := by decide +kernel
theorem dL_isRefused_798 : decode cL_isRefused 798 = .ok (.goto 4, 3) := by decide +kernel
theorem dL_isRefused_801 : decode cL_isRefused 801 = .ok (.iconst 4, 1) := by decide +kernel
theorem dL_isRefused_802 : decode cL_isRefused 802 = .ok (.iconst 0, 1) := by decide +kernel
theorem dL_isRefused_803 : decode cL_isRefused 803 = .ok (.iconst 0, 1) := by decide +kernel
theorem dL_isRefused_804 : decode cL_isRefused 804 = .ok (.invokestatic 147, 3) := by decide +kernel
theorem dL_isRefused_807 : decode cL_isRefused 807 = .ok (.ifCond .eq 462, 3) := by decide +kernel
theorem dL_isRefused_810 : decode cL_isRefused 810 = .ok (.aload_n 0, 1) := by decide +kernel
theorem dL_isRefused_811 : decode cL_isRefused 811 = .ok (.iconst 3, 1) := by decide +kernel
theorem dL_isRefused_812 : decode cL_isRefused 812 = .ok (.iload 9, 2) := by decide +kernel
theorem dL_isRefused_814 : decode cL_isRefused 814 = .ok (.iload 13, 2) := by decide +kernel
theorem dL_isRefused_816 : decode cL_isRefused 816 = .ok (.iconst 0, 1) := by decide +kernel
theorem dL_isRefused_817 : decode cL_isRefused 817 = .ok (.iconst 0, 1) := by decide +kernel
theorem dL_isRefused_818 : decode cL_isRefused 818 = .ok (.iconst 5, 1) := by decide +kernel
theorem dL_isRefused_819 : decode cL_isRefused 819 = .ok (.invokestatic 137, 3) := by decide +kernel
theorem dL_isRefused_822 : decode cL_isRefused 822 = .ok (.ldc 120, 2) := by decide +kernel
theorem dL_isRefused_824 : decode cL_isRefused 824 = .ok (.if_icmp .ne 445, 3) := by decide +kernel
theorem dL_isRefused_827 : decode cL_isRefused 827 = .ok (.aload_n 0, 1) := by decide +kernel
theorem dL_isRefused_828 : decode cL_isRefused 828 = .ok (.iconst 3, 1) := by decide +kernel
theorem dL_isRefused_829 : decode cL_isRefused 829 = .ok (.iconst 0, 1) := by decide +kernel
theorem dL_isRefused_830 : decode cL_isRefused 830 = .ok (.iload 13, 2) := by decide +kernel
theorem dL_isRefused_832 : decode cL_isRefused 832 = .ok (.iload 14, 2) := by decide +kernel
theorem dL_isRefused_834 : decode cL_isRefused 834 = .ok (.iconst 0, 1) := by decide +kernel
theorem dL_isRefused_835 : decode cL_isRefused 835 = .ok (.iconst 5, 1) := by decide +kernel
theorem dL_isRefused_836 : decode cL_isRefused 836 = .ok (.invokestatic 137, 3) := by decide +kernel
theorem dL_isRefused_839 : decode cL_isRefused 839 = .ok (.ldc 120, 2) := by decide +kernel
theorem dL_isRefused_841 : decode cL_isRefused 841 = .ok (.if_icmp .ne 428, 3) := by decide +kernel
theorem dL_isRefused_844 : decode cL_isRefused 844 = .ok (.aload_n 0, 1) := by decide +kernel
theorem dL_isRefused_845 : decode cL_isRefused 845 = .ok (.iconst 3, 1) := by decide +kernel
theorem dL_isRefused_846 : decode cL_isRefused 846 = .ok (.iconst 0, 1) := by decide +kernel
theorem dL_isRefused_847 : decode cL_isRefused 847 = .ok (.iload 13, 2) := by decide +kernel
theorem dL_isRefused_849 : decode cL_isRefused 849 = .ok (.iconst 1, 1) := by decide +kernel
theorem dL_isRefused_850 : decode cL_isRefused 850 = .ok (.iconst 0, 1) := by decide +kernel
theorem dL_isRefused_851 : decode cL_isRefused 851 = .ok (.bipush 50, 2) := by decide +kernel
theorem dL_isRefused_853 : decode cL_isRefused 853 = .ok (.invokestatic 147, 3) := by decide +kernel
theorem dL_isRefused_856 : decode cL_isRefused 856 = .ok (.ifCond .eq 413, 3) := by decide +kernel
theorem dL_isRefused_859 : decode cL_isRefused 859 = .ok (.aload_n 0, 1) := by decide +kernel
theorem dL_isRefused_860 : decode cL_isRefused 860 = .ok (.iconst 3, 1) := by decide +kernel
theorem dL_isRefused_861 : decode cL_isRefused 861 = .ok (.iconst 0, 1) := by decide +kernel
theorem dL_isRefused_862 : decode cL_isRefused 862 = .ok (.iload 13, 2) := by decide +kernel
theorem dL_isRefused_864 : decode cL_isRefused 864 = .ok (.iconst 0, 1) := by decide +kernel
theorem dL_isRefused_865 : decode cL_isRefused 865 = .ok (.iconst 0, 1) := by decide +kernel
theorem dL_isRefused_866 : decode cL_isRefused 866 = .ok (.iload 5, 2) := by decide +kernel
theorem dL_isRefused_868 : decode cL_isRefused 868 = .ok (.ifCond .eq 14, 3) := by decide +kernel
theorem dL_isRefused_871 : decode cL_isRefused 871 = .ok (.bipush 9, 2) := by decide +kernel
theorem dL_isRefused_873 : decode cL_isRefused 873 = .ok (.iload 4, 2) := by decide +kernel
theorem dL_isRefused_875 : decode cL_isRefused 875 = .ok (.bipush 30, 2) := by decide +kernel
theorem dL_isRefused_877 : decode cL_isRefused 877 = .ok (.irem, 1) := by decide +kernel
theorem dL_isRefused_878 : decode cL_isRefused 878 = .ok (.isub, 1) := by decide +kernel
theorem dL_isRefused_879 : decode cL_isRefused 879 = .ok (.goto 6, 3) := by decide +kernel
theorem dL_isRefused_882 : decode cL_isRefused 882 = .ok (.sipush 301, 3) := by decide +kernel
theorem dL_isRefused_885 : decode cL_isRefused 885 = .ok (.invokestatic 147, 3) := by decide +kernel
theorem dL_isRefused_888 : decode cL_isRefused 888 = .ok (.ifCond .eq 381, 3) := by decide +kernel
theorem dL_isRefused_891 : decode cL_isRefused 891 = .ok (.aload_n 0, 1) := by decide +kernel
theorem dL_isRefused_892 : decode cL_isRefused 892 = .ok (.bipush 7, 2) := by decide +kernel
theorem dL_isRefused_894 : decode cL_isRefused 894 = .ok (.iload 13, 2) := by decide +kernel
theorem dL_isRefused_896 : decode cL_isRefused 896 = .ok (.iload 14, 2) := by decide +kernel
theorem dL_isRefused_898 : decode cL_isRefused 898 = .ok (.iconst 0, 1) := by decide +kernel
theorem dL_isRefused_899 : decode cL_isRefused 899 = .ok (.invokestatic 151, 3) := by decide +kernel
theorem dL_isRefused_902 : decode cL_isRefused 902 = .ok (.ifCond .eq 367, 3) := by decide +kernel
theorem dL_isRefused_905 : decode cL_isRefused 905 = .ok (.aload_n 0, 1) := by decide +kernel
theorem dL_isRefused_906 : decode cL_isRefused 906 = .ok (.bipush 20, 2) := by decide +kernel
theorem dL_isRefused_908 : decode cL_isRefused 908 = .ok (.iload 13, 2) := by decide +kernel
theorem dL_isRefused_910 : decode cL_isRefused 910 = .ok (.iload 14, 2) := by decide +kernel
theorem dL_isRefused_912 : decode cL_isRefused 912 = .ok (.sipush 999, 3) := by decide +kernel
theorem dL_isRefused_915 : decode cL_isRefused 915 = .ok (.invokestatic 151, 3) := by decide +kernel
theorem dL_isRefused_918 : decode cL_isRefused 918 = .ok (.ifCond .eq 351, 3) := by decide +kernel
theorem dL_isRefused_921 : decode cL_isRefused 921 = .ok (.aload_n 0, 1) := by decide +kernel
theorem dL_isRefused_922 : decode cL_isRefused 922 = .ok (.bipush 20, 2) := by decide +kernel
theorem dL_isRefused_924 : decode cL_isRefused 924 = .ok (.iload 13, 2) := by decide +kernel
theorem dL_isRefused_926 : decode cL_isRefused 926 = .ok (.iconst 0, 1) := by decide +kernel
theorem dL_isRefused_927 : decode cL_isRefused 927 = .ok (.iload 5, 2) := by decide +kernel
theorem dL_isRefused_929 : decode cL_isRefused 929 = .ok (.ifCond .eq 13, 3) := by decide +kernel
theorem dL_isRefused_932 : decode cL_isRefused 932 = .ok (.iconst (-1), 1) := by decide +kernel
theorem dL_isRefused_933 : decode cL_isRefused 933 = .ok (.iload 4, 2) := by decide +kernel
theorem dL_isRefused_935 : decode cL_isRefused 935 = .ok (.bipush 30, 2) := by decide +kernel
theorem dL_isRefused_937 : decode cL_isRefused 937 = .ok (.irem, 1) := by decide +kernel
theorem dL_isRefused_938 : decode cL_isRefused 938 = .ok (.isub, 1) := by decide +kernel
theorem dL_isRefused_939 : decode cL_isRefused 939 = .ok (.goto 6, 3) := by decide +kernel
theorem dL_isRefused_942 : decode cL_isRefused 942 = .ok (.sipush 301, 3) := by decide +kernel
theorem dL_isRefused_945 : decode cL_isRefused 945 = .ok (.iconst 0, 1) := by decide +kernel
theorem dL_isRefused_946 : decode cL_isRefused 946 = .ok (.iconst 0, 1) := by decide +kernel
theorem dL_isRefused_947 : decode cL_isRefused 947 = .ok (.invokestatic 147, 3) := by decide +kernel
theorem dL_isRefused_950 : decode cL_isRefused 950 = .ok (.ifCond .eq 319, 3) := by decide +kernel
theorem dL_isRefused_953 : decode cL_isRefused 953 = .ok (.aload_n 0, 1) := by decide +kernel
theorem dL_isRefused_954 : decode cL_isRefused 954 = .ok (.bipush 21, 2) := by decide +kernel
theorem dL_isRefused_956 : decode cL_isRefused 956 = .ok (.iload 13, 2) := by decide +kernel
theorem dL_isRefused_958 : decode cL_isRefused 958 = .ok (.iload 14, 2) := by decide +kernel
theorem dL_isRefused_960 : decode cL_isRefused 960 = .ok (.iconst 0, 1) := by decide +kernel
theorem dL_isRefused_961 : decode cL_isRefused 961 = .ok (.invokestatic 151, 3) := by decide +kernel
theorem dL_isRefused_964 : decode cL_isRefused 964 = .ok (.ifCond .eq 305, 3) := by decide +kernel
theorem dL_isRefused_967 : decode cL_isRefused 967 = .ok (.aload_n 0, 1) := by decide +kernel
theorem dL_isRefused_968 : decode cL_isRefused 968 = .ok (.iload 9, 2) := by decide +kernel
theorem dL_isRefused_970 : decode cL_isRefused 970 = .ok (.iload 13, 2) := by decide +kernel
theorem dL_isRefused_972 : decode cL_isRefused 972 = .ok (.iconst 0, 1) := by decide +kernel
theorem dL_isRefused_973 : decode cL_isRefused 973 = .ok (.iconst 0, 1) := by decide +kernel
theorem dL_isRefused_974 : decode cL_isRefused 974 = .ok (.iconst 3, 1) := by decide +kernel
theorem dL_isRefused_975 : decode cL_isRefused 975 = .ok (.sipush 999, 3) := by decide +kernel
theorem dL_isRefused_978 : decode cL_isRefused 978 = .ok (.iconst 1, 1) := by decide +kernel
theorem dL_isRefused_979 : decode cL_isRefused 979 = .ok (.invokestatic 155, 3) := by decide +kernel
theorem dL_isRefused_982 : decode cL_isRefused 982 = .ok (.ldc 120, 2) := by decide +kernel
theorem dL_isRefused_984 : decode cL_isRefused 984 = .ok (.if_icmp .ne 285, 3) := by decide +kernel
theorem dL_isRefused_987 : decode cL_isRefused 987 = .ok (.aload_n 0, 1) := by decide +kernel
theorem dL_isRefused_988 : decode cL_isRefused 988 = .ok (.iconst 0, 1) := by decide +kernel
theorem dL_isRefused_989 : decode cL_isRefused 989 = .ok (.iload 13, 2) := by decide +kernel
theorem dL_isRefused_991 : decode cL_isRefused 991 = .ok (.iconst 0, 1) := by decide +kernel
theorem dL_isRefused_992 : decode cL_isRefused 992 = .ok (.iload 14, 2) := by decide +kernel
theorem dL_isRefused_994 : decode cL_isRefused 994 = .ok (.iconst 3, 1) := by decide +kernel
theorem dL_isRefused_995 : decode cL_isRefused 995 = .ok (.sipush 999, 3) := by decide +kernel
theorem dL_isRefused_998 : decode cL_isRefused 998 = .ok (.iconst 1, 1) := by decide +kernel
theorem dL_isRefused_999 : decode cL_isRefused 999 = .ok (.invokestatic 155, 3) := by decide +kernel
theorem dL_isRefused_1002 : decode cL_isRefused 1002 = .ok (.ldc 120, 2) := by decide +kernel
theorem dL_isRefused_1004 : decode cL_isRefused 1004 = .ok (.if_icmp .ne 265, 3) := by decide +kernel
theorem dL_isRefused_1007 : decode cL_isRefused 1007 = .ok (.aload_n 0, 1) := by decide +kernel
