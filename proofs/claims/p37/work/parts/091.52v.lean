theorem dL_isDone_598 : decode cL_isDone 598 = .ok (.iload 7, 2) := by decide +kernel
theorem dL_isDone_600 : decode cL_isDone 600 = .ok (.iconst 1, 1) := by decide +kernel
theorem dL_isDone_601 : decode cL_isDone 601 = .ok (.if_icmp .ne 41, 3) := by decide +kernel
theorem dL_isDone_604 : decode cL_isDone 604 = .ok (.aload_n 0, 1) := by decide +kernel
theorem dL_isDone_605 : decode cL_isDone 605 = .ok (.iload 5, 2) := by decide +kernel
theorem dL_isDone_607 : decode cL_isDone 607 = .ok (.iconst 0, 1) := by decide +kernel
theorem dL_isDone_608 : decode cL_isDone 608 = .ok (.invokevirtual 96, 3) := by decide +kernel
theorem dL_isDone_611 : decode cL_isDone 611 = .ok (.iconst 3, 1) := by decide +kernel
theorem dL_isDone_612 : decode cL_isDone 612 = .ok (.if_icmp .ne 30, 3) := by decide +kernel
theorem dL_isDone_615 : decode cL_isDone 615 = .ok (.iload 9, 2) := by decide +kernel
theorem dL_isDone_617 : decode cL_isDone 617 = .ok (.aload_n 0, 1) := by decide +kernel
theorem dL_isDone_618 : decode cL_isDone 618 = .ok (.iload 5, 2) := by decide +kernel
theorem dL_isDone_620 : decode cL_isDone 620 = .ok (.iconst 1, 1) := by decide +kernel
theorem dL_isDone_621 : decode cL_isDone 621 = .ok (.invokevirtual 96, 3) := by decide +kernel
theorem dL_isDone_624 : decode cL_isDone 624 = .ok (.if_icmp .ne 18, 3) := by decide +kernel
theorem dL_isDone_627 : decode cL_isDone 627 = .ok (.aload_n 1, 1) := by decide +kernel
theorem dL_isDone_628 : decode cL_isDone 628 = .ok (.iconst 0, 1) := by decide +kernel
theorem dL_isDone_629 : decode cL_isDone 629 = .ok (.iaload, 1) := by decide +kernel
theorem dL_isDone_630 : decode cL_isDone 630 = .ok (.bipush 24, 2) := by decide +kernel
theorem dL_isDone_632 : decode cL_isDone 632 = .ok (.idiv, 1) := by decide +kernel
theorem dL_isDone_633 : decode cL_isDone 633 = .ok (.iload 9, 2) := by decide +kernel
theorem dL_isDone_635 : decode cL_isDone 635 = .ok (.if_icmp .gt 7, 3) := by decide +kernel
theorem dL_isDone_638 : decode cL_isDone 638 = .ok (.iconst 1, 1) := by decide +kernel
theorem dL_isDone_639 : decode cL_isDone 639 = .ok (.goto 4, 3) := by decide +kernel
theorem dL_isDone_642 : decode cL_isDone 642 = .ok (.iconst 0, 1) := by decide +kernel
theorem dL_isDone_643 : decode cL_isDone 643 = .ok (.ireturn, 1) := by decide +kernel
theorem dL_isDone_644 : decode cL_isDone 644 = .ok (.aload_n 2, 1) := by decide +kernel
theorem dL_isDone_645 : decode cL_isDone 645 = .ok (.iconst 4, 1) := by decide +kernel
theorem dL_isDone_646 : decode cL_isDone 646 = .ok (.iload 5, 2) := by decide +kernel
theorem dL_isDone_648 : decode cL_isDone 648 = .ok (.imul, 1) := by decide +kernel
theorem dL_isDone_649 : decode cL_isDone 649 = .ok (.iconst 1, 1) := by decide +kernel
theorem dL_isDone_650 : decode cL_isDone 650 = .ok (.iadd, 1) := by decide +kernel
theorem dL_isDone_651 : decode cL_isDone 651 = .ok (.iaload, 1) := by decide +kernel
theorem dL_isDone_652 : decode cL_isDone 652 = .ok (.iload 6, 2) := by decide +kernel
theorem dL_isDone_654 : decode cL_isDone 654 = .ok (.aload_n 2, 1) := by decide +kernel
theorem dL_isDone_655 : decode cL_isDone 655 = .ok (.iconst 4, 1) := by decide +kernel
theorem dL_isDone_656 : decode cL_isDone 656 = .ok (.iload 5, 2) := by decide +kernel
theorem dL_isDone_658 : decode cL_isDone 658 = .ok (.imul, 1) := by decide +kernel
theorem dL_isDone_659 : decode cL_isDone 659 = .ok (.iconst 2, 1) := by decide +kernel
theorem dL_isDone_660 : decode cL_isDone 660 = .ok (.iadd, 1) := by decide +kernel
theorem dL_isDone_661 : decode cL_isDone 661 = .ok (.iaload, 1) := by decide +kernel
theorem dL_isDone_662 : decode cL_isDone 662 = .ok (.aload_n 2, 1) := by decide +kernel
theorem dL_isDone_663 : decode cL_isDone 663 = .ok (.iconst 4, 1) := by decide +kernel
theorem dL_isDone_664 : decode cL_isDone 664 = .ok (.iload 5, 2) := by decide +kernel
theorem dL_isDone_666 : decode cL_isDone 666 = .ok (.imul, 1) := by decide +kernel
theorem dL_isDone_667 : decode cL_isDone 667 = .ok (.iconst 1, 1) := by decide +kernel
theorem dL_isDone_668 : decode cL_isDone 668 = .ok (.iadd, 1) := by decide +kernel
theorem dL_isDone_669 : decode cL_isDone 669 = .ok (.iaload, 1) := by decide +kernel
theorem dL_isDone_670 : decode cL_isDone 670 = .ok (.isub, 1) := by decide +kernel
theorem dL_isDone_671 : decode cL_isDone 671 = .ok (.iconst 1, 1) := by decide +kernel
theorem dL_isDone_672 : decode cL_isDone 672 = .ok (.iadd, 1) := by decide +kernel
theorem dL_isDone_673 : decode cL_isDone 673 = .ok (.irem, 1) := by decide +kernel
theorem dL_isDone_674 : decode cL_isDone 674 = .ok (.iadd, 1) := by decide +kernel
theorem dL_isDone_675 : decode cL_isDone 675 = .ok (.istore 9, 2) := by decide +kernel
theorem dL_isDone_677 : decode cL_isDone 677 = .ok (.iload_n 3, 1) := by decide +kernel
theorem dL_isDone_678 : decode cL_isDone 678 = .ok (.bipush 10, 2) := by decide +kernel
theorem dL_isDone_680 : decode cL_isDone 680 = .ok (.if_icmp .ge 246, 3) := by decide +kernel
theorem dL_isDone_683 : decode cL_isDone 683 = .ok (.aload_n 0, 1) := by decide +kernel
theorem dL_isDone_684 : decode cL_isDone 684 = .ok (.iload 5, 2) := by decide +kernel
theorem dL_isDone_686 : decode cL_isDone 686 = .ok (.iconst 4, 1) := by decide +kernel
theorem dL_isDone_687 : decode cL_isDone 687 = .ok (.invokevirtual 96, 3) := by decide +kernel
theorem dL_isDone_690 : decode cL_isDone 690 = .ok (.istore 10, 2) := by decide +kernel
theorem dL_isDone_692 : decode cL_isDone 692 = .ok (.aload_n 0, 1) := by decide +kernel
theorem dL_isDone_693 : decode cL_isDone 693 = .ok (.iload 5, 2) := by decide +kernel
theorem dL_isDone_695 : decode cL_isDone 695 = .ok (.iconst 5, 1) := by decide +kernel
theorem dL_isDone_696 : decode cL_isDone 696 = .ok (.invokevirtual 96, 3) := by decide +kernel
theorem dL_isDone_699 : decode cL_isDone 699 = .ok (.istore 11, 2) := by decide +kernel
theorem dL_isDone_701 : decode cL_isDone 701 = .ok (.aload_n 0, 1) := by decide +kernel
theorem dL_isDone_702 : decode cL_isDone 702 = .ok (.aload_n 2, 1) := by decide +kernel
theorem dL_isDone_703 : decode cL_isDone 703 = .ok (.iconst 4, 1) := by decide +kernel
theorem dL_isDone_704 : decode cL_isDone 704 = .ok (.iload 5, 2) := by decide +kernel
theorem dL_isDone_706 : decode cL_isDone 706 = .ok (.imul, 1) := by decide +kernel
theorem dL_isDone_707 : decode cL_isDone 707 = .ok (.iaload, 1) := by decide +kernel
theorem dL_isDone_708 : decode cL_isDone 708 = .ok (.iload 9, 2) := by decide +kernel
theorem dL_isDone_710 : decode cL_isDone 710 = .ok (.iconst 1, 1) := by decide +kernel
theorem dL_isDone_711 : decode cL_isDone 711 = .ok (.invokevirtual 99, 3) := by decide +kernel
theorem dL_isDone_714 : decode cL_isDone 714 = .ok (.iconst 1, 1) := by decide +kernel
theorem dL_isDone_715 : decode cL_isDone 715 = .ok (.if_icmp .ne 7, 3) := by decide +kernel
theorem dL_isDone_718 : decode cL_isDone 718 = .ok (.iconst 1, 1) := by decide +kernel
theorem dL_isDone_719 : decode cL_isDone 719 = .ok (.goto 4, 3) := by decide +kernel
theorem dL_isDone_722 : decode cL_isDone 722 = .ok (.iconst 0, 1) := by decide +kernel
theorem dL_isDone_723 : decode cL_isDone 723 = .ok (.istore 12, 2) := by decide +kernel
theorem dL_isDone_725 : decode cL_isDone 725 = .ok (.aload_n 0, 1) := by decide +kernel
theorem dL_isDone_726 : decode cL_isDone 726 = .ok (.aload_n 2, 1) := by decide +kernel
theorem dL_isDone_727 : decode cL_isDone 727 = .ok (.iconst 4, 1) := by decide +kernel
theorem dL_isDone_728 : decode cL_isDone 728 = .ok (.iload 5, 2) := by decide +kernel
theorem dL_isDone_730 : decode cL_isDone 730 = .ok (.imul, 1) := by decide +kernel
theorem dL_isDone_731 : decode cL_isDone 731 = .ok (.iaload, 1) := by decide +kernel
theorem dL_isDone_732 : decode cL_isDone 732 = .ok (.iload 9, 2) := by decide +kernel
theorem dL_isDone_734 : decode cL_isDone 734 = .ok (.iconst 0, 1) := by decide +kernel
theorem dL_isDone_735 : decode cL_isDone 735 = .ok (.invokevirtual 99, 3) := by decide +kernel
theorem dL_isDone_738 : decode cL_isDone 738 = .ok (.iconst 1, 1) := by decide +kernel
theorem dL_isDone_739 : decode cL_isDone 739 = .ok (.if_icmp .ne 7, 3) := by decide +kernel
theorem dL_isDone_742 : decode cL_isDone 742 = .ok (.iconst 1, 1) := by decide +kernel
theorem dL_isDone_743 : decode cL_isDone 743 = .ok (.goto 4, 3) := by decide +kernel
theorem dL_isDone_746 : decode cL_isDone 746 = .ok (.iconst 0, 1) := by decide +kernel
theorem dL_isDone_747 : decode cL_isDone 747 = .ok (.istore 13, 2) := by decide +kernel
theorem dL_isDone_749 : decode cL_isDone 749 = .ok (.aload_n 0, 1) := by decide +kernel
theorem dL_isDone_750 : decode cL_isDone 750 = .ok (.iload 8, 2) := by decide +kernel
theorem dL_isDone_752 : decode cL_isDone 752 = .ok (.invokevirtual 111, 3) := by decide +kernel
theorem dL_isDone_755 : decode cL_isDone 755 = .ok (.lstore 14, 2) := by decide +kernel
theorem dL_isDone_757 : decode cL_isDone 757 = .ok (.aload_n 0, 1) := by decide +kernel
theorem dL_isDone_758 : decode cL_isDone 758 = .ok (.bipush 14, 2) := by decide +kernel
theorem dL_isDone_760 : decode cL_isDone 760 = .ok (.iload 5, 2) := by decide +kernel
theorem dL_isDone_762 : decode cL_isDone 762 = .ok (.iload 9, 2) := by decide +kernel
theorem dL_isDone_764 : decode cL_isDone 764 = .ok (.iconst 0, 1) := by decide +kernel
theorem dL_isDone_765 : decode cL_isDone 765 = .ok (.iconst 0, 1) := by decide +kernel
theorem dL_isDone_766 : decode cL_isDone 766 = .ok (.iconst 0, 1) := by decide +kernel
theorem dL_isDone_767 : decode cL_isDone 767 = .ok (.invokestatic 137, 3) := by decide +kernel
theorem dL_isDone_770 : decode cL_isDone 770 = .ok (.istore 16, 2) := by decide +kernel
theorem dL_isDone_772 : decode cL_isDone 772 = .ok (.iload 16, 2) := by decide +kernel
theorem dL_isDone_774 : decode cL_isDone 774 = .ok (.ldc 126, 2) := by decide +kernel
theorem dL_isDone_776 : decode cL_isDone 776 = .ok (.if_icmp .ne 35, 3) := by decide +kernel
theorem dL_isDone_779 : decode cL_isDone 779 = .ok (.aload_n 0, 1) := by decide +kernel
theorem dL_isDone_780 : decode cL_isDone 780 = .ok (.iload 5, 2) := by decide +kernel
theorem dL_isDone_782 : decode cL_isDone 782 = .ok (.iconst 5, 1) := by decide +kernel
theorem dL_isDone_783 : decode cL_isDone 783 = .ok (.invokevirtual 96, 3) := by decide +kernel
theorem dL_isDone_786 : decode cL_isDone 786 = .ok (.iload 11, 2) := by decide +kernel
theorem dL_isDone_788 : decode cL_isDone 788 = .ok (.if_icmp .ne 19, 3) := by decide +kernel
theorem dL_isDone_791 : decode cL_isDone 791 = .ok (.aload_n 0, 1) := by decide +kernel
theorem dL_isDone_792 : decode cL_isDone 792 = .ok (.iload 5, 2) := by decide +kernel
theorem dL_isDone_794 : decode cL_isDone 794 = .ok (.iconst 4, 1) := by decide +kernel
theorem dL_isDone_795 : decode cL_isDone 795 = .ok (.invokevirtual 96, 3) := by decide +kernel
theorem dL_isDone_798 : decode cL_isDone 798 = .ok (.iload 10, 2) := by decide +kernel
theorem dL_isDone_800 : decode cL_isDone 800 = .ok (.if_icmp .ne 7, 3) := by decide +kernel
theorem dL_isDone_803 : decode cL_isDone 803 = .ok (.iconst 1, 1) := by decide +kernel
theorem dL_isDone_804 : decode cL_isDone 804 = .ok (.goto 121, 3) := by decide +kernel
theorem dL_isDone_807 : decode cL_isDone 807 = .ok (.iconst 0, 1) := by decide +kernel
theorem dL_isDone_808 : decode cL_isDone 808 = .ok (.goto 117, 3) := by decide +kernel
theorem dL_isDone_811 : decode cL_isDone 811 = .ok (.iload 7, 2) := by decide +kernel
theorem dL_isDone_813 : decode cL_isDone 813 = .ok (.iconst 3, 1) := by decide +kernel
theorem dL_isDone_814 : decode cL_isDone 814 = .ok (.if_icmp .ne 110, 3) := by decide +kernel
theorem dL_isDone_817 : decode cL_isDone 817 = .ok (.iload 16, 2) := by decide +kernel
theorem dL_isDone_819 : decode cL_isDone 819 = .ok (.ifCond .lt 105, 3) := by decide +kernel
theorem dL_isDone_822 : decode cL_isDone 822 = .ok (.iload 12, 2) := by decide +kernel
theorem dL_isDone_824 : decode cL_isDone 824 = .ok (.ifCond .eq 8, 3) := by decide +kernel
theorem dL_isDone_827 : decode cL_isDone 827 = .ok (.iload 16, 2) := by decide +kernel
theorem dL_isDone_829 : decode cL_isDone 829 = .ok (.ifCond .ne 95, 3) := by decide +kernel
theorem dL_isDone_832 : decode cL_isDone 832 = .ok (.iload 12, 2) := by decide +kernel
theorem dL_isDone_834 : decode cL_isDone 834 = .ok (.ifCond .ne 8, 3) := by decide +kernel
theorem dL_isDone_837 : decode cL_isDone 837 = .ok (.iload 13, 2) := by decide +kernel
theorem dL_isDone_839 : decode cL_isDone 839 = .ok (.ifCond .ne 85, 3) := by decide +kernel
theorem dL_isDone_842 : decode cL_isDone 842 = .ok (.aload_n 0, 1) := by decide +kernel
theorem dL_isDone_843 : decode cL_isDone 843 = .ok (.iload 5, 2) := by decide +kernel
theorem dL_isDone_845 : decode cL_isDone 845 = .ok (.iconst 4, 1) := by decide +kernel
theorem dL_isDone_846 : decode cL_isDone 846 = .ok (.invokevirtual 96, 3) := by decide +kernel
theorem dL_isDone_849 : decode cL_isDone 849 = .ok (.iload 10, 2) := by decide +kernel
theorem dL_isDone_851 : decode cL_isDone 851 = .ok (.iload 16, 2) := by decide +kernel
theorem dL_isDone_853 : decode cL_isDone 853 = .ok (.iadd, 1) := by decide +kernel
theorem dL_isDone_854 : decode cL_isDone 854 = .ok (.if_icmp .ne 70, 3) := by decide +kernel
theorem dL_isDone_857 : decode cL_isDone 857 = .ok (.aload_n 0, 1) := by decide +kernel
theorem dL_isDone_858 : decode cL_isDone 858 = .ok (.iload 5, 2) := by decide +kernel
theorem dL_isDone_860 : decode cL_isDone 860 = .ok (.iconst 5, 1) := by decide +kernel
theorem dL_isDone_861 : decode cL_isDone 861 = .ok (.invokevirtual 96, 3) := by decide +kernel
theorem dL_isDone_864 : decode cL_isDone 864 = .ok (.iload 11, 2) := by decide +kernel
theorem dL_isDone_866 : decode cL_isDone 866 = .ok (.iconst 1, 1) := by decide +kernel
theorem dL_isDone_867 : decode cL_isDone 867 = .ok (.iadd, 1) := by decide +kernel
theorem dL_isDone_868 : decode cL_isDone 868 = .ok (.if_icmp .ne 56, 3) := by decide +kernel
theorem dL_isDone_871 : decode cL_isDone 871 = .ok (.aload_n 0, 1) := by decide +kernel
theorem dL_isDone_872 : decode cL_isDone 872 = .ok (.aload_n 2, 1) := by decide +kernel
theorem dL_isDone_873 : decode cL_isDone 873 = .ok (.iconst 4, 1) := by decide +kernel
theorem dL_isDone_874 : decode cL_isDone 874 = .ok (.iload 5, 2) := by decide +kernel
theorem dL_isDone_876 : decode cL_isDone 876 = .ok (.imul, 1) := by decide +kernel
theorem dL_isDone_877 : decode cL_isDone 877 = .ok (.iaload, 1) := by decide +kernel
theorem dL_isDone_878 : decode cL_isDone 878 = .ok (.iload 9, 2) := by decide +kernel
theorem dL_isDone_880 : decode cL_isDone 880 = .ok (.iconst 1, 1) := by decide +kernel
theorem dL_isDone_881 : decode cL_isDone 881 = .ok (.invokevirtual 99, 3) := by decide +kernel
theorem dL_isDone_884 : decode cL_isDone 884 = .ok (.iconst 1, 1) := by decide +kernel
theorem dL_isDone_885 : decode cL_isDone 885 = .ok (.if_icmp .ne 39, 3) := by decide +kernel
theorem dL_isDone_888 : decode cL_isDone 888 = .ok (.aload_n 0, 1) := by decide +kernel
theorem dL_isDone_889 : decode cL_isDone 889 = .ok (.iload 8, 2) := by decide +kernel
theorem dL_isDone_891 : decode cL_isDone 891 = .ok (.invokevirtual 111, 3) := by decide +kernel
theorem dL_isDone_894 : decode cL_isDone 894 = .ok (.lload 14, 2) := by decide +kernel
theorem dL_isDone_896 : decode cL_isDone 896 = .ok (.lcmp, 1) := by decide +kernel
theorem dL_isDone_897 : decode cL_isDone 897 = .ok (.ifCond .gt 27, 3) := by decide +kernel
theorem dL_isDone_900 : decode cL_isDone 900 = .ok (.aload_n 0, 1) := by decide +kernel
theorem dL_isDone_901 : decode cL_isDone 901 = .ok (.iload 8, 2) := by decide +kernel
theorem dL_isDone_903 : decode cL_isDone 903 = .ok (.invokevirtual 111, 3) := by decide +kernel
theorem dL_isDone_906 : decode cL_isDone 906 = .ok (.lload 14, 2) := by decide +kernel
theorem dL_isDone_908 : decode cL_isDone 908 = .ok (.ldc2_w 159, 3) := by decide +kernel
theorem dL_isDone_911 : decode cL_isDone 911 = .ok (.iload 16, 2) := by decide +kernel
theorem dL_isDone_913 : decode cL_isDone 913 = .ok (.i2l, 1) := by decide +kernel
theorem dL_isDone_914 : decode cL_isDone 914 = .ok (.lmul, 1) := by decide +kernel
theorem dL_isDone_915 : decode cL_isDone 915 = .ok (.lsub, 1) := by decide +kernel
theorem dL_isDone_916 : decode cL_isDone 916 = .ok (.lcmp, 1) := by decide +kernel
theorem dL_isDone_917 : decode cL_isDone 917 = .ok (.ifCond .lt 7, 3) := by decide +kernel
theorem dL_isDone_920 : decode cL_isDone 920 = .ok (.iconst 1, 1) := by decide +kernel
theorem dL_isDone_921 : decode cL_isDone 921 = .ok (.goto 4, 3) := by decide +kernel
theorem dL_isDone_924 : decode cL_isDone 924 = .ok (.iconst 0, 1) := by decide +kernel
theorem dL_isDone_925 : decode cL_isDone 925 = .ok (.ireturn, 1) := by decide +kernel
theorem dL_isDone_926 : decode cL_isDone 926 = .ok (.iload_n 3, 1) := by decide +kernel
theorem dL_isDone_927 : decode cL_isDone 927 = .ok (.bipush 13, 2) := by decide +kernel
theorem dL_isDone_929 : decode cL_isDone 929 = .ok (.if_icmp .ge 135, 3) := by decide +kernel
theorem dL_isDone_932 : decode cL_isDone 932 = .ok (.aload_n 0, 1) := by decide +kernel
theorem dL_isDone_933 : decode cL_isDone 933 = .ok (.aload_n 2, 1) := by decide +kernel
theorem dL_isDone_934 : decode cL_isDone 934 = .ok (.iconst 4, 1) := by decide +kernel
theorem dL_isDone_935 : decode cL_isDone 935 = .ok (.iload 5, 2) := by decide +kernel
theorem dL_isDone_937 : decode cL_isDone 937 = .ok (.imul, 1) := by decide +kernel
theorem dL_isDone_938 : decode cL_isDone 938 = .ok (.iaload, 1) := by decide +kernel
theorem dL_isDone_939 : decode cL_isDone 939 = .ok (.iload 9, 2) := by decide +kernel
theorem dL_isDone_941 : decode cL_isDone 941 = .ok (.iconst 2, 1) := by decide +kernel
theorem dL_isDone_942 : decode cL_isDone 942 = .ok (.invokevirtual 99, 3) := by decide +kernel
theorem dL_isDone_945 : decode cL_isDone 945 = .ok (.iload 5, 2) := by decide +kernel
theorem dL_isDone_947 : decode cL_isDone 947 = .ok (.if_icmp .ne 7, 3) := by decide +kernel
theorem dL_isDone_950 : decode cL_isDone 950 = .ok (.iconst 1, 1) := by decide +kernel
theorem dL_isDone_951 : decode cL_isDone 951 = .ok (.goto 4, 3) := by decide +kernel
theorem dL_isDone_954 : decode cL_isDone 954 = .ok (.iconst 0, 1) := by decide +kernel
theorem dL_isDone_955 : decode cL_isDone 955 = .ok (.istore 10, 2) := by decide +kernel
theorem dL_isDone_957 : decode cL_isDone 957 = .ok (.aload_n 0, 1) := by decide +kernel
theorem dL_isDone_958 : decode cL_isDone 958 = .ok (.aload_n 2, 1) := by decide +kernel
theorem dL_isDone_959 : decode cL_isDone 959 = .ok (.iconst 4, 1) := by decide +kernel
theorem dL_isDone_960 : decode cL_isDone 960 = .ok (.iload 5, 2) := by decide +kernel
theorem dL_isDone_962 : decode cL_isDone 962 = .ok (.imul, 1) := by decide +kernel
theorem dL_isDone_963 : decode cL_isDone 963 = .ok (.iaload, 1) := by decide +kernel
theorem dL_isDone_964 : decode cL_isDone 964 = .ok (.iload 9, 2) := by decide +kernel
theorem dL_isDone_966 : decode cL_isDone 966 = .ok (.iconst 3, 1) := by decide +kernel
theorem dL_isDone_967 : decode cL_isDone 967 = .ok (.invokevirtual 99, 3) := by decide +kernel
theorem dL_isDone_970 : decode cL_isDone 970 = .ok (.istore 11, 2) := by decide +kernel
theorem dL_isDone_972 : decode cL_isDone 972 = .ok (.aload_n 0, 1) := by decide +kernel
theorem dL_isDone_973 : decode cL_isDone 973 = .ok (.bipush 15, 2) := by decide +kernel
theorem dL_isDone_975 : decode cL_isDone 975 = .ok (.iload 5, 2) := by decide +kernel
theorem dL_isDone_977 : decode cL_isDone 977 = .ok (.iload 9, 2) := by decide +kernel
theorem dL_isDone_979 : decode cL_isDone 979 = .ok (.iload 6, 2) := by decide +kernel
theorem dL_isDone_981 : decode cL_isDone 981 = .ok (.bipush 40, 2) := by decide +kernel
theorem dL_isDone_983 : decode cL_isDone 983 = .ok (.idiv, 1) := by decide +kernel
theorem dL_isDone_984 : decode cL_isDone 984 = .ok (.bipush 101, 2) := by decide +kernel
theorem dL_isDone_986 : decode cL_isDone 986 = .ok (.irem, 1) := by decide +kernel
theorem dL_isDone_987 : decode cL_isDone 987 = .ok (.iconst 0, 1) := by decide +kernel
theorem dL_isDone_988 : decode cL_isDone 988 = .ok (.iconst 0, 1) := by decide +kernel
theorem dL_isDone_989 : decode cL_isDone 989 = .ok (.invokestatic 137, 3) := by decide +kernel
theorem dL_isDone_992 : decode cL_isDone 992 = .ok (.istore 12, 2) := by decide +kernel
theorem dL_isDone_994 : decode cL_isDone 994 = .ok (.iload 10, 2) := by decide +kernel
theorem dL_isDone_996 : decode cL_isDone 996 = .ok (.ifCond .eq 55, 3) := by decide +kernel
theorem dL_isDone_999 : decode cL_isDone 999 = .ok (.iload 12, 2) := by decide +kernel
theorem dL_isDone_1001 : decode cL_isDone 1001 = .ok (.iload 11, 2) := by decide +kernel
theorem dL_isDone_1003 : decode cL_isDone 1003 = .ok (.iconst 1, 1) := by decide +kernel
theorem dL_isDone_1004 : decode cL_isDone 1004 = .ok (.iadd, 1) := by decide +kernel
theorem dL_isDone_1005 : decode cL_isDone 1005 = .ok (.if_icmp .ne 42, 3) := by decide +kernel
theorem dL_isDone_1008 : decode cL_isDone 1008 = .ok (.aload_n 0, 1) := by decide +kernel
theorem dL_isDone_1009 : decode cL_isDone 1009 = .ok (.aload_n 2, 1) := by decide +kernel
theorem dL_isDone_1010 : decode cL_isDone 1010 = .ok (.iconst 4, 1) := by decide +kernel
theorem dL_isDone_1011 : decode cL_isDone 1011 = .ok (.iload 5, 2) := by decide +kernel
theorem dL_isDone_1013 : decode cL_isDone 1013 = .ok (.imul, 1) := by decide +kernel
theorem dL_isDone_1014 : decode cL_isDone 1014 = .ok (.iaload, 1) := by decide +kernel
theorem dL_isDone_1015 : decode cL_isDone 1015 = .ok (.iload 9, 2) := by decide +kernel
theorem dL_isDone_1017 : decode cL_isDone 1017 = .ok (.iconst 2, 1) := by decide +kernel
theorem dL_isDone_1018 : decode cL_isDone 1018 = .ok (.invokevirtual 99, 3) := by decide +kernel
theorem dL_isDone_1021 : decode cL_isDone 1021 = .ok (.iconst (-1), 1) := by decide +kernel
theorem dL_isDone_1022 : decode cL_isDone 1022 = .ok (.if_icmp .ne 25, 3) := by decide +kernel
theorem dL_isDone_1025 : decode cL_isDone 1025 = .ok (.aload_n 0, 1) := by decide +kernel
theorem dL_isDone_1026 : decode cL_isDone 1026 = .ok (.aload_n 2, 1) := by decide +kernel
theorem dL_isDone_1027 : decode cL_isDone 1027 = .ok (.iconst 4, 1) := by decide +kernel
theorem dL_isDone_1028 : decode cL_isDone 1028 = .ok (.iload 5, 2) := by decide +kernel
theorem dL_isDone_1030 : decode cL_isDone 1030 = .ok (.imul, 1) := by decide +kernel
theorem dL_isDone_1031 : decode cL_isDone 1031 = .ok (.iaload, 1) := by decide +kernel
theorem dL_isDone_1032 : decode cL_isDone 1032 = .ok (.iload 9, 2) := by decide +kernel
theorem dL_isDone_1034 : decode cL_isDone 1034 = .ok (.iconst 3, 1) := by decide +kernel
theorem dL_isDone_1035 : decode cL_isDone 1035 = .ok (.invokevirtual 99, 3) := by decide +kernel
theorem dL_isDone_1038 : decode cL_isDone 1038 = .ok (.iload 12, 2) := by decide +kernel
theorem dL_isDone_1040 : decode cL_isDone 1040 = .ok (.if_icmp .ne 7, 3) := by decide +kernel
theorem dL_isDone_1043 : decode cL_isDone 1043 = .ok (.iconst 1, 1) := by decide +kernel
theorem dL_isDone_1044 : decode cL_isDone 1044 = .ok (.goto 19, 3) := by decide +kernel
theorem dL_isDone_1047 : decode cL_isDone 1047 = .ok (.iconst 0, 1) := by decide +kernel
theorem dL_isDone_1048 : decode cL_isDone 1048 = .ok (.goto 15, 3) := by decide +kernel
theorem dL_isDone_1051 : decode cL_isDone 1051 = .ok (.iload 12, 2) := by decide +kernel
theorem dL_isDone_1053 : decode cL_isDone 1053 = .ok (.ldc 126, 2) := by decide +kernel
theorem dL_isDone_1055 : decode cL_isDone 1055 = .ok (.if_icmp .ne 7, 3) := by decide +kernel
theorem dL_isDone_1058 : decode cL_isDone 1058 = .ok (.iconst 1, 1) := by decide +kernel
theorem dL_isDone_1059 : decode cL_isDone 1059 = .ok (.goto 4, 3) := by decide +kernel
theorem dL_isDone_1062 : decode cL_isDone 1062 = .ok (.iconst 0, 1) := by decide +kernel
theorem dL_isDone_1063 : decode cL_isDone 1063 = .ok (.ireturn, 1) := by decide +kernel
theorem dL_isDone_1064 : decode cL_isDone 1064 = .ok (.iload_n 3, 1) := by decide +kernel
theorem dL_isDone_1065 : decode cL_isDone 1065 = .ok (.bipush 13, 2) := by decide +kernel
theorem dL_isDone_1067 : decode cL_isDone 1067 = .ok (.if_icmp .ne 49, 3) := by decide +kernel
theorem dL_isDone_1070 : decode cL_isDone 1070 = .ok (.aload_n 0, 1) := by decide +kernel
theorem dL_isDone_1071 : decode cL_isDone 1071 = .ok (.iload 5, 2) := by decide +kernel
theorem dL_isDone_1073 : decode cL_isDone 1073 = .ok (.bipush 6, 2) := by decide +kernel
theorem dL_isDone_1075 : decode cL_isDone 1075 = .ok (.invokevirtual 96, 3) := by decide +kernel
theorem dL_isDone_1078 : decode cL_isDone 1078 = .ok (.istore 10, 2) := by decide +kernel
theorem dL_isDone_1080 : decode cL_isDone 1080 = .ok (.aload_n 0, 1) := by decide +kernel
theorem dL_isDone_1081 : decode cL_isDone 1081 = .ok (.bipush 16, 2) := by decide +kernel
theorem dL_isDone_1083 : decode cL_isDone 1083 = .ok (.iload 5, 2) := by decide +kernel
theorem dL_isDone_1085 : decode cL_isDone 1085 = .ok (.iconst 0, 1) := by decide +kernel
