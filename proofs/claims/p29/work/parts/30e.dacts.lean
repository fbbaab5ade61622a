theorem dL_acts_507 : decode cL_acts 507 = .ok (.bipush 20, 2) := by decide +kernel
theorem dL_acts_509 : decode cL_acts 509 = .ok (.iload 8, 2) := by decide +kernel
theorem dL_acts_511 : decode cL_acts 511 = .ok (.iadd, 1) := by decide +kernel
theorem dL_acts_512 : decode cL_acts 512 = .ok (.iconst 0, 1) := by decide +kernel
theorem dL_acts_513 : decode cL_acts 513 = .ok (.iastore, 1) := by decide +kernel
theorem dL_acts_514 : decode cL_acts 514 = .ok (.iinc 8 1, 3) := by decide +kernel
theorem dL_acts_517 : decode cL_acts 517 = .ok (.goto (-51), 3) := by decide +kernel
theorem dL_acts_520 : decode cL_acts 520 = .ok (.aload_n 0, 1) := by decide +kernel
theorem dL_acts_521 : decode cL_acts 521 = .ok (.iload 6, 2) := by decide +kernel
theorem dL_acts_523 : decode cL_acts 523 = .ok (.invokestatic 100, 3) := by decide +kernel
theorem dL_acts_526 : decode cL_acts 526 = .ok (.aload 4, 2) := by decide +kernel
theorem dL_acts_528 : decode cL_acts 528 = .ok (.bipush 16, 2) := by decide +kernel
theorem dL_acts_530 : decode cL_acts 530 = .ok (.iload 6, 2) := by decide +kernel
theorem dL_acts_532 : decode cL_acts 532 = .ok (.iadd, 1) := by decide +kernel
theorem dL_acts_533 : decode cL_acts 533 = .ok (.iaload, 1) := by decide +kernel
theorem dL_acts_534 : decode cL_acts 534 = .ok (.if_icmp .ne 7, 3) := by decide +kernel
theorem dL_acts_537 : decode cL_acts 537 = .ok (.iconst 1, 1) := by decide +kernel
theorem dL_acts_538 : decode cL_acts 538 = .ok (.goto 4, 3) := by decide +kernel
theorem dL_acts_541 : decode cL_acts 541 = .ok (.iconst 0, 1) := by decide +kernel
theorem dL_acts_542 : decode cL_acts 542 = .ok (.ireturn, 1) := by decide +kernel
theorem dL_acts_543 : decode cL_acts 543 = .ok (.iload_n 1, 1) := by decide +kernel
theorem dL_acts_544 : decode cL_acts 544 = .ok (.iconst 3, 1) := by decide +kernel
theorem dL_acts_545 : decode cL_acts 545 = .ok (.if_icmp .ne 91, 3) := by decide +kernel
theorem dL_acts_548 : decode cL_acts 548 = .ok (.iload_n 2, 1) := by decide +kernel
theorem dL_acts_549 : decode cL_acts 549 = .ok (.iconst 5, 1) := by decide +kernel
theorem dL_acts_550 : decode cL_acts 550 = .ok (.ishr, 1) := by decide +kernel
theorem dL_acts_551 : decode cL_acts 551 = .ok (.bipush 30, 2) := by decide +kernel
theorem dL_acts_553 : decode cL_acts 553 = .ok (.invokestatic 86, 3) := by decide +kernel
theorem dL_acts_556 : decode cL_acts 556 = .ok (.ifCond .ne 7, 3) := by decide +kernel
theorem dL_acts_559 : decode cL_acts 559 = .ok (.iconst (-1), 1) := by decide +kernel
theorem dL_acts_560 : decode cL_acts 560 = .ok (.goto 10, 3) := by decide +kernel
theorem dL_acts_563 : decode cL_acts 563 = .ok (.iload_n 2, 1) := by decide +kernel
theorem dL_acts_564 : decode cL_acts 564 = .ok (.iconst 5, 1) := by decide +kernel
theorem dL_acts_565 : decode cL_acts 565 = .ok (.ishr, 1) := by decide +kernel
theorem dL_acts_566 : decode cL_acts 566 = .ok (.iconst 3, 1) := by decide +kernel
theorem dL_acts_567 : decode cL_acts 567 = .ok (.invokestatic 86, 3) := by decide +kernel
theorem dL_acts_570 : decode cL_acts 570 = .ok (.istore 8, 2) := by decide +kernel
theorem dL_acts_572 : decode cL_acts 572 = .ok (.iload 7, 2) := by decide +kernel
theorem dL_acts_574 : decode cL_acts 574 = .ok (.ifCond .ne 8, 3) := by decide +kernel
theorem dL_acts_577 : decode cL_acts 577 = .ok (.bipush (-101), 2) := by decide +kernel
theorem dL_acts_579 : decode cL_acts 579 = .ok (.goto 21, 3) := by decide +kernel
theorem dL_acts_582 : decode cL_acts 582 = .ok (.iload 8, 2) := by decide +kernel
theorem dL_acts_584 : decode cL_acts 584 = .ok (.ifCond .ge 8, 3) := by decide +kernel
theorem dL_acts_587 : decode cL_acts 587 = .ok (.bipush (-102), 2) := by decide +kernel
theorem dL_acts_589 : decode cL_acts 589 = .ok (.goto 11, 3) := by decide +kernel
theorem dL_acts_592 : decode cL_acts 592 = .ok (.aload 4, 2) := by decide +kernel
theorem dL_acts_594 : decode cL_acts 594 = .ok (.bipush 8, 2) := by decide +kernel
theorem dL_acts_596 : decode cL_acts 596 = .ok (.iload 6, 2) := by decide +kernel
theorem dL_acts_598 : decode cL_acts 598 = .ok (.iadd, 1) := by decide +kernel
theorem dL_acts_599 : decode cL_acts 599 = .ok (.iaload, 1) := by decide +kernel
theorem dL_acts_600 : decode cL_acts 600 = .ok (.istore 9, 2) := by decide +kernel
theorem dL_acts_602 : decode cL_acts 602 = .ok (.iload 9, 2) := by decide +kernel
theorem dL_acts_604 : decode cL_acts 604 = .ok (.ifCond .lt 13, 3) := by decide +kernel
theorem dL_acts_607 : decode cL_acts 607 = .ok (.aload 4, 2) := by decide +kernel
theorem dL_acts_609 : decode cL_acts 609 = .ok (.bipush 8, 2) := by decide +kernel
theorem dL_acts_611 : decode cL_acts 611 = .ok (.iload 6, 2) := by decide +kernel
theorem dL_acts_613 : decode cL_acts 613 = .ok (.iadd, 1) := by decide +kernel
theorem dL_acts_614 : decode cL_acts 614 = .ok (.iload 8, 2) := by decide +kernel
theorem dL_acts_616 : decode cL_acts 616 = .ok (.iastore, 1) := by decide +kernel
theorem dL_acts_617 : decode cL_acts 617 = .ok (.aload_n 0, 1) := by decide +kernel
theorem dL_acts_618 : decode cL_acts 618 = .ok (.iload 6, 2) := by decide +kernel
theorem dL_acts_620 : decode cL_acts 620 = .ok (.iload 8, 2) := by decide +kernel
theorem dL_acts_622 : decode cL_acts 622 = .ok (.invokestatic 104, 3) := by decide +kernel
theorem dL_acts_625 : decode cL_acts 625 = .ok (.iload 9, 2) := by decide +kernel
theorem dL_acts_627 : decode cL_acts 627 = .ok (.if_icmp .ne 7, 3) := by decide +kernel
theorem dL_acts_630 : decode cL_acts 630 = .ok (.iconst 1, 1) := by decide +kernel
theorem dL_acts_631 : decode cL_acts 631 = .ok (.goto 4, 3) := by decide +kernel
theorem dL_acts_634 : decode cL_acts 634 = .ok (.iconst 0, 1) := by decide +kernel
theorem dL_acts_635 : decode cL_acts 635 = .ok (.ireturn, 1) := by decide +kernel
theorem dL_acts_636 : decode cL_acts 636 = .ok (.iload_n 1, 1) := by decide +kernel
theorem dL_acts_637 : decode cL_acts 637 = .ok (.iconst 4, 1) := by decide +kernel
theorem dL_acts_638 : decode cL_acts 638 = .ok (.if_icmp .ne 132, 3) := by decide +kernel
theorem dL_acts_641 : decode cL_acts 641 = .ok (.iload_n 2, 1) := by decide +kernel
theorem dL_acts_642 : decode cL_acts 642 = .ok (.iconst 3, 1) := by decide +kernel
theorem dL_acts_643 : decode cL_acts 643 = .ok (.ishr, 1) := by decide +kernel
theorem dL_acts_644 : decode cL_acts 644 = .ok (.iconst 3, 1) := by decide +kernel
theorem dL_acts_645 : decode cL_acts 645 = .ok (.invokestatic 86, 3) := by decide +kernel
theorem dL_acts_648 : decode cL_acts 648 = .ok (.istore 8, 2) := by decide +kernel
theorem dL_acts_650 : decode cL_acts 650 = .ok (.iload_n 2, 1) := by decide +kernel
theorem dL_acts_651 : decode cL_acts 651 = .ok (.bipush 8, 2) := by decide +kernel
theorem dL_acts_653 : decode cL_acts 653 = .ok (.ishr, 1) := by decide +kernel
theorem dL_acts_654 : decode cL_acts 654 = .ok (.bipush 12, 2) := by decide +kernel
theorem dL_acts_656 : decode cL_acts 656 = .ok (.invokestatic 86, 3) := by decide +kernel
theorem dL_acts_659 : decode cL_acts 659 = .ok (.ifCond .ne 7, 3) := by decide +kernel
theorem dL_acts_662 : decode cL_acts 662 = .ok (.iconst (-1), 1) := by decide +kernel
theorem dL_acts_663 : decode cL_acts 663 = .ok (.goto 48, 3) := by decide +kernel
theorem dL_acts_666 : decode cL_acts 666 = .ok (.iload 8, 2) := by decide +kernel
theorem dL_acts_668 : decode cL_acts 668 = .ok (.ifCond .ne 14, 3) := by decide +kernel
theorem dL_acts_671 : decode cL_acts 671 = .ok (.iload_n 2, 1) := by decide +kernel
theorem dL_acts_672 : decode cL_acts 672 = .ok (.iconst 5, 1) := by decide +kernel
theorem dL_acts_673 : decode cL_acts 673 = .ok (.ishr, 1) := by decide +kernel
theorem dL_acts_674 : decode cL_acts 674 = .ok (.bipush 90, 2) := by decide +kernel
theorem dL_acts_676 : decode cL_acts 676 = .ok (.invokestatic 86, 3) := by decide +kernel
theorem dL_acts_679 : decode cL_acts 679 = .ok (.goto 32, 3) := by decide +kernel
theorem dL_acts_682 : decode cL_acts 682 = .ok (.iload 8, 2) := by decide +kernel
theorem dL_acts_684 : decode cL_acts 684 = .ok (.iconst 1, 1) := by decide +kernel
theorem dL_acts_685 : decode cL_acts 685 = .ok (.if_icmp .ne 15, 3) := by decide +kernel
theorem dL_acts_688 : decode cL_acts 688 = .ok (.iconst 1, 1) := by decide +kernel
theorem dL_acts_689 : decode cL_acts 689 = .ok (.iload_n 2, 1) := by decide +kernel
theorem dL_acts_690 : decode cL_acts 690 = .ok (.iconst 5, 1) := by decide +kernel
theorem dL_acts_691 : decode cL_acts 691 = .ok (.ishr, 1) := by decide +kernel
theorem dL_acts_692 : decode cL_acts 692 = .ok (.iconst 4, 1) := by decide +kernel
theorem dL_acts_693 : decode cL_acts 693 = .ok (.invokestatic 86, 3) := by decide +kernel
theorem dL_acts_696 : decode cL_acts 696 = .ok (.iadd, 1) := by decide +kernel
theorem dL_acts_697 : decode cL_acts 697 = .ok (.goto 14, 3) := by decide +kernel
theorem dL_acts_700 : decode cL_acts 700 = .ok (.iconst 1, 1) := by decide +kernel
theorem dL_acts_701 : decode cL_acts 701 = .ok (.iload_n 2, 1) := by decide +kernel
theorem dL_acts_702 : decode cL_acts 702 = .ok (.iconst 5, 1) := by decide +kernel
theorem dL_acts_703 : decode cL_acts 703 = .ok (.ishr, 1) := by decide +kernel
theorem dL_acts_704 : decode cL_acts 704 = .ok (.sipush 900, 3) := by decide +kernel
theorem dL_acts_707 : decode cL_acts 707 = .ok (.invokestatic 86, 3) := by decide +kernel
theorem dL_acts_710 : decode cL_acts 710 = .ok (.iadd, 1) := by decide +kernel
theorem dL_acts_711 : decode cL_acts 711 = .ok (.istore 9, 2) := by decide +kernel
theorem dL_acts_713 : decode cL_acts 713 = .ok (.aload_n 3, 1) := by decide +kernel
theorem dL_acts_714 : decode cL_acts 714 = .ok (.bipush 6, 2) := by decide +kernel
theorem dL_acts_716 : decode cL_acts 716 = .ok (.iload 8, 2) := by decide +kernel
theorem dL_acts_718 : decode cL_acts 718 = .ok (.iadd, 1) := by decide +kernel
theorem dL_acts_719 : decode cL_acts 719 = .ok (.iaload, 1) := by decide +kernel
theorem dL_acts_720 : decode cL_acts 720 = .ok (.istore 10, 2) := by decide +kernel
theorem dL_acts_722 : decode cL_acts 722 = .ok (.aload_n 3, 1) := by decide +kernel
theorem dL_acts_723 : decode cL_acts 723 = .ok (.bipush 6, 2) := by decide +kernel
theorem dL_acts_725 : decode cL_acts 725 = .ok (.iload 8, 2) := by decide +kernel
theorem dL_acts_727 : decode cL_acts 727 = .ok (.iadd, 1) := by decide +kernel
theorem dL_acts_728 : decode cL_acts 728 = .ok (.iload 9, 2) := by decide +kernel
theorem dL_acts_730 : decode cL_acts 730 = .ok (.ifCond .ge 8, 3) := by decide +kernel
theorem dL_acts_733 : decode cL_acts 733 = .ok (.iload 10, 2) := by decide +kernel
theorem dL_acts_735 : decode cL_acts 735 = .ok (.goto 5, 3) := by decide +kernel
theorem dL_acts_738 : decode cL_acts 738 = .ok (.iload 9, 2) := by decide +kernel
theorem dL_acts_740 : decode cL_acts 740 = .ok (.iastore, 1) := by decide +kernel
theorem dL_acts_741 : decode cL_acts 741 = .ok (.aload_n 0, 1) := by decide +kernel
theorem dL_acts_742 : decode cL_acts 742 = .ok (.iload 8, 2) := by decide +kernel
theorem dL_acts_744 : decode cL_acts 744 = .ok (.iload 9, 2) := by decide +kernel
theorem dL_acts_746 : decode cL_acts 746 = .ok (.invokestatic 108, 3) := by decide +kernel
theorem dL_acts_749 : decode cL_acts 749 = .ok (.iload 9, 2) := by decide +kernel
theorem dL_acts_751 : decode cL_acts 751 = .ok (.ifCond .ge 8, 3) := by decide +kernel
theorem dL_acts_754 : decode cL_acts 754 = .ok (.bipush (-101), 2) := by decide +kernel
theorem dL_acts_756 : decode cL_acts 756 = .ok (.goto 5, 3) := by decide +kernel
theorem dL_acts_759 : decode cL_acts 759 = .ok (.iload 10, 2) := by decide +kernel
theorem dL_acts_761 : decode cL_acts 761 = .ok (.if_icmp .ne 7, 3) := by decide +kernel
theorem dL_acts_764 : decode cL_acts 764 = .ok (.iconst 1, 1) := by decide +kernel
theorem dL_acts_765 : decode cL_acts 765 = .ok (.goto 4, 3) := by decide +kernel
theorem dL_acts_768 : decode cL_acts 768 = .ok (.iconst 0, 1) := by decide +kernel
theorem dL_acts_769 : decode cL_acts 769 = .ok (.ireturn, 1) := by decide +kernel
theorem dL_acts_770 : decode cL_acts 770 = .ok (.iload_n 1, 1) := by decide +kernel
theorem dL_acts_771 : decode cL_acts 771 = .ok (.bipush 9, 2) := by decide +kernel
theorem dL_acts_773 : decode cL_acts 773 = .ok (.if_icmp .ge 239, 3) := by decide +kernel
theorem dL_acts_776 : decode cL_acts 776 = .ok (.iload_n 2, 1) := by decide +kernel
theorem dL_acts_777 : decode cL_acts 777 = .ok (.aload_n 3, 1) := by decide +kernel
theorem dL_acts_778 : decode cL_acts 778 = .ok (.iconst 1, 1) := by decide +kernel
theorem dL_acts_779 : decode cL_acts 779 = .ok (.iaload, 1) := by decide +kernel
theorem dL_acts_780 : decode cL_acts 780 = .ok (.iconst 1, 1) := by decide +kernel
theorem dL_acts_781 : decode cL_acts 781 = .ok (.iadd, 1) := by decide +kernel
theorem dL_acts_782 : decode cL_acts 782 = .ok (.invokestatic 86, 3) := by decide +kernel
theorem dL_acts_785 : decode cL_acts 785 = .ok (.iload_n 2, 1) := by decide +kernel
theorem dL_acts_786 : decode cL_acts 786 = .ok (.bipush 9, 2) := by decide +kernel
theorem dL_acts_788 : decode cL_acts 788 = .ok (.ishr, 1) := by decide +kernel
theorem dL_acts_789 : decode cL_acts 789 = .ok (.bipush 17, 2) := by decide +kernel
theorem dL_acts_791 : decode cL_acts 791 = .ok (.invokestatic 86, 3) := by decide +kernel
theorem dL_acts_794 : decode cL_acts 794 = .ok (.ifCond .ne 7, 3) := by decide +kernel
theorem dL_acts_797 : decode cL_acts 797 = .ok (.iconst 1, 1) := by decide +kernel
theorem dL_acts_798 : decode cL_acts 798 = .ok (.goto 4, 3) := by decide +kernel
theorem dL_acts_801 : decode cL_acts 801 = .ok (.iconst 0, 1) := by decide +kernel
theorem dL_acts_802 : decode cL_acts 802 = .ok (.isub, 1) := by decide +kernel
theorem dL_acts_803 : decode cL_acts 803 = .ok (.istore 8, 2) := by decide +kernel
theorem dL_acts_805 : decode cL_acts 805 = .ok (.iload 8, 2) := by decide +kernel
theorem dL_acts_807 : decode cL_acts 807 = .ok (.ifCond .lt 15, 3) := by decide +kernel
theorem dL_acts_810 : decode cL_acts 810 = .ok (.iload 8, 2) := by decide +kernel
theorem dL_acts_812 : decode cL_acts 812 = .ok (.aload_n 3, 1) := by decide +kernel
theorem dL_acts_813 : decode cL_acts 813 = .ok (.iconst 1, 1) := by decide +kernel
theorem dL_acts_814 : decode cL_acts 814 = .ok (.iaload, 1) := by decide +kernel
theorem dL_acts_815 : decode cL_acts 815 = .ok (.if_icmp .ge 7, 3) := by decide +kernel
theorem dL_acts_818 : decode cL_acts 818 = .ok (.iconst 1, 1) := by decide +kernel
theorem dL_acts_819 : decode cL_acts 819 = .ok (.goto 4, 3) := by decide +kernel
theorem dL_acts_822 : decode cL_acts 822 = .ok (.iconst 0, 1) := by decide +kernel
theorem dL_acts_823 : decode cL_acts 823 = .ok (.istore 9, 2) := by decide +kernel
theorem dL_acts_825 : decode cL_acts 825 = .ok (.iload_n 2, 1) := by decide +kernel
theorem dL_acts_826 : decode cL_acts 826 = .ok (.iconst 4, 1) := by decide +kernel
theorem dL_acts_827 : decode cL_acts 827 = .ok (.ishr, 1) := by decide +kernel
theorem dL_acts_828 : decode cL_acts 828 = .ok (.bipush 40, 2) := by decide +kernel
theorem dL_acts_830 : decode cL_acts 830 = .ok (.invokestatic 86, 3) := by decide +kernel
theorem dL_acts_833 : decode cL_acts 833 = .ok (.ifCond .ne 8, 3) := by decide +kernel
theorem dL_acts_836 : decode cL_acts 836 = .ok (.ldc 111, 2) := by decide +kernel
theorem dL_acts_838 : decode cL_acts 838 = .ok (.goto 14, 3) := by decide +kernel
theorem dL_acts_841 : decode cL_acts 841 = .ok (.iload_n 2, 1) := by decide +kernel
theorem dL_acts_842 : decode cL_acts 842 = .ok (.iconst 4, 1) := by decide +kernel
theorem dL_acts_843 : decode cL_acts 843 = .ok (.ishr, 1) := by decide +kernel
theorem dL_acts_844 : decode cL_acts 844 = .ok (.bipush 13, 2) := by decide +kernel
theorem dL_acts_846 : decode cL_acts 846 = .ok (.invokestatic 86, 3) := by decide +kernel
theorem dL_acts_849 : decode cL_acts 849 = .ok (.bipush 6, 2) := by decide +kernel
theorem dL_acts_851 : decode cL_acts 851 = .ok (.isub, 1) := by decide +kernel
theorem dL_acts_852 : decode cL_acts 852 = .ok (.istore 10, 2) := by decide +kernel
theorem dL_acts_854 : decode cL_acts 854 = .ok (.iload_n 2, 1) := by decide +kernel
theorem dL_acts_855 : decode cL_acts 855 = .ok (.bipush 7, 2) := by decide +kernel
theorem dL_acts_857 : decode cL_acts 857 = .ok (.ishr, 1) := by decide +kernel
theorem dL_acts_858 : decode cL_acts 858 = .ok (.bipush 13, 2) := by decide +kernel
theorem dL_acts_860 : decode cL_acts 860 = .ok (.invokestatic 86, 3) := by decide +kernel
theorem dL_acts_863 : decode cL_acts 863 = .ok (.bipush 6, 2) := by decide +kernel
theorem dL_acts_865 : decode cL_acts 865 = .ok (.isub, 1) := by decide +kernel
theorem dL_acts_866 : decode cL_acts 866 = .ok (.istore 11, 2) := by decide +kernel
theorem dL_acts_868 : decode cL_acts 868 = .ok (.iload 9, 2) := by decide +kernel
theorem dL_acts_870 : decode cL_acts 870 = .ok (.ifCond .eq 16, 3) := by decide +kernel
theorem dL_acts_873 : decode cL_acts 873 = .ok (.aload 5, 2) := by decide +kernel
theorem dL_acts_875 : decode cL_acts 875 = .ok (.iload 8, 2) := by decide +kernel
theorem dL_acts_877 : decode cL_acts 877 = .ok (.iaload, 1) := by decide +kernel
theorem dL_acts_878 : decode cL_acts 878 = .ok (.i2l, 1) := by decide +kernel
theorem dL_acts_879 : decode cL_acts 879 = .ok (.iload 10, 2) := by decide +kernel
theorem dL_acts_881 : decode cL_acts 881 = .ok (.i2l, 1) := by decide +kernel
theorem dL_acts_882 : decode cL_acts 882 = .ok (.ladd, 1) := by decide +kernel
theorem dL_acts_883 : decode cL_acts 883 = .ok (.goto 4, 3) := by decide +kernel
theorem dL_acts_886 : decode cL_acts 886 = .ok (.lconst 0, 1) := by decide +kernel
theorem dL_acts_887 : decode cL_acts 887 = .ok (.lstore 12, 2) := by decide +kernel
theorem dL_acts_889 : decode cL_acts 889 = .ok (.iload 9, 2) := by decide +kernel
theorem dL_acts_891 : decode cL_acts 891 = .ok (.ifCond .eq 16, 3) := by decide +kernel
theorem dL_acts_894 : decode cL_acts 894 = .ok (.aload 5, 2) := by decide +kernel
theorem dL_acts_896 : decode cL_acts 896 = .ok (.iconst 4, 1) := by decide +kernel
theorem dL_acts_897 : decode cL_acts 897 = .ok (.iload 8, 2) := by decide +kernel
theorem dL_acts_899 : decode cL_acts 899 = .ok (.iadd, 1) := by decide +kernel
theorem dL_acts_900 : decode cL_acts 900 = .ok (.iaload, 1) := by decide +kernel
theorem dL_acts_901 : decode cL_acts 901 = .ok (.iload 11, 2) := by decide +kernel
theorem dL_acts_903 : decode cL_acts 903 = .ok (.iadd, 1) := by decide +kernel
theorem dL_acts_904 : decode cL_acts 904 = .ok (.goto 4, 3) := by decide +kernel
theorem dL_acts_907 : decode cL_acts 907 = .ok (.iconst 0, 1) := by decide +kernel
theorem dL_acts_908 : decode cL_acts 908 = .ok (.istore 14, 2) := by decide +kernel
theorem dL_acts_910 : decode cL_acts 910 = .ok (.lload 12, 2) := by decide +kernel
theorem dL_acts_912 : decode cL_acts 912 = .ok (.lconst 0, 1) := by decide +kernel
theorem dL_acts_913 : decode cL_acts 913 = .ok (.lcmp, 1) := by decide +kernel
theorem dL_acts_914 : decode cL_acts 914 = .ok (.ifCond .lt 28, 3) := by decide +kernel
theorem dL_acts_917 : decode cL_acts 917 = .ok (.lload 12, 2) := by decide +kernel
theorem dL_acts_919 : decode cL_acts 919 = .ok (.ldc2_w 112, 3) := by decide +kernel
theorem dL_acts_922 : decode cL_acts 922 = .ok (.lcmp, 1) := by decide +kernel
theorem dL_acts_923 : decode cL_acts 923 = .ok (.ifCond .ge 19, 3) := by decide +kernel
theorem dL_acts_926 : decode cL_acts 926 = .ok (.iload 14, 2) := by decide +kernel
theorem dL_acts_928 : decode cL_acts 928 = .ok (.ifCond .lt 14, 3) := by decide +kernel
theorem dL_acts_931 : decode cL_acts 931 = .ok (.iload 14, 2) := by decide +kernel
theorem dL_acts_933 : decode cL_acts 933 = .ok (.bipush 64, 2) := by decide +kernel
theorem dL_acts_935 : decode cL_acts 935 = .ok (.if_icmp .ge 7, 3) := by decide +kernel
theorem dL_acts_938 : decode cL_acts 938 = .ok (.iconst 1, 1) := by decide +kernel
theorem dL_acts_939 : decode cL_acts 939 = .ok (.goto 4, 3) := by decide +kernel
theorem dL_acts_942 : decode cL_acts 942 = .ok (.iconst 0, 1) := by decide +kernel
theorem dL_acts_943 : decode cL_acts 943 = .ok (.istore 15, 2) := by decide +kernel
theorem dL_acts_945 : decode cL_acts 945 = .ok (.iload 9, 2) := by decide +kernel
theorem dL_acts_947 : decode cL_acts 947 = .ok (.ifCond .eq 25, 3) := by decide +kernel
theorem dL_acts_950 : decode cL_acts 950 = .ok (.iload 15, 2) := by decide +kernel
theorem dL_acts_952 : decode cL_acts 952 = .ok (.ifCond .eq 20, 3) := by decide +kernel
theorem dL_acts_955 : decode cL_acts 955 = .ok (.aload 5, 2) := by decide +kernel
theorem dL_acts_957 : decode cL_acts 957 = .ok (.iload 8, 2) := by decide +kernel
theorem dL_acts_959 : decode cL_acts 959 = .ok (.lload 12, 2) := by decide +kernel
theorem dL_acts_961 : decode cL_acts 961 = .ok (.l2i, 1) := by decide +kernel
theorem dL_acts_962 : decode cL_acts 962 = .ok (.iastore, 1) := by decide +kernel
theorem dL_acts_963 : decode cL_acts 963 = .ok (.aload 5, 2) := by decide +kernel
theorem dL_acts_965 : decode cL_acts 965 = .ok (.iconst 4, 1) := by decide +kernel
theorem dL_acts_966 : decode cL_acts 966 = .ok (.iload 8, 2) := by decide +kernel
theorem dL_acts_968 : decode cL_acts 968 = .ok (.iadd, 1) := by decide +kernel
theorem dL_acts_969 : decode cL_acts 969 = .ok (.iload 14, 2) := by decide +kernel
theorem dL_acts_971 : decode cL_acts 971 = .ok (.iastore, 1) := by decide +kernel
theorem dL_acts_972 : decode cL_acts 972 = .ok (.aload_n 0, 1) := by decide +kernel
theorem dL_acts_973 : decode cL_acts 973 = .ok (.iload 8, 2) := by decide +kernel
theorem dL_acts_975 : decode cL_acts 975 = .ok (.iload 10, 2) := by decide +kernel
theorem dL_acts_977 : decode cL_acts 977 = .ok (.iload 11, 2) := by decide +kernel
theorem dL_acts_979 : decode cL_acts 979 = .ok (.invokestatic 114, 3) := by decide +kernel
theorem dL_acts_982 : decode cL_acts 982 = .ok (.iload 9, 2) := by decide +kernel
theorem dL_acts_984 : decode cL_acts 984 = .ok (.ifCond .ne 8, 3) := by decide +kernel
theorem dL_acts_987 : decode cL_acts 987 = .ok (.bipush (-101), 2) := by decide +kernel
theorem dL_acts_989 : decode cL_acts 989 = .ok (.goto 14, 3) := by decide +kernel
theorem dL_acts_992 : decode cL_acts 992 = .ok (.iload 15, 2) := by decide +kernel
theorem dL_acts_994 : decode cL_acts 994 = .ok (.ifCond .eq 7, 3) := by decide +kernel
theorem dL_acts_997 : decode cL_acts 997 = .ok (.iconst 0, 1) := by decide +kernel
theorem dL_acts_998 : decode cL_acts 998 = .ok (.goto 5, 3) := by decide +kernel
theorem dL_acts_1001 : decode cL_acts 1001 = .ok (.bipush (-102), 2) := by decide +kernel
theorem dL_acts_1003 : decode cL_acts 1003 = .ok (.if_icmp .ne 7, 3) := by decide +kernel
theorem dL_acts_1006 : decode cL_acts 1006 = .ok (.iconst 1, 1) := by decide +kernel
theorem dL_acts_1007 : decode cL_acts 1007 = .ok (.goto 4, 3) := by decide +kernel
theorem dL_acts_1010 : decode cL_acts 1010 = .ok (.iconst 0, 1) := by decide +kernel
theorem dL_acts_1011 : decode cL_acts 1011 = .ok (.ireturn, 1) := by decide +kernel
theorem dL_acts_1012 : decode cL_acts 1012 = .ok (.iload_n 2, 1) := by decide +kernel
theorem dL_acts_1013 : decode cL_acts 1013 = .ok (.bipush 40, 2) := by decide +kernel
theorem dL_acts_1015 : decode cL_acts 1015 = .ok (.invokestatic 86, 3) := by decide +kernel
theorem dL_acts_1018 : decode cL_acts 1018 = .ok (.ifCond .ne 16, 3) := by decide +kernel
theorem dL_acts_1021 : decode cL_acts 1021 = .ok (.iload_n 2, 1) := by decide +kernel
theorem dL_acts_1022 : decode cL_acts 1022 = .ok (.iconst 3, 1) := by decide +kernel
theorem dL_acts_1023 : decode cL_acts 1023 = .ok (.ishr, 1) := by decide +kernel
theorem dL_acts_1024 : decode cL_acts 1024 = .ok (.iconst 2, 1) := by decide +kernel
theorem dL_acts_1025 : decode cL_acts 1025 = .ok (.invokestatic 86, 3) := by decide +kernel
theorem dL_acts_1028 : decode cL_acts 1028 = .ok (.bipush 21, 2) := by decide +kernel
theorem dL_acts_1030 : decode cL_acts 1030 = .ok (.imul, 1) := by decide +kernel
theorem dL_acts_1031 : decode cL_acts 1031 = .ok (.goto 10, 3) := by decide +kernel
theorem dL_acts_1034 : decode cL_acts 1034 = .ok (.iconst 1, 1) := by decide +kernel
theorem dL_acts_1035 : decode cL_acts 1035 = .ok (.iload_n 2, 1) := by decide +kernel
theorem dL_acts_1036 : decode cL_acts 1036 = .ok (.iconst 3, 1) := by decide +kernel
theorem dL_acts_1037 : decode cL_acts 1037 = .ok (.invokestatic 86, 3) := by decide +kernel
theorem dL_acts_1040 : decode cL_acts 1040 = .ok (.iadd, 1) := by decide +kernel
theorem dL_acts_1041 : decode cL_acts 1041 = .ok (.istore 8, 2) := by decide +kernel
theorem dL_acts_1043 : decode cL_acts 1043 = .ok (.aload_n 3, 1) := by decide +kernel
theorem dL_acts_1044 : decode cL_acts 1044 = .ok (.iconst 3, 1) := by decide +kernel
theorem dL_acts_1045 : decode cL_acts 1045 = .ok (.iaload, 1) := by decide +kernel
theorem dL_acts_1046 : decode cL_acts 1046 = .ok (.istore 9, 2) := by decide +kernel
theorem dL_acts_1048 : decode cL_acts 1048 = .ok (.iconst 0, 1) := by decide +kernel
theorem dL_acts_1049 : decode cL_acts 1049 = .ok (.istore 10, 2) := by decide +kernel
theorem dL_acts_1051 : decode cL_acts 1051 = .ok (.iload 10, 2) := by decide +kernel
theorem dL_acts_1053 : decode cL_acts 1053 = .ok (.iload 8, 2) := by decide +kernel
theorem dL_acts_1055 : decode cL_acts 1055 = .ok (.if_icmp .ge 24, 3) := by decide +kernel
theorem dL_acts_1058 : decode cL_acts 1058 = .ok (.iload 8, 2) := by decide +kernel
theorem dL_acts_1060 : decode cL_acts 1060 = .ok (.bipush 21, 2) := by decide +kernel
theorem dL_acts_1062 : decode cL_acts 1062 = .ok (.if_icmp .ge 17, 3) := by decide +kernel
theorem dL_acts_1065 : decode cL_acts 1065 = .ok (.aload_n 3, 1) := by decide +kernel
theorem dL_acts_1066 : decode cL_acts 1066 = .ok (.aload 4, 2) := by decide +kernel
theorem dL_acts_1068 : decode cL_acts 1068 = .ok (.aload 5, 2) := by decide +kernel
theorem dL_acts_1070 : decode cL_acts 1070 = .ok (.invokestatic 117, 3) := by decide +kernel
theorem dL_acts_1073 : decode cL_acts 1073 = .ok (.iinc 10 1, 3) := by decide +kernel
theorem dL_acts_1076 : decode cL_acts 1076 = .ok (.goto (-25), 3) := by decide +kernel
theorem dL_acts_1079 : decode cL_acts 1079 = .ok (.aload_n 0, 1) := by decide +kernel
theorem dL_acts_1080 : decode cL_acts 1080 = .ok (.iconst 3, 1) := by decide +kernel
theorem dL_acts_1081 : decode cL_acts 1081 = .ok (.iload 8, 2) := by decide +kernel
theorem dL_acts_1083 : decode cL_acts 1083 = .ok (.invokestatic 108, 3) := by decide +kernel
theorem dL_acts_1086 : decode cL_acts 1086 = .ok (.iload 8, 2) := by decide +kernel
theorem dL_acts_1088 : decode cL_acts 1088 = .ok (.ifCond .le 19, 3) := by decide +kernel
theorem dL_acts_1091 : decode cL_acts 1091 = .ok (.iload 8, 2) := by decide +kernel
theorem dL_acts_1093 : decode cL_acts 1093 = .ok (.bipush 21, 2) := by decide +kernel
theorem dL_acts_1095 : decode cL_acts 1095 = .ok (.if_icmp .ge 12, 3) := by decide +kernel
theorem dL_acts_1098 : decode cL_acts 1098 = .ok (.aload_n 3, 1) := by decide +kernel
theorem dL_acts_1099 : decode cL_acts 1099 = .ok (.iconst 3, 1) := by decide +kernel
theorem dL_acts_1100 : decode cL_acts 1100 = .ok (.iaload, 1) := by decide +kernel
theorem dL_acts_1101 : decode cL_acts 1101 = .ok (.iload 9, 2) := by decide +kernel
theorem dL_acts_1103 : decode cL_acts 1103 = .ok (.isub, 1) := by decide +kernel
theorem dL_acts_1104 : decode cL_acts 1104 = .ok (.goto 5, 3) := by decide +kernel
theorem dL_acts_1107 : decode cL_acts 1107 = .ok (.bipush (-101), 2) := by decide +kernel
theorem dL_acts_1109 : decode cL_acts 1109 = .ok (.if_icmp .ne 7, 3) := by decide +kernel
theorem dL_acts_1112 : decode cL_acts 1112 = .ok (.iconst 1, 1) := by decide +kernel
theorem dL_acts_1113 : decode cL_acts 1113 = .ok (.goto 4, 3) := by decide +kernel
theorem dL_acts_1116 : decode cL_acts 1116 = .ok (.iconst 0, 1) := by decide +kernel
theorem dL_acts_1117 : decode cL_acts 1117 = .ok (.ireturn, 1) := by decide +kernel
