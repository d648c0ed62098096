theorem dw_529 : decode code 529 = .ok (.ifCond .ne 15, 3) := by decide +kernel
theorem dw_532 : decode code 532 = .ok (.aload_n 3, 1) := by decide +kernel
theorem dw_533 : decode code 533 = .ok (.iconst 0, 1) := by decide +kernel
theorem dw_534 : decode code 534 = .ok (.laload, 1) := by decide +kernel
theorem dw_535 : decode code 535 = .ok (.iload 6, 2) := by decide +kernel
theorem dw_537 : decode code 537 = .ok (.i2l, 1) := by decide +kernel
theorem dw_538 : decode code 538 = .ok (.lcmp, 1) := by decide +kernel
theorem dw_539 : decode code 539 = .ok (.ifCond .eq 5, 3) := by decide +kernel
theorem dw_542 : decode code 542 = .ok (.iconst 0, 1) := by decide +kernel
theorem dw_543 : decode code 543 = .ok (.ireturn, 1) := by decide +kernel
theorem dw_544 : decode code 544 = .ok (.goto 1157, 3) := by decide +kernel
theorem dw_547 : decode code 547 = .ok (.aload_n 1, 1) := by decide +kernel
theorem dw_548 : decode code 548 = .ok (.aload_n 0, 1) := by decide +kernel
theorem dw_549 : decode code 549 = .ok (.iload 4, 2) := by decide +kernel
theorem dw_551 : decode code 551 = .ok (.iconst 1, 1) := by decide +kernel
theorem dw_552 : decode code 552 = .ok (.iadd, 1) := by decide +kernel
theorem dw_553 : decode code 553 = .ok (.iaload, 1) := by decide +kernel
theorem dw_554 : decode code 554 = .ok (.aload_n 3, 1) := by decide +kernel
theorem dw_555 : decode code 555 = .ok (.invokestatic 117, 3) := by decide +kernel
theorem dw_558 : decode code 558 = .ok (.istore 5, 2) := by decide +kernel
theorem dw_560 : decode code 560 = .ok (.aload_n 2, 1) := by decide +kernel
theorem dw_561 : decode code 561 = .ok (.aload_n 0, 1) := by decide +kernel
theorem dw_562 : decode code 562 = .ok (.iload 4, 2) := by decide +kernel
theorem dw_564 : decode code 564 = .ok (.iconst 1, 1) := by decide +kernel
theorem dw_565 : decode code 565 = .ok (.iadd, 1) := by decide +kernel
theorem dw_566 : decode code 566 = .ok (.iaload, 1) := by decide +kernel
theorem dw_567 : decode code 567 = .ok (.invokevirtual 119, 3) := by decide +kernel
theorem dw_570 : decode code 570 = .ok (.istore 6, 2) := by decide +kernel
theorem dw_572 : decode code 572 = .ok (.aload_n 2, 1) := by decide +kernel
theorem dw_573 : decode code 573 = .ok (.invokevirtual 98, 3) := by decide +kernel
theorem dw_576 : decode code 576 = .ok (.iload 5, 2) := by decide +kernel
theorem dw_578 : decode code 578 = .ok (.if_icmp .eq 5, 3) := by decide +kernel
theorem dw_581 : decode code 581 = .ok (.iconst 0, 1) := by decide +kernel
theorem dw_582 : decode code 582 = .ok (.ireturn, 1) := by decide +kernel
theorem dw_583 : decode code 583 = .ok (.iload 5, 2) := by decide +kernel
theorem dw_585 : decode code 585 = .ok (.ifCond .ne 15, 3) := by decide +kernel
theorem dw_588 : decode code 588 = .ok (.aload_n 3, 1) := by decide +kernel
theorem dw_589 : decode code 589 = .ok (.iconst 0, 1) := by decide +kernel
theorem dw_590 : decode code 590 = .ok (.laload, 1) := by decide +kernel
theorem dw_591 : decode code 591 = .ok (.iload 6, 2) := by decide +kernel
theorem dw_593 : decode code 593 = .ok (.i2l, 1) := by decide +kernel
theorem dw_594 : decode code 594 = .ok (.lcmp, 1) := by decide +kernel
theorem dw_595 : decode code 595 = .ok (.ifCond .eq 5, 3) := by decide +kernel
theorem dw_598 : decode code 598 = .ok (.iconst 0, 1) := by decide +kernel
theorem dw_599 : decode code 599 = .ok (.ireturn, 1) := by decide +kernel
theorem dw_600 : decode code 600 = .ok (.goto 1101, 3) := by decide +kernel
theorem dw_603 : decode code 603 = .ok (.aload_n 1, 1) := by decide +kernel
theorem dw_604 : decode code 604 = .ok (.aload_n 0, 1) := by decide +kernel
theorem dw_605 : decode code 605 = .ok (.iload 4, 2) := by decide +kernel
theorem dw_607 : decode code 607 = .ok (.iconst 1, 1) := by decide +kernel
theorem dw_608 : decode code 608 = .ok (.iadd, 1) := by decide +kernel
theorem dw_609 : decode code 609 = .ok (.iaload, 1) := by decide +kernel
theorem dw_610 : decode code 610 = .ok (.aload_n 0, 1) := by decide +kernel
theorem dw_611 : decode code 611 = .ok (.iload 4, 2) := by decide +kernel
theorem dw_613 : decode code 613 = .ok (.iconst 2, 1) := by decide +kernel
theorem dw_614 : decode code 614 = .ok (.iadd, 1) := by decide +kernel
theorem dw_615 : decode code 615 = .ok (.iaload, 1) := by decide +kernel
theorem dw_616 : decode code 616 = .ok (.aload_n 0, 1) := by decide +kernel
theorem dw_617 : decode code 617 = .ok (.iload 4, 2) := by decide +kernel
theorem dw_619 : decode code 619 = .ok (.iconst 3, 1) := by decide +kernel
theorem dw_620 : decode code 620 = .ok (.iadd, 1) := by decide +kernel
theorem dw_621 : decode code 621 = .ok (.iaload, 1) := by decide +kernel
theorem dw_622 : decode code 622 = .ok (.aload_n 3, 1) := by decide +kernel
theorem dw_623 : decode code 623 = .ok (.invokestatic 120, 3) := by decide +kernel
theorem dw_626 : decode code 626 = .ok (.istore 5, 2) := by decide +kernel
theorem dw_628 : decode code 628 = .ok (.aload_n 2, 1) := by decide +kernel
theorem dw_629 : decode code 629 = .ok (.aload_n 0, 1) := by decide +kernel
theorem dw_630 : decode code 630 = .ok (.iload 4, 2) := by decide +kernel
theorem dw_632 : decode code 632 = .ok (.iconst 1, 1) := by decide +kernel
theorem dw_633 : decode code 633 = .ok (.iadd, 1) := by decide +kernel
theorem dw_634 : decode code 634 = .ok (.iaload, 1) := by decide +kernel
theorem dw_635 : decode code 635 = .ok (.aload_n 0, 1) := by decide +kernel
theorem dw_636 : decode code 636 = .ok (.iload 4, 2) := by decide +kernel
theorem dw_638 : decode code 638 = .ok (.iconst 2, 1) := by decide +kernel
theorem dw_639 : decode code 639 = .ok (.iadd, 1) := by decide +kernel
theorem dw_640 : decode code 640 = .ok (.iaload, 1) := by decide +kernel
theorem dw_641 : decode code 641 = .ok (.aload_n 0, 1) := by decide +kernel
theorem dw_642 : decode code 642 = .ok (.iload 4, 2) := by decide +kernel
theorem dw_644 : decode code 644 = .ok (.iconst 3, 1) := by decide +kernel
theorem dw_645 : decode code 645 = .ok (.iadd, 1) := by decide +kernel
theorem dw_646 : decode code 646 = .ok (.iaload, 1) := by decide +kernel
theorem dw_647 : decode code 647 = .ok (.invokevirtual 123, 3) := by decide +kernel
theorem dw_650 : decode code 650 = .ok (.istore 6, 2) := by decide +kernel
theorem dw_652 : decode code 652 = .ok (.aload_n 2, 1) := by decide +kernel
theorem dw_653 : decode code 653 = .ok (.invokevirtual 98, 3) := by decide +kernel
theorem dw_656 : decode code 656 = .ok (.iload 5, 2) := by decide +kernel
theorem dw_658 : decode code 658 = .ok (.if_icmp .eq 5, 3) := by decide +kernel
theorem dw_661 : decode code 661 = .ok (.iconst 0, 1) := by decide +kernel
theorem dw_662 : decode code 662 = .ok (.ireturn, 1) := by decide +kernel
theorem dw_663 : decode code 663 = .ok (.iload 5, 2) := by decide +kernel
theorem dw_665 : decode code 665 = .ok (.ifCond .ne 15, 3) := by decide +kernel
theorem dw_668 : decode code 668 = .ok (.aload_n 3, 1) := by decide +kernel
theorem dw_669 : decode code 669 = .ok (.iconst 0, 1) := by decide +kernel
theorem dw_670 : decode code 670 = .ok (.laload, 1) := by decide +kernel
theorem dw_671 : decode code 671 = .ok (.iload 6, 2) := by decide +kernel
theorem dw_673 : decode code 673 = .ok (.i2l, 1) := by decide +kernel
theorem dw_674 : decode code 674 = .ok (.lcmp, 1) := by decide +kernel
theorem dw_675 : decode code 675 = .ok (.ifCond .eq 5, 3) := by decide +kernel
theorem dw_678 : decode code 678 = .ok (.iconst 0, 1) := by decide +kernel
theorem dw_679 : decode code 679 = .ok (.ireturn, 1) := by decide +kernel
theorem dw_680 : decode code 680 = .ok (.goto 1021, 3) := by decide +kernel
theorem dw_683 : decode code 683 = .ok (.aload_n 1, 1) := by decide +kernel
theorem dw_684 : decode code 684 = .ok (.aload_n 0, 1) := by decide +kernel
theorem dw_685 : decode code 685 = .ok (.iload 4, 2) := by decide +kernel
theorem dw_687 : decode code 687 = .ok (.iconst 1, 1) := by decide +kernel
theorem dw_688 : decode code 688 = .ok (.iadd, 1) := by decide +kernel
theorem dw_689 : decode code 689 = .ok (.iaload, 1) := by decide +kernel
theorem dw_690 : decode code 690 = .ok (.aload_n 3, 1) := by decide +kernel
theorem dw_691 : decode code 691 = .ok (.invokestatic 124, 3) := by decide +kernel
theorem dw_694 : decode code 694 = .ok (.istore 5, 2) := by decide +kernel
theorem dw_696 : decode code 696 = .ok (.aload_n 2, 1) := by decide +kernel
theorem dw_697 : decode code 697 = .ok (.aload_n 0, 1) := by decide +kernel
theorem dw_698 : decode code 698 = .ok (.iload 4, 2) := by decide +kernel
theorem dw_700 : decode code 700 = .ok (.iconst 1, 1) := by decide +kernel
theorem dw_701 : decode code 701 = .ok (.iadd, 1) := by decide +kernel
theorem dw_702 : decode code 702 = .ok (.iaload, 1) := by decide +kernel
theorem dw_703 : decode code 703 = .ok (.invokevirtual 126, 3) := by decide +kernel
theorem dw_706 : decode code 706 = .ok (.istore 6, 2) := by decide +kernel
theorem dw_708 : decode code 708 = .ok (.aload_n 2, 1) := by decide +kernel
theorem dw_709 : decode code 709 = .ok (.invokevirtual 98, 3) := by decide +kernel
theorem dw_712 : decode code 712 = .ok (.iload 5, 2) := by decide +kernel
theorem dw_714 : decode code 714 = .ok (.if_icmp .eq 5, 3) := by decide +kernel
theorem dw_717 : decode code 717 = .ok (.iconst 0, 1) := by decide +kernel
theorem dw_718 : decode code 718 = .ok (.ireturn, 1) := by decide +kernel
theorem dw_719 : decode code 719 = .ok (.iload 5, 2) := by decide +kernel
theorem dw_721 : decode code 721 = .ok (.ifCond .ne 15, 3) := by decide +kernel
theorem dw_724 : decode code 724 = .ok (.aload_n 3, 1) := by decide +kernel
theorem dw_725 : decode code 725 = .ok (.iconst 0, 1) := by decide +kernel
theorem dw_726 : decode code 726 = .ok (.laload, 1) := by decide +kernel
theorem dw_727 : decode code 727 = .ok (.iload 6, 2) := by decide +kernel
theorem dw_729 : decode code 729 = .ok (.i2l, 1) := by decide +kernel
theorem dw_730 : decode code 730 = .ok (.lcmp, 1) := by decide +kernel
theorem dw_731 : decode code 731 = .ok (.ifCond .eq 5, 3) := by decide +kernel
theorem dw_734 : decode code 734 = .ok (.iconst 0, 1) := by decide +kernel
theorem dw_735 : decode code 735 = .ok (.ireturn, 1) := by decide +kernel
theorem dw_736 : decode code 736 = .ok (.goto 965, 3) := by decide +kernel
theorem dw_739 : decode code 739 = .ok (.aload_n 1, 1) := by decide +kernel
theorem dw_740 : decode code 740 = .ok (.invokevirtual 127, 3) := by decide +kernel
theorem dw_743 : decode code 743 = .ok (.aload_n 2, 1) := by decide +kernel
theorem dw_744 : decode code 744 = .ok (.invokevirtual 130, 3) := by decide +kernel
theorem dw_747 : decode code 747 = .ok (.if_icmp .eq 954, 3) := by decide +kernel
theorem dw_750 : decode code 750 = .ok (.iconst 0, 1) := by decide +kernel
theorem dw_751 : decode code 751 = .ok (.ireturn, 1) := by decide +kernel
theorem dw_752 : decode code 752 = .ok (.aload_n 1, 1) := by decide +kernel
theorem dw_753 : decode code 753 = .ok (.aload_n 0, 1) := by decide +kernel
theorem dw_754 : decode code 754 = .ok (.iload 4, 2) := by decide +kernel
theorem dw_756 : decode code 756 = .ok (.iconst 1, 1) := by decide +kernel
theorem dw_757 : decode code 757 = .ok (.iadd, 1) := by decide +kernel
theorem dw_758 : decode code 758 = .ok (.iaload, 1) := by decide +kernel
theorem dw_759 : decode code 759 = .ok (.aload_n 3, 1) := by decide +kernel
theorem dw_760 : decode code 760 = .ok (.invokestatic 131, 3) := by decide +kernel
theorem dw_763 : decode code 763 = .ok (.istore 5, 2) := by decide +kernel
theorem dw_765 : decode code 765 = .ok (.aload_n 2, 1) := by decide +kernel
theorem dw_766 : decode code 766 = .ok (.aload_n 0, 1) := by decide +kernel
theorem dw_767 : decode code 767 = .ok (.iload 4, 2) := by decide +kernel
theorem dw_769 : decode code 769 = .ok (.iconst 1, 1) := by decide +kernel
theorem dw_770 : decode code 770 = .ok (.iadd, 1) := by decide +kernel
theorem dw_771 : decode code 771 = .ok (.iaload, 1) := by decide +kernel
theorem dw_772 : decode code 772 = .ok (.invokevirtual 133, 3) := by decide +kernel
theorem dw_775 : decode code 775 = .ok (.istore 6, 2) := by decide +kernel
theorem dw_777 : decode code 777 = .ok (.aload_n 2, 1) := by decide +kernel
theorem dw_778 : decode code 778 = .ok (.invokevirtual 98, 3) := by decide +kernel
theorem dw_781 : decode code 781 = .ok (.iload 5, 2) := by decide +kernel
theorem dw_783 : decode code 783 = .ok (.if_icmp .eq 5, 3) := by decide +kernel
theorem dw_786 : decode code 786 = .ok (.iconst 0, 1) := by decide +kernel
theorem dw_787 : decode code 787 = .ok (.ireturn, 1) := by decide +kernel
theorem dw_788 : decode code 788 = .ok (.iload 5, 2) := by decide +kernel
theorem dw_790 : decode code 790 = .ok (.ifCond .ne 15, 3) := by decide +kernel
theorem dw_793 : decode code 793 = .ok (.aload_n 3, 1) := by decide +kernel
theorem dw_794 : decode code 794 = .ok (.iconst 0, 1) := by decide +kernel
theorem dw_795 : decode code 795 = .ok (.laload, 1) := by decide +kernel
theorem dw_796 : decode code 796 = .ok (.iload 6, 2) := by decide +kernel
theorem dw_798 : decode code 798 = .ok (.i2l, 1) := by decide +kernel
theorem dw_799 : decode code 799 = .ok (.lcmp, 1) := by decide +kernel
theorem dw_800 : decode code 800 = .ok (.ifCond .eq 5, 3) := by decide +kernel
theorem dw_803 : decode code 803 = .ok (.iconst 0, 1) := by decide +kernel
theorem dw_804 : decode code 804 = .ok (.ireturn, 1) := by decide +kernel
theorem dw_805 : decode code 805 = .ok (.goto 896, 3) := by decide +kernel
theorem dw_808 : decode code 808 = .ok (.aload_n 1, 1) := by decide +kernel
theorem dw_809 : decode code 809 = .ok (.invokevirtual 134, 3) := by decide +kernel
theorem dw_812 : decode code 812 = .ok (.aload_n 2, 1) := by decide +kernel
theorem dw_813 : decode code 813 = .ok (.invokevirtual 137, 3) := by decide +kernel
theorem dw_816 : decode code 816 = .ok (.if_icmp .eq 885, 3) := by decide +kernel
theorem dw_819 : decode code 819 = .ok (.iconst 0, 1) := by decide +kernel
theorem dw_820 : decode code 820 = .ok (.ireturn, 1) := by decide +kernel
theorem dw_821 : decode code 821 = .ok (.aload_n 1, 1) := by decide +kernel
theorem dw_822 : decode code 822 = .ok (.invokevirtual 138, 3) := by decide +kernel
theorem dw_825 : decode code 825 = .ok (.aload_n 2, 1) := by decide +kernel
theorem dw_826 : decode code 826 = .ok (.invokevirtual 141, 3) := by decide +kernel
theorem dw_829 : decode code 829 = .ok (.if_icmp .eq 872, 3) := by decide +kernel
theorem dw_832 : decode code 832 = .ok (.iconst 0, 1) := by decide +kernel
theorem dw_833 : decode code 833 = .ok (.ireturn, 1) := by decide +kernel
theorem dw_834 : decode code 834 = .ok (.aload_n 1, 1) := by decide +kernel
theorem dw_835 : decode code 835 = .ok (.aload_n 0, 1) := by decide +kernel
theorem dw_836 : decode code 836 = .ok (.iload 4, 2) := by decide +kernel
theorem dw_838 : decode code 838 = .ok (.iconst 1, 1) := by decide +kernel
theorem dw_839 : decode code 839 = .ok (.iadd, 1) := by decide +kernel
theorem dw_840 : decode code 840 = .ok (.iaload, 1) := by decide +kernel
theorem dw_841 : decode code 841 = .ok (.aload_n 3, 1) := by decide +kernel
theorem dw_842 : decode code 842 = .ok (.invokestatic 142, 3) := by decide +kernel
theorem dw_845 : decode code 845 = .ok (.istore 5, 2) := by decide +kernel
theorem dw_847 : decode code 847 = .ok (.aload_n 2, 1) := by decide +kernel
theorem dw_848 : decode code 848 = .ok (.aload_n 0, 1) := by decide +kernel
theorem dw_849 : decode code 849 = .ok (.iload 4, 2) := by decide +kernel
theorem dw_851 : decode code 851 = .ok (.iconst 1, 1) := by decide +kernel
theorem dw_852 : decode code 852 = .ok (.iadd, 1) := by decide +kernel
theorem dw_853 : decode code 853 = .ok (.iaload, 1) := by decide +kernel
theorem dw_854 : decode code 854 = .ok (.invokevirtual 144, 3) := by decide +kernel
theorem dw_857 : decode code 857 = .ok (.istore 6, 2) := by decide +kernel
theorem dw_859 : decode code 859 = .ok (.aload_n 2, 1) := by decide +kernel
theorem dw_860 : decode code 860 = .ok (.invokevirtual 98, 3) := by decide +kernel
theorem dw_863 : decode code 863 = .ok (.iload 5, 2) := by decide +kernel
theorem dw_865 : decode code 865 = .ok (.if_icmp .eq 5, 3) := by decide +kernel
theorem dw_868 : decode code 868 = .ok (.iconst 0, 1) := by decide +kernel
theorem dw_869 : decode code 869 = .ok (.ireturn, 1) := by decide +kernel
theorem dw_870 : decode code 870 = .ok (.iload 5, 2) := by decide +kernel
theorem dw_872 : decode code 872 = .ok (.ifCond .ne 15, 3) := by decide +kernel
theorem dw_875 : decode code 875 = .ok (.aload_n 3, 1) := by decide +kernel
theorem dw_876 : decode code 876 = .ok (.iconst 0, 1) := by decide +kernel
theorem dw_877 : decode code 877 = .ok (.laload, 1) := by decide +kernel
theorem dw_878 : decode code 878 = .ok (.iload 6, 2) := by decide +kernel
theorem dw_880 : decode code 880 = .ok (.i2l, 1) := by decide +kernel
theorem dw_881 : decode code 881 = .ok (.lcmp, 1) := by decide +kernel
theorem dw_882 : decode code 882 = .ok (.ifCond .eq 5, 3) := by decide +kernel
theorem dw_885 : decode code 885 = .ok (.iconst 0, 1) := by decide +kernel
theorem dw_886 : decode code 886 = .ok (.ireturn, 1) := by decide +kernel
theorem dw_887 : decode code 887 = .ok (.goto 814, 3) := by decide +kernel
theorem dw_890 : decode code 890 = .ok (.aload_n 1, 1) := by decide +kernel
theorem dw_891 : decode code 891 = .ok (.aload_n 0, 1) := by decide +kernel
theorem dw_892 : decode code 892 = .ok (.iload 4, 2) := by decide +kernel
theorem dw_894 : decode code 894 = .ok (.iconst 1, 1) := by decide +kernel
theorem dw_895 : decode code 895 = .ok (.iadd, 1) := by decide +kernel
theorem dw_896 : decode code 896 = .ok (.iaload, 1) := by decide +kernel
theorem dw_897 : decode code 897 = .ok (.aload_n 3, 1) := by decide +kernel
theorem dw_898 : decode code 898 = .ok (.invokestatic 145, 3) := by decide +kernel
theorem dw_901 : decode code 901 = .ok (.istore 5, 2) := by decide +kernel
theorem dw_903 : decode code 903 = .ok (.aload_n 2, 1) := by decide +kernel
theorem dw_904 : decode code 904 = .ok (.aload_n 0, 1) := by decide +kernel
theorem dw_905 : decode code 905 = .ok (.iload 4, 2) := by decide +kernel
theorem dw_907 : decode code 907 = .ok (.iconst 1, 1) := by decide +kernel
theorem dw_908 : decode code 908 = .ok (.iadd, 1) := by decide +kernel
theorem dw_909 : decode code 909 = .ok (.iaload, 1) := by decide +kernel
theorem dw_910 : decode code 910 = .ok (.invokevirtual 147, 3) := by decide +kernel
theorem dw_913 : decode code 913 = .ok (.istore 6, 2) := by decide +kernel
theorem dw_915 : decode code 915 = .ok (.aload_n 2, 1) := by decide +kernel
theorem dw_916 : decode code 916 = .ok (.invokevirtual 98, 3) := by decide +kernel
theorem dw_919 : decode code 919 = .ok (.iload 5, 2) := by decide +kernel
theorem dw_921 : decode code 921 = .ok (.if_icmp .eq 5, 3) := by decide +kernel
theorem dw_924 : decode code 924 = .ok (.iconst 0, 1) := by decide +kernel
theorem dw_925 : decode code 925 = .ok (.ireturn, 1) := by decide +kernel
theorem dw_926 : decode code 926 = .ok (.iload 5, 2) := by decide +kernel
theorem dw_928 : decode code 928 = .ok (.ifCond .ne 22, 3) := by decide +kernel
theorem dw_931 : decode code 931 = .ok (.aload_n 3, 1) := by decide +kernel
theorem dw_932 : decode code 932 = .ok (.iconst 0, 1) := by decide +kernel
theorem dw_933 : decode code 933 = .ok (.laload, 1) := by decide +kernel
theorem dw_934 : decode code 934 = .ok (.iload 6, 2) := by decide +kernel
theorem dw_936 : decode code 936 = .ok (.ifCond .eq 7, 3) := by decide +kernel
theorem dw_939 : decode code 939 = .ok (.lconst 1, 1) := by decide +kernel
theorem dw_940 : decode code 940 = .ok (.goto 4, 3) := by decide +kernel
theorem dw_943 : decode code 943 = .ok (.lconst 0, 1) := by decide +kernel
