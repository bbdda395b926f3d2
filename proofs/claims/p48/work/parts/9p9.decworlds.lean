theorem dL_worlds_555 : decode cL_worlds 555 = .ok (.ifCond .eq 197, 3) := by decide +kernel
theorem dL_worlds_558 : decode cL_worlds 558 = .ok (.aload_n 0, 1) := by decide +kernel
theorem dL_worlds_559 : decode cL_worlds 559 = .ok (.bipush 18, 2) := by decide +kernel
theorem dL_worlds_561 : decode cL_worlds 561 = .ok (.iconst 0, 1) := by decide +kernel
theorem dL_worlds_562 : decode cL_worlds 562 = .ok (.invokevirtual 76, 3) := by decide +kernel
theorem dL_worlds_565 : decode cL_worlds 565 = .ok (.bipush 40, 2) := by decide +kernel
theorem dL_worlds_567 : decode cL_worlds 567 = .ok (.if_icmp .ne 185, 3) := by decide +kernel
theorem dL_worlds_570 : decode cL_worlds 570 = .ok (.aload_n 0, 1) := by decide +kernel
theorem dL_worlds_571 : decode cL_worlds 571 = .ok (.invokevirtual 149, 3) := by decide +kernel
theorem dL_worlds_574 : decode cL_worlds 574 = .ok (.iconst 3, 1) := by decide +kernel
theorem dL_worlds_575 : decode cL_worlds 575 = .ok (.if_icmp .ne 177, 3) := by decide +kernel
theorem dL_worlds_578 : decode cL_worlds 578 = .ok (.aload_n 0, 1) := by decide +kernel
theorem dL_worlds_579 : decode cL_worlds 579 = .ok (.invokevirtual 185, 3) := by decide +kernel
theorem dL_worlds_582 : decode cL_worlds 582 = .ok (.iconst 2, 1) := by decide +kernel
theorem dL_worlds_583 : decode cL_worlds 583 = .ok (.if_icmp .ne 169, 3) := by decide +kernel
theorem dL_worlds_586 : decode cL_worlds 586 = .ok (.aload_n 0, 1) := by decide +kernel
theorem dL_worlds_587 : decode cL_worlds 587 = .ok (.iconst 1, 1) := by decide +kernel
theorem dL_worlds_588 : decode cL_worlds 588 = .ok (.invokestatic 198, 3) := by decide +kernel
theorem dL_worlds_591 : decode cL_worlds 591 = .ok (.iconst 3, 1) := by decide +kernel
theorem dL_worlds_592 : decode cL_worlds 592 = .ok (.if_icmp .ne 160, 3) := by decide +kernel
theorem dL_worlds_595 : decode cL_worlds 595 = .ok (.aload_n 0, 1) := by decide +kernel
theorem dL_worlds_596 : decode cL_worlds 596 = .ok (.iconst 1, 1) := by decide +kernel
theorem dL_worlds_597 : decode cL_worlds 597 = .ok (.iconst 0, 1) := by decide +kernel
theorem dL_worlds_598 : decode cL_worlds 598 = .ok (.invokevirtual 95, 3) := by decide +kernel
theorem dL_worlds_601 : decode cL_worlds 601 = .ok (.sipush 202, 3) := by decide +kernel
theorem dL_worlds_604 : decode cL_worlds 604 = .ok (.if_icmp .ne 148, 3) := by decide +kernel
theorem dL_worlds_607 : decode cL_worlds 607 = .ok (.aload_n 0, 1) := by decide +kernel
theorem dL_worlds_608 : decode cL_worlds 608 = .ok (.iconst 1, 1) := by decide +kernel
theorem dL_worlds_609 : decode cL_worlds 609 = .ok (.iconst 1, 1) := by decide +kernel
theorem dL_worlds_610 : decode cL_worlds 610 = .ok (.invokevirtual 95, 3) := by decide +kernel
theorem dL_worlds_613 : decode cL_worlds 613 = .ok (.bipush 118, 2) := by decide +kernel
theorem dL_worlds_615 : decode cL_worlds 615 = .ok (.if_icmp .ne 137, 3) := by decide +kernel
theorem dL_worlds_618 : decode cL_worlds 618 = .ok (.aload_n 0, 1) := by decide +kernel
theorem dL_worlds_619 : decode cL_worlds 619 = .ok (.iconst 1, 1) := by decide +kernel
theorem dL_worlds_620 : decode cL_worlds 620 = .ok (.iconst 2, 1) := by decide +kernel
theorem dL_worlds_621 : decode cL_worlds 621 = .ok (.invokevirtual 95, 3) := by decide +kernel
theorem dL_worlds_624 : decode cL_worlds 624 = .ok (.sipush 418, 3) := by decide +kernel
theorem dL_worlds_627 : decode cL_worlds 627 = .ok (.if_icmp .ne 125, 3) := by decide +kernel
theorem dL_worlds_630 : decode cL_worlds 630 = .ok (.aload_n 0, 1) := by decide +kernel
theorem dL_worlds_631 : decode cL_worlds 631 = .ok (.iconst 0, 1) := by decide +kernel
theorem dL_worlds_632 : decode cL_worlds 632 = .ok (.invokevirtual 112, 3) := by decide +kernel
theorem dL_worlds_635 : decode cL_worlds 635 = .ok (.sipush 202, 3) := by decide +kernel
theorem dL_worlds_638 : decode cL_worlds 638 = .ok (.if_icmp .ne 114, 3) := by decide +kernel
theorem dL_worlds_641 : decode cL_worlds 641 = .ok (.aload_n 0, 1) := by decide +kernel
theorem dL_worlds_642 : decode cL_worlds 642 = .ok (.iconst 2, 1) := by decide +kernel
theorem dL_worlds_643 : decode cL_worlds 643 = .ok (.bipush 20, 2) := by decide +kernel
theorem dL_worlds_645 : decode cL_worlds 645 = .ok (.bipush 21, 2) := by decide +kernel
theorem dL_worlds_647 : decode cL_worlds 647 = .ok (.bipush 40, 2) := by decide +kernel
theorem dL_worlds_649 : decode cL_worlds 649 = .ok (.iconst 0, 1) := by decide +kernel
theorem dL_worlds_650 : decode cL_worlds 650 = .ok (.invokestatic 191, 3) := by decide +kernel
theorem dL_worlds_653 : decode cL_worlds 653 = .ok (.ifCond .eq 99, 3) := by decide +kernel
theorem dL_worlds_656 : decode cL_worlds 656 = .ok (.aload_n 0, 1) := by decide +kernel
theorem dL_worlds_657 : decode cL_worlds 657 = .ok (.iconst 0, 1) := by decide +kernel
theorem dL_worlds_658 : decode cL_worlds 658 = .ok (.bipush 21, 2) := by decide +kernel
theorem dL_worlds_660 : decode cL_worlds 660 = .ok (.bipush 40, 2) := by decide +kernel
theorem dL_worlds_662 : decode cL_worlds 662 = .ok (.iconst 0, 1) := by decide +kernel
theorem dL_worlds_663 : decode cL_worlds 663 = .ok (.invokestatic 195, 3) := by decide +kernel
theorem dL_worlds_666 : decode cL_worlds 666 = .ok (.ifCond .eq 86, 3) := by decide +kernel
theorem dL_worlds_669 : decode cL_worlds 669 = .ok (.aload_n 0, 1) := by decide +kernel
theorem dL_worlds_670 : decode cL_worlds 670 = .ok (.iconst 0, 1) := by decide +kernel
theorem dL_worlds_671 : decode cL_worlds 671 = .ok (.invokevirtual 112, 3) := by decide +kernel
theorem dL_worlds_674 : decode cL_worlds 674 = .ok (.bipush 118, 2) := by decide +kernel
theorem dL_worlds_676 : decode cL_worlds 676 = .ok (.if_icmp .ne 76, 3) := by decide +kernel
theorem dL_worlds_679 : decode cL_worlds 679 = .ok (.aload_n 0, 1) := by decide +kernel
theorem dL_worlds_680 : decode cL_worlds 680 = .ok (.bipush 18, 2) := by decide +kernel
theorem dL_worlds_682 : decode cL_worlds 682 = .ok (.sipush 200, 3) := by decide +kernel
theorem dL_worlds_685 : decode cL_worlds 685 = .ok (.bipush 40, 2) := by decide +kernel
theorem dL_worlds_687 : decode cL_worlds 687 = .ok (.bipush 9, 2) := by decide +kernel
theorem dL_worlds_689 : decode cL_worlds 689 = .ok (.iconst 0, 1) := by decide +kernel
theorem dL_worlds_690 : decode cL_worlds 690 = .ok (.invokestatic 191, 3) := by decide +kernel
theorem dL_worlds_693 : decode cL_worlds 693 = .ok (.ifCond .eq 59, 3) := by decide +kernel
theorem dL_worlds_696 : decode cL_worlds 696 = .ok (.aload_n 0, 1) := by decide +kernel
theorem dL_worlds_697 : decode cL_worlds 697 = .ok (.iconst 1, 1) := by decide +kernel
theorem dL_worlds_698 : decode cL_worlds 698 = .ok (.iconst 2, 1) := by decide +kernel
theorem dL_worlds_699 : decode cL_worlds 699 = .ok (.bipush 77, 2) := by decide +kernel
theorem dL_worlds_701 : decode cL_worlds 701 = .ok (.iconst 0, 1) := by decide +kernel
theorem dL_worlds_702 : decode cL_worlds 702 = .ok (.invokestatic 195, 3) := by decide +kernel
theorem dL_worlds_705 : decode cL_worlds 705 = .ok (.ifCond .eq 47, 3) := by decide +kernel
theorem dL_worlds_708 : decode cL_worlds 708 = .ok (.aload_n 0, 1) := by decide +kernel
theorem dL_worlds_709 : decode cL_worlds 709 = .ok (.invokevirtual 188, 3) := by decide +kernel
theorem dL_worlds_712 : decode cL_worlds 712 = .ok (.ifCond .eq 40, 3) := by decide +kernel
theorem dL_worlds_715 : decode cL_worlds 715 = .ok (.aload_n 0, 1) := by decide +kernel
theorem dL_worlds_716 : decode cL_worlds 716 = .ok (.iconst 0, 1) := by decide +kernel
theorem dL_worlds_717 : decode cL_worlds 717 = .ok (.invokevirtual 112, 3) := by decide +kernel
theorem dL_worlds_720 : decode cL_worlds 720 = .ok (.sipush 418, 3) := by decide +kernel
theorem dL_worlds_723 : decode cL_worlds 723 = .ok (.if_icmp .ne 29, 3) := by decide +kernel
theorem dL_worlds_726 : decode cL_worlds 726 = .ok (.aload_n 0, 1) := by decide +kernel
theorem dL_worlds_727 : decode cL_worlds 727 = .ok (.invokevirtual 188, 3) := by decide +kernel
theorem dL_worlds_730 : decode cL_worlds 730 = .ok (.ifCond .ne 22, 3) := by decide +kernel
theorem dL_worlds_733 : decode cL_worlds 733 = .ok (.aload_n 0, 1) := by decide +kernel
theorem dL_worlds_734 : decode cL_worlds 734 = .ok (.iconst 1, 1) := by decide +kernel
theorem dL_worlds_735 : decode cL_worlds 735 = .ok (.iconst 1, 1) := by decide +kernel
theorem dL_worlds_736 : decode cL_worlds 736 = .ok (.invokevirtual 121, 3) := by decide +kernel
theorem dL_worlds_739 : decode cL_worlds 739 = .ok (.iconst (-1), 1) := by decide +kernel
theorem dL_worlds_740 : decode cL_worlds 740 = .ok (.if_icmp .ne 12, 3) := by decide +kernel
theorem dL_worlds_743 : decode cL_worlds 743 = .ok (.aload_n 0, 1) := by decide +kernel
theorem dL_worlds_744 : decode cL_worlds 744 = .ok (.invokevirtual 143, 3) := by decide +kernel
theorem dL_worlds_747 : decode cL_worlds 747 = .ok (.bipush 7, 2) := by decide +kernel
theorem dL_worlds_749 : decode cL_worlds 749 = .ok (.if_icmp .eq 5, 3) := by decide +kernel
theorem dL_worlds_752 : decode cL_worlds 752 = .ok (.iconst 0, 1) := by decide +kernel
theorem dL_worlds_753 : decode cL_worlds 753 = .ok (.ireturn, 1) := by decide +kernel
theorem dL_worlds_754 : decode cL_worlds 754 = .ok (.aload_n 0, 1) := by decide +kernel
theorem dL_worlds_755 : decode cL_worlds 755 = .ok (.iconst 0, 1) := by decide +kernel
theorem dL_worlds_756 : decode cL_worlds 756 = .ok (.invokevirtual 73, 3) := by decide +kernel
theorem dL_worlds_759 : decode cL_worlds 759 = .ok (.iconst 1, 1) := by decide +kernel
theorem dL_worlds_760 : decode cL_worlds 760 = .ok (.if_icmp .ne 314, 3) := by decide +kernel
theorem dL_worlds_763 : decode cL_worlds 763 = .ok (.aload_n 0, 1) := by decide +kernel
theorem dL_worlds_764 : decode cL_worlds 764 = .ok (.invokevirtual 143, 3) := by decide +kernel
theorem dL_worlds_767 : decode cL_worlds 767 = .ok (.bipush 8, 2) := by decide +kernel
theorem dL_worlds_769 : decode cL_worlds 769 = .ok (.if_icmp .ne 305, 3) := by decide +kernel
theorem dL_worlds_772 : decode cL_worlds 772 = .ok (.aload_n 0, 1) := by decide +kernel
theorem dL_worlds_773 : decode cL_worlds 773 = .ok (.iconst 2, 1) := by decide +kernel
theorem dL_worlds_774 : decode cL_worlds 774 = .ok (.bipush 10, 2) := by decide +kernel
theorem dL_worlds_776 : decode cL_worlds 776 = .ok (.bipush 80, 2) := by decide +kernel
theorem dL_worlds_778 : decode cL_worlds 778 = .ok (.bipush 42, 2) := by decide +kernel
theorem dL_worlds_780 : decode cL_worlds 780 = .ok (.iconst 0, 1) := by decide +kernel
theorem dL_worlds_781 : decode cL_worlds 781 = .ok (.invokestatic 191, 3) := by decide +kernel
theorem dL_worlds_784 : decode cL_worlds 784 = .ok (.ifCond .eq 290, 3) := by decide +kernel
theorem dL_worlds_787 : decode cL_worlds 787 = .ok (.aload_n 0, 1) := by decide +kernel
theorem dL_worlds_788 : decode cL_worlds 788 = .ok (.iconst 0, 1) := by decide +kernel
theorem dL_worlds_789 : decode cL_worlds 789 = .ok (.bipush 80, 2) := by decide +kernel
theorem dL_worlds_791 : decode cL_worlds 791 = .ok (.bipush 42, 2) := by decide +kernel
theorem dL_worlds_793 : decode cL_worlds 793 = .ok (.iconst 0, 1) := by decide +kernel
theorem dL_worlds_794 : decode cL_worlds 794 = .ok (.invokestatic 195, 3) := by decide +kernel
theorem dL_worlds_797 : decode cL_worlds 797 = .ok (.ifCond .eq 277, 3) := by decide +kernel
theorem dL_worlds_800 : decode cL_worlds 800 = .ok (.aload_n 0, 1) := by decide +kernel
theorem dL_worlds_801 : decode cL_worlds 801 = .ok (.iconst 2, 1) := by decide +kernel
theorem dL_worlds_802 : decode cL_worlds 802 = .ok (.iconst 0, 1) := by decide +kernel
theorem dL_worlds_803 : decode cL_worlds 803 = .ok (.invokevirtual 76, 3) := by decide +kernel
theorem dL_worlds_806 : decode cL_worlds 806 = .ok (.ifCond .ne 268, 3) := by decide +kernel
theorem dL_worlds_809 : decode cL_worlds 809 = .ok (.aload_n 0, 1) := by decide +kernel
theorem dL_worlds_810 : decode cL_worlds 810 = .ok (.iconst 2, 1) := by decide +kernel
theorem dL_worlds_811 : decode cL_worlds 811 = .ok (.iconst 1, 1) := by decide +kernel
theorem dL_worlds_812 : decode cL_worlds 812 = .ok (.invokevirtual 76, 3) := by decide +kernel
theorem dL_worlds_815 : decode cL_worlds 815 = .ok (.bipush 42, 2) := by decide +kernel
theorem dL_worlds_817 : decode cL_worlds 817 = .ok (.if_icmp .ne 257, 3) := by decide +kernel
theorem dL_worlds_820 : decode cL_worlds 820 = .ok (.aload_n 0, 1) := by decide +kernel
theorem dL_worlds_821 : decode cL_worlds 821 = .ok (.bipush 18, 2) := by decide +kernel
theorem dL_worlds_823 : decode cL_worlds 823 = .ok (.iconst 0, 1) := by decide +kernel
theorem dL_worlds_824 : decode cL_worlds 824 = .ok (.invokevirtual 76, 3) := by decide +kernel
theorem dL_worlds_827 : decode cL_worlds 827 = .ok (.bipush 40, 2) := by decide +kernel
theorem dL_worlds_829 : decode cL_worlds 829 = .ok (.if_icmp .ne 245, 3) := by decide +kernel
theorem dL_worlds_832 : decode cL_worlds 832 = .ok (.aload_n 0, 1) := by decide +kernel
theorem dL_worlds_833 : decode cL_worlds 833 = .ok (.invokevirtual 149, 3) := by decide +kernel
theorem dL_worlds_836 : decode cL_worlds 836 = .ok (.ifCond .ne 238, 3) := by decide +kernel
theorem dL_worlds_839 : decode cL_worlds 839 = .ok (.aload_n 0, 1) := by decide +kernel
theorem dL_worlds_840 : decode cL_worlds 840 = .ok (.iconst 1, 1) := by decide +kernel
theorem dL_worlds_841 : decode cL_worlds 841 = .ok (.iconst 0, 1) := by decide +kernel
theorem dL_worlds_842 : decode cL_worlds 842 = .ok (.bipush 10, 2) := by decide +kernel
theorem dL_worlds_844 : decode cL_worlds 844 = .ok (.invokevirtual 70, 3) := by decide +kernel
theorem dL_worlds_847 : decode cL_worlds 847 = .ok (.bipush 10, 2) := by decide +kernel
theorem dL_worlds_849 : decode cL_worlds 849 = .ok (.if_icmp .ne 225, 3) := by decide +kernel
theorem dL_worlds_852 : decode cL_worlds 852 = .ok (.aload_n 0, 1) := by decide +kernel
theorem dL_worlds_853 : decode cL_worlds 853 = .ok (.bipush 18, 2) := by decide +kernel
theorem dL_worlds_855 : decode cL_worlds 855 = .ok (.iconst 1, 1) := by decide +kernel
theorem dL_worlds_856 : decode cL_worlds 856 = .ok (.iconst 0, 1) := by decide +kernel
theorem dL_worlds_857 : decode cL_worlds 857 = .ok (.bipush 11, 2) := by decide +kernel
theorem dL_worlds_859 : decode cL_worlds 859 = .ok (.iconst 0, 1) := by decide +kernel
theorem dL_worlds_860 : decode cL_worlds 860 = .ok (.iconst 0, 1) := by decide +kernel
theorem dL_worlds_861 : decode cL_worlds 861 = .ok (.invokestatic 157, 3) := by decide +kernel
theorem dL_worlds_864 : decode cL_worlds 864 = .ok (.iload_n 1, 1) := by decide +kernel
theorem dL_worlds_865 : decode cL_worlds 865 = .ok (.if_icmp .ne 209, 3) := by decide +kernel
theorem dL_worlds_868 : decode cL_worlds 868 = .ok (.aload_n 0, 1) := by decide +kernel
theorem dL_worlds_869 : decode cL_worlds 869 = .ok (.iconst 0, 1) := by decide +kernel
theorem dL_worlds_870 : decode cL_worlds 870 = .ok (.iconst 0, 1) := by decide +kernel
theorem dL_worlds_871 : decode cL_worlds 871 = .ok (.bipush 7, 2) := by decide +kernel
theorem dL_worlds_873 : decode cL_worlds 873 = .ok (.invokevirtual 64, 3) := by decide +kernel
theorem dL_worlds_876 : decode cL_worlds 876 = .ok (.iconst 2, 1) := by decide +kernel
theorem dL_worlds_877 : decode cL_worlds 877 = .ok (.if_icmp .ne 197, 3) := by decide +kernel
theorem dL_worlds_880 : decode cL_worlds 880 = .ok (.aload_n 0, 1) := by decide +kernel
theorem dL_worlds_881 : decode cL_worlds 881 = .ok (.iconst 2, 1) := by decide +kernel
theorem dL_worlds_882 : decode cL_worlds 882 = .ok (.invokestatic 198, 3) := by decide +kernel
theorem dL_worlds_885 : decode cL_worlds 885 = .ok (.iconst 1, 1) := by decide +kernel
theorem dL_worlds_886 : decode cL_worlds 886 = .ok (.if_icmp .ne 188, 3) := by decide +kernel
theorem dL_worlds_889 : decode cL_worlds 889 = .ok (.aload_n 0, 1) := by decide +kernel
theorem dL_worlds_890 : decode cL_worlds 890 = .ok (.iconst 0, 1) := by decide +kernel
theorem dL_worlds_891 : decode cL_worlds 891 = .ok (.invokevirtual 112, 3) := by decide +kernel
theorem dL_worlds_894 : decode cL_worlds 894 = .ok (.bipush 107, 2) := by decide +kernel
theorem dL_worlds_896 : decode cL_worlds 896 = .ok (.if_icmp .ne 178, 3) := by decide +kernel
theorem dL_worlds_899 : decode cL_worlds 899 = .ok (.aload_n 0, 1) := by decide +kernel
theorem dL_worlds_900 : decode cL_worlds 900 = .ok (.bipush 7, 2) := by decide +kernel
theorem dL_worlds_902 : decode cL_worlds 902 = .ok (.sipush 300, 3) := by decide +kernel
theorem dL_worlds_905 : decode cL_worlds 905 = .ok (.bipush 14, 2) := by decide +kernel
theorem dL_worlds_907 : decode cL_worlds 907 = .ok (.bipush 42, 2) := by decide +kernel
theorem dL_worlds_909 : decode cL_worlds 909 = .ok (.iconst 0, 1) := by decide +kernel
theorem dL_worlds_910 : decode cL_worlds 910 = .ok (.invokestatic 191, 3) := by decide +kernel
theorem dL_worlds_913 : decode cL_worlds 913 = .ok (.ifCond .eq 161, 3) := by decide +kernel
theorem dL_worlds_916 : decode cL_worlds 916 = .ok (.aload_n 0, 1) := by decide +kernel
theorem dL_worlds_917 : decode cL_worlds 917 = .ok (.invokevirtual 143, 3) := by decide +kernel
theorem dL_worlds_920 : decode cL_worlds 920 = .ok (.bipush 9, 2) := by decide +kernel
theorem dL_worlds_922 : decode cL_worlds 922 = .ok (.if_icmp .ne 152, 3) := by decide +kernel
theorem dL_worlds_925 : decode cL_worlds 925 = .ok (.aload_n 0, 1) := by decide +kernel
theorem dL_worlds_926 : decode cL_worlds 926 = .ok (.iconst 1, 1) := by decide +kernel
theorem dL_worlds_927 : decode cL_worlds 927 = .ok (.invokevirtual 73, 3) := by decide +kernel
theorem dL_worlds_930 : decode cL_worlds 930 = .ok (.iconst 1, 1) := by decide +kernel
theorem dL_worlds_931 : decode cL_worlds 931 = .ok (.if_icmp .ne 143, 3) := by decide +kernel
theorem dL_worlds_934 : decode cL_worlds 934 = .ok (.aload_n 0, 1) := by decide +kernel
theorem dL_worlds_935 : decode cL_worlds 935 = .ok (.bipush 18, 2) := by decide +kernel
theorem dL_worlds_937 : decode cL_worlds 937 = .ok (.sipush 200, 3) := by decide +kernel
theorem dL_worlds_940 : decode cL_worlds 940 = .ok (.bipush 18, 2) := by decide +kernel
theorem dL_worlds_942 : decode cL_worlds 942 = .ok (.bipush 80, 2) := by decide +kernel
theorem dL_worlds_944 : decode cL_worlds 944 = .ok (.iconst 0, 1) := by decide +kernel
theorem dL_worlds_945 : decode cL_worlds 945 = .ok (.invokestatic 191, 3) := by decide +kernel
theorem dL_worlds_948 : decode cL_worlds 948 = .ok (.ifCond .eq 126, 3) := by decide +kernel
theorem dL_worlds_951 : decode cL_worlds 951 = .ok (.aload_n 0, 1) := by decide +kernel
theorem dL_worlds_952 : decode cL_worlds 952 = .ok (.bipush 18, 2) := by decide +kernel
theorem dL_worlds_954 : decode cL_worlds 954 = .ok (.iconst 1, 1) := by decide +kernel
theorem dL_worlds_955 : decode cL_worlds 955 = .ok (.invokevirtual 76, 3) := by decide +kernel
theorem dL_worlds_958 : decode cL_worlds 958 = .ok (.bipush 80, 2) := by decide +kernel
theorem dL_worlds_960 : decode cL_worlds 960 = .ok (.if_icmp .ne 114, 3) := by decide +kernel
theorem dL_worlds_963 : decode cL_worlds 963 = .ok (.aload_n 0, 1) := by decide +kernel
theorem dL_worlds_964 : decode cL_worlds 964 = .ok (.bipush 18, 2) := by decide +kernel
theorem dL_worlds_966 : decode cL_worlds 966 = .ok (.iconst 0, 1) := by decide +kernel
theorem dL_worlds_967 : decode cL_worlds 967 = .ok (.invokevirtual 76, 3) := by decide +kernel
theorem dL_worlds_970 : decode cL_worlds 970 = .ok (.bipush 18, 2) := by decide +kernel
theorem dL_worlds_972 : decode cL_worlds 972 = .ok (.if_icmp .ne 102, 3) := by decide +kernel
theorem dL_worlds_975 : decode cL_worlds 975 = .ok (.aload_n 0, 1) := by decide +kernel
theorem dL_worlds_976 : decode cL_worlds 976 = .ok (.invokevirtual 149, 3) := by decide +kernel
theorem dL_worlds_979 : decode cL_worlds 979 = .ok (.ifCond .ne 95, 3) := by decide +kernel
theorem dL_worlds_982 : decode cL_worlds 982 = .ok (.aload_n 0, 1) := by decide +kernel
theorem dL_worlds_983 : decode cL_worlds 983 = .ok (.iconst 0, 1) := by decide +kernel
theorem dL_worlds_984 : decode cL_worlds 984 = .ok (.invokevirtual 73, 3) := by decide +kernel
theorem dL_worlds_987 : decode cL_worlds 987 = .ok (.iconst 2, 1) := by decide +kernel
theorem dL_worlds_988 : decode cL_worlds 988 = .ok (.if_icmp .ne 86, 3) := by decide +kernel
theorem dL_worlds_991 : decode cL_worlds 991 = .ok (.aload_n 0, 1) := by decide +kernel
theorem dL_worlds_992 : decode cL_worlds 992 = .ok (.bipush 19, 2) := by decide +kernel
theorem dL_worlds_994 : decode cL_worlds 994 = .ok (.iconst 0, 1) := by decide +kernel
theorem dL_worlds_995 : decode cL_worlds 995 = .ok (.iconst 0, 1) := by decide +kernel
theorem dL_worlds_996 : decode cL_worlds 996 = .ok (.iconst 0, 1) := by decide +kernel
theorem dL_worlds_997 : decode cL_worlds 997 = .ok (.iconst 0, 1) := by decide +kernel
theorem dL_worlds_998 : decode cL_worlds 998 = .ok (.iconst 0, 1) := by decide +kernel
theorem dL_worlds_999 : decode cL_worlds 999 = .ok (.invokestatic 157, 3) := by decide +kernel
theorem dL_worlds_1002 : decode cL_worlds 1002 = .ok (.iload_n 1, 1) := by decide +kernel
theorem dL_worlds_1003 : decode cL_worlds 1003 = .ok (.if_icmp .ne 71, 3) := by decide +kernel
theorem dL_worlds_1006 : decode cL_worlds 1006 = .ok (.aload_n 0, 1) := by decide +kernel
theorem dL_worlds_1007 : decode cL_worlds 1007 = .ok (.iconst 2, 1) := by decide +kernel
theorem dL_worlds_1008 : decode cL_worlds 1008 = .ok (.bipush 20, 2) := by decide +kernel
theorem dL_worlds_1010 : decode cL_worlds 1010 = .ok (.bipush 84, 2) := by decide +kernel
theorem dL_worlds_1012 : decode cL_worlds 1012 = .ok (.sipush 160, 3) := by decide +kernel
theorem dL_worlds_1015 : decode cL_worlds 1015 = .ok (.iconst 0, 1) := by decide +kernel
theorem dL_worlds_1016 : decode cL_worlds 1016 = .ok (.invokestatic 191, 3) := by decide +kernel
theorem dL_worlds_1019 : decode cL_worlds 1019 = .ok (.ifCond .eq 55, 3) := by decide +kernel
theorem dL_worlds_1022 : decode cL_worlds 1022 = .ok (.aload_n 0, 1) := by decide +kernel
theorem dL_worlds_1023 : decode cL_worlds 1023 = .ok (.bipush 18, 2) := by decide +kernel
theorem dL_worlds_1025 : decode cL_worlds 1025 = .ok (.iconst 1, 1) := by decide +kernel
theorem dL_worlds_1026 : decode cL_worlds 1026 = .ok (.invokevirtual 76, 3) := by decide +kernel
theorem dL_worlds_1029 : decode cL_worlds 1029 = .ok (.bipush 80, 2) := by decide +kernel
theorem dL_worlds_1031 : decode cL_worlds 1031 = .ok (.if_icmp .ne 43, 3) := by decide +kernel
theorem dL_worlds_1034 : decode cL_worlds 1034 = .ok (.aload_n 0, 1) := by decide +kernel
theorem dL_worlds_1035 : decode cL_worlds 1035 = .ok (.invokevirtual 149, 3) := by decide +kernel
theorem dL_worlds_1038 : decode cL_worlds 1038 = .ok (.ifCond .ne 36, 3) := by decide +kernel
theorem dL_worlds_1041 : decode cL_worlds 1041 = .ok (.aload_n 0, 1) := by decide +kernel
theorem dL_worlds_1042 : decode cL_worlds 1042 = .ok (.iconst 1, 1) := by decide +kernel
theorem dL_worlds_1043 : decode cL_worlds 1043 = .ok (.iconst 1, 1) := by decide +kernel
theorem dL_worlds_1044 : decode cL_worlds 1044 = .ok (.bipush 11, 2) := by decide +kernel
theorem dL_worlds_1046 : decode cL_worlds 1046 = .ok (.invokevirtual 70, 3) := by decide +kernel
theorem dL_worlds_1049 : decode cL_worlds 1049 = .ok (.bipush 11, 2) := by decide +kernel
theorem dL_worlds_1051 : decode cL_worlds 1051 = .ok (.if_icmp .ne 23, 3) := by decide +kernel
theorem dL_worlds_1054 : decode cL_worlds 1054 = .ok (.aload_n 0, 1) := by decide +kernel
theorem dL_worlds_1055 : decode cL_worlds 1055 = .ok (.invokevirtual 143, 3) := by decide +kernel
theorem dL_worlds_1058 : decode cL_worlds 1058 = .ok (.bipush 11, 2) := by decide +kernel
theorem dL_worlds_1060 : decode cL_worlds 1060 = .ok (.if_icmp .ne 14, 3) := by decide +kernel
theorem dL_worlds_1063 : decode cL_worlds 1063 = .ok (.aload_n 0, 1) := by decide +kernel
theorem dL_worlds_1064 : decode cL_worlds 1064 = .ok (.iconst 4, 1) := by decide +kernel
theorem dL_worlds_1065 : decode cL_worlds 1065 = .ok (.iconst 0, 1) := by decide +kernel
theorem dL_worlds_1066 : decode cL_worlds 1066 = .ok (.iconst 2, 1) := by decide +kernel
theorem dL_worlds_1067 : decode cL_worlds 1067 = .ok (.iconst 3, 1) := by decide +kernel
theorem dL_worlds_1068 : decode cL_worlds 1068 = .ok (.invokestatic 162, 3) := by decide +kernel
theorem dL_worlds_1071 : decode cL_worlds 1071 = .ok (.ifCond .ne 5, 3) := by decide +kernel
theorem dL_worlds_1074 : decode cL_worlds 1074 = .ok (.iconst 0, 1) := by decide +kernel
theorem dL_worlds_1075 : decode cL_worlds 1075 = .ok (.ireturn, 1) := by decide +kernel
theorem dL_worlds_1076 : decode cL_worlds 1076 = .ok (.new 8, 3) := by decide +kernel
theorem dL_worlds_1079 : decode cL_worlds 1079 = .ok (.dup, 1) := by decide +kernel
theorem dL_worlds_1080 : decode cL_worlds 1080 = .ok (.invokespecial 161, 3) := by decide +kernel
theorem dL_worlds_1083 : decode cL_worlds 1083 = .ok (.astore_n 2, 1) := by decide +kernel
theorem dL_worlds_1084 : decode cL_worlds 1084 = .ok (.aload_n 2, 1) := by decide +kernel
theorem dL_worlds_1085 : decode cL_worlds 1085 = .ok (.iconst 0, 1) := by decide +kernel
theorem dL_worlds_1086 : decode cL_worlds 1086 = .ok (.iconst 0, 1) := by decide +kernel
theorem dL_worlds_1087 : decode cL_worlds 1087 = .ok (.iconst 2, 1) := by decide +kernel
theorem dL_worlds_1088 : decode cL_worlds 1088 = .ok (.iconst 0, 1) := by decide +kernel
theorem dL_worlds_1089 : decode cL_worlds 1089 = .ok (.iconst 0, 1) := by decide +kernel
theorem dL_worlds_1090 : decode cL_worlds 1090 = .ok (.iconst 0, 1) := by decide +kernel
theorem dL_worlds_1091 : decode cL_worlds 1091 = .ok (.invokevirtual 91, 3) := by decide +kernel
theorem dL_worlds_1094 : decode cL_worlds 1094 = .ok (.aload_n 2, 1) := by decide +kernel
theorem dL_worlds_1095 : decode cL_worlds 1095 = .ok (.iconst 0, 1) := by decide +kernel
theorem dL_worlds_1096 : decode cL_worlds 1096 = .ok (.invokevirtual 61, 3) := by decide +kernel
theorem dL_worlds_1099 : decode cL_worlds 1099 = .ok (.ifCond .ne 340, 3) := by decide +kernel
theorem dL_worlds_1102 : decode cL_worlds 1102 = .ok (.aload_n 2, 1) := by decide +kernel
theorem dL_worlds_1103 : decode cL_worlds 1103 = .ok (.iconst 0, 1) := by decide +kernel
theorem dL_worlds_1104 : decode cL_worlds 1104 = .ok (.invokevirtual 61, 3) := by decide +kernel
theorem dL_worlds_1107 : decode cL_worlds 1107 = .ok (.iconst 1, 1) := by decide +kernel
theorem dL_worlds_1108 : decode cL_worlds 1108 = .ok (.if_icmp .ne 331, 3) := by decide +kernel
theorem dL_worlds_1111 : decode cL_worlds 1111 = .ok (.aload_n 2, 1) := by decide +kernel
theorem dL_worlds_1112 : decode cL_worlds 1112 = .ok (.iconst 0, 1) := by decide +kernel
theorem dL_worlds_1113 : decode cL_worlds 1113 = .ok (.invokevirtual 61, 3) := by decide +kernel
theorem dL_worlds_1116 : decode cL_worlds 1116 = .ok (.iconst 2, 1) := by decide +kernel
theorem dL_worlds_1117 : decode cL_worlds 1117 = .ok (.if_icmp .ne 322, 3) := by decide +kernel
theorem dL_worlds_1120 : decode cL_worlds 1120 = .ok (.aload_n 2, 1) := by decide +kernel
theorem dL_worlds_1121 : decode cL_worlds 1121 = .ok (.iconst 0, 1) := by decide +kernel
theorem dL_worlds_1122 : decode cL_worlds 1122 = .ok (.iconst 0, 1) := by decide +kernel
theorem dL_worlds_1123 : decode cL_worlds 1123 = .ok (.iconst 2, 1) := by decide +kernel
theorem dL_worlds_1124 : decode cL_worlds 1124 = .ok (.invokevirtual 64, 3) := by decide +kernel
theorem dL_worlds_1127 : decode cL_worlds 1127 = .ok (.iconst 1, 1) := by decide +kernel
theorem dL_worlds_1128 : decode cL_worlds 1128 = .ok (.if_icmp .ne 311, 3) := by decide +kernel
theorem dL_worlds_1131 : decode cL_worlds 1131 = .ok (.aload_n 2, 1) := by decide +kernel
theorem dL_worlds_1132 : decode cL_worlds 1132 = .ok (.iconst 1, 1) := by decide +kernel
theorem dL_worlds_1133 : decode cL_worlds 1133 = .ok (.iconst 0, 1) := by decide +kernel
theorem dL_worlds_1134 : decode cL_worlds 1134 = .ok (.iconst 2, 1) := by decide +kernel
theorem dL_worlds_1135 : decode cL_worlds 1135 = .ok (.invokevirtual 64, 3) := by decide +kernel
theorem dL_worlds_1138 : decode cL_worlds 1138 = .ok (.iconst 1, 1) := by decide +kernel
theorem dL_worlds_1139 : decode cL_worlds 1139 = .ok (.if_icmp .ne 300, 3) := by decide +kernel
theorem dL_worlds_1142 : decode cL_worlds 1142 = .ok (.aload_n 2, 1) := by decide +kernel
theorem dL_worlds_1143 : decode cL_worlds 1143 = .ok (.iconst 2, 1) := by decide +kernel
theorem dL_worlds_1144 : decode cL_worlds 1144 = .ok (.iconst 0, 1) := by decide +kernel
theorem dL_worlds_1145 : decode cL_worlds 1145 = .ok (.iconst 2, 1) := by decide +kernel
theorem dL_worlds_1146 : decode cL_worlds 1146 = .ok (.invokevirtual 64, 3) := by decide +kernel
theorem dL_worlds_1149 : decode cL_worlds 1149 = .ok (.iconst 1, 1) := by decide +kernel
theorem dL_worlds_1150 : decode cL_worlds 1150 = .ok (.if_icmp .ne 289, 3) := by decide +kernel
theorem dL_worlds_1153 : decode cL_worlds 1153 = .ok (.aload_n 2, 1) := by decide +kernel
theorem dL_worlds_1154 : decode cL_worlds 1154 = .ok (.iconst 2, 1) := by decide +kernel
