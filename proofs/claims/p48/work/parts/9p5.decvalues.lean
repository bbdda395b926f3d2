theorem dL_values_592 : decode cL_values 592 = .ok (.bipush 11, 2) := by decide +kernel
theorem dL_values_594 : decode cL_values 594 = .ok (.invokevirtual 20, 3) := by decide +kernel
theorem dL_values_597 : decode cL_values 597 = .ok (.bipush 10, 2) := by decide +kernel
theorem dL_values_599 : decode cL_values 599 = .ok (.if_icmp .ne 41, 3) := by decide +kernel
theorem dL_values_602 : decode cL_values 602 = .ok (.aload_n 0, 1) := by decide +kernel
theorem dL_values_603 : decode cL_values 603 = .ok (.invokevirtual 171, 3) := by decide +kernel
theorem dL_values_606 : decode cL_values 606 = .ok (.ifCond .ne 34, 3) := by decide +kernel
theorem dL_values_609 : decode cL_values 609 = .ok (.aload_n 0, 1) := by decide +kernel
theorem dL_values_610 : decode cL_values 610 = .ok (.iconst 2, 1) := by decide +kernel
theorem dL_values_611 : decode cL_values 611 = .ok (.invokevirtual 52, 3) := by decide +kernel
theorem dL_values_614 : decode cL_values 614 = .ok (.iconst (-1), 1) := by decide +kernel
theorem dL_values_615 : decode cL_values 615 = .ok (.if_icmp .ne 25, 3) := by decide +kernel
theorem dL_values_618 : decode cL_values 618 = .ok (.aload_n 0, 1) := by decide +kernel
theorem dL_values_619 : decode cL_values 619 = .ok (.iconst 3, 1) := by decide +kernel
theorem dL_values_620 : decode cL_values 620 = .ok (.invokevirtual 40, 3) := by decide +kernel
theorem dL_values_623 : decode cL_values 623 = .ok (.bipush 40, 2) := by decide +kernel
theorem dL_values_625 : decode cL_values 625 = .ok (.if_icmp .ne 15, 3) := by decide +kernel
theorem dL_values_628 : decode cL_values 628 = .ok (.aload_n 0, 1) := by decide +kernel
theorem dL_values_629 : decode cL_values 629 = .ok (.bipush 12, 2) := by decide +kernel
theorem dL_values_631 : decode cL_values 631 = .ok (.iconst 3, 1) := by decide +kernel
theorem dL_values_632 : decode cL_values 632 = .ok (.iconst 0, 1) := by decide +kernel
theorem dL_values_633 : decode cL_values 633 = .ok (.iconst 0, 1) := by decide +kernel
theorem dL_values_634 : decode cL_values 634 = .ok (.invokestatic 162, 3) := by decide +kernel
theorem dL_values_637 : decode cL_values 637 = .ok (.ifCond .ne 5, 3) := by decide +kernel
theorem dL_values_640 : decode cL_values 640 = .ok (.iconst 0, 1) := by decide +kernel
theorem dL_values_641 : decode cL_values 641 = .ok (.ireturn, 1) := by decide +kernel
theorem dL_values_642 : decode cL_values 642 = .ok (.new 8, 3) := by decide +kernel
theorem dL_values_645 : decode cL_values 645 = .ok (.dup, 1) := by decide +kernel
theorem dL_values_646 : decode cL_values 646 = .ok (.invokespecial 161, 3) := by decide +kernel
theorem dL_values_649 : decode cL_values 649 = .ok (.astore_n 1, 1) := by decide +kernel
theorem dL_values_650 : decode cL_values 650 = .ok (.aload_n 1, 1) := by decide +kernel
theorem dL_values_651 : decode cL_values 651 = .ok (.iconst 0, 1) := by decide +kernel
theorem dL_values_652 : decode cL_values 652 = .ok (.bipush 6, 2) := by decide +kernel
theorem dL_values_654 : decode cL_values 654 = .ok (.iconst 0, 1) := by decide +kernel
theorem dL_values_655 : decode cL_values 655 = .ok (.iconst 1, 1) := by decide +kernel
theorem dL_values_656 : decode cL_values 656 = .ok (.iconst 0, 1) := by decide +kernel
theorem dL_values_657 : decode cL_values 657 = .ok (.invokevirtual 7, 3) := by decide +kernel
theorem dL_values_660 : decode cL_values 660 = .ok (.ifCond .ne 254, 3) := by decide +kernel
theorem dL_values_663 : decode cL_values 663 = .ok (.aload_n 1, 1) := by decide +kernel
theorem dL_values_664 : decode cL_values 664 = .ok (.iconst 1, 1) := by decide +kernel
theorem dL_values_665 : decode cL_values 665 = .ok (.bipush 6, 2) := by decide +kernel
theorem dL_values_667 : decode cL_values 667 = .ok (.iconst 1, 1) := by decide +kernel
theorem dL_values_668 : decode cL_values 668 = .ok (.iconst 2, 1) := by decide +kernel
theorem dL_values_669 : decode cL_values 669 = .ok (.iconst 0, 1) := by decide +kernel
theorem dL_values_670 : decode cL_values 670 = .ok (.invokevirtual 7, 3) := by decide +kernel
theorem dL_values_673 : decode cL_values 673 = .ok (.iconst 1, 1) := by decide +kernel
theorem dL_values_674 : decode cL_values 674 = .ok (.if_icmp .ne 240, 3) := by decide +kernel
theorem dL_values_677 : decode cL_values 677 = .ok (.aload_n 1, 1) := by decide +kernel
theorem dL_values_678 : decode cL_values 678 = .ok (.iconst 0, 1) := by decide +kernel
theorem dL_values_679 : decode cL_values 679 = .ok (.ldc 180, 2) := by decide +kernel
theorem dL_values_681 : decode cL_values 681 = .ok (.invokestatic 167, 3) := by decide +kernel
theorem dL_values_684 : decode cL_values 684 = .ok (.ifCond .eq 230, 3) := by decide +kernel
theorem dL_values_687 : decode cL_values 687 = .ok (.aload_n 1, 1) := by decide +kernel
theorem dL_values_688 : decode cL_values 688 = .ok (.iconst 1, 1) := by decide +kernel
theorem dL_values_689 : decode cL_values 689 = .ok (.ldc 181, 2) := by decide +kernel
theorem dL_values_691 : decode cL_values 691 = .ok (.invokestatic 167, 3) := by decide +kernel
theorem dL_values_694 : decode cL_values 694 = .ok (.ifCond .eq 220, 3) := by decide +kernel
theorem dL_values_697 : decode cL_values 697 = .ok (.aload_n 1, 1) := by decide +kernel
theorem dL_values_698 : decode cL_values 698 = .ok (.iconst 2, 1) := by decide +kernel
theorem dL_values_699 : decode cL_values 699 = .ok (.ldc 182, 2) := by decide +kernel
theorem dL_values_701 : decode cL_values 701 = .ok (.invokestatic 167, 3) := by decide +kernel
theorem dL_values_704 : decode cL_values 704 = .ok (.ifCond .eq 210, 3) := by decide +kernel
theorem dL_values_707 : decode cL_values 707 = .ok (.aload_n 1, 1) := by decide +kernel
theorem dL_values_708 : decode cL_values 708 = .ok (.iconst 2, 1) := by decide +kernel
theorem dL_values_709 : decode cL_values 709 = .ok (.bipush 6, 2) := by decide +kernel
theorem dL_values_711 : decode cL_values 711 = .ok (.iconst 2, 1) := by decide +kernel
theorem dL_values_712 : decode cL_values 712 = .ok (.iconst 0, 1) := by decide +kernel
theorem dL_values_713 : decode cL_values 713 = .ok (.iconst 0, 1) := by decide +kernel
theorem dL_values_714 : decode cL_values 714 = .ok (.invokevirtual 7, 3) := by decide +kernel
theorem dL_values_717 : decode cL_values 717 = .ok (.iconst 2, 1) := by decide +kernel
theorem dL_values_718 : decode cL_values 718 = .ok (.if_icmp .ne 196, 3) := by decide +kernel
theorem dL_values_721 : decode cL_values 721 = .ok (.aload_n 1, 1) := by decide +kernel
theorem dL_values_722 : decode cL_values 722 = .ok (.invokevirtual 171, 3) := by decide +kernel
theorem dL_values_725 : decode cL_values 725 = .ok (.bipush 7, 2) := by decide +kernel
theorem dL_values_727 : decode cL_values 727 = .ok (.if_icmp .ne 187, 3) := by decide +kernel
theorem dL_values_730 : decode cL_values 730 = .ok (.aload_n 1, 1) := by decide +kernel
theorem dL_values_731 : decode cL_values 731 = .ok (.bipush 9, 2) := by decide +kernel
theorem dL_values_733 : decode cL_values 733 = .ok (.invokevirtual 40, 3) := by decide +kernel
theorem dL_values_736 : decode cL_values 736 = .ok (.bipush (-2), 2) := by decide +kernel
theorem dL_values_738 : decode cL_values 738 = .ok (.if_icmp .ne 176, 3) := by decide +kernel
theorem dL_values_741 : decode cL_values 741 = .ok (.aload_n 1, 1) := by decide +kernel
theorem dL_values_742 : decode cL_values 742 = .ok (.bipush 9, 2) := by decide +kernel
theorem dL_values_744 : decode cL_values 744 = .ok (.ldc 166, 2) := by decide +kernel
theorem dL_values_746 : decode cL_values 746 = .ok (.invokestatic 167, 3) := by decide +kernel
theorem dL_values_749 : decode cL_values 749 = .ok (.ifCond .eq 165, 3) := by decide +kernel
theorem dL_values_752 : decode cL_values 752 = .ok (.aload_n 1, 1) := by decide +kernel
theorem dL_values_753 : decode cL_values 753 = .ok (.iconst 1, 1) := by decide +kernel
theorem dL_values_754 : decode cL_values 754 = .ok (.iconst 0, 1) := by decide +kernel
theorem dL_values_755 : decode cL_values 755 = .ok (.invokestatic 167, 3) := by decide +kernel
theorem dL_values_758 : decode cL_values 758 = .ok (.ifCond .eq 156, 3) := by decide +kernel
theorem dL_values_761 : decode cL_values 761 = .ok (.aload_n 1, 1) := by decide +kernel
theorem dL_values_762 : decode cL_values 762 = .ok (.iconst 2, 1) := by decide +kernel
theorem dL_values_763 : decode cL_values 763 = .ok (.invokevirtual 20, 3) := by decide +kernel
theorem dL_values_766 : decode cL_values 766 = .ok (.iconst 2, 1) := by decide +kernel
theorem dL_values_767 : decode cL_values 767 = .ok (.if_icmp .ne 147, 3) := by decide +kernel
theorem dL_values_770 : decode cL_values 770 = .ok (.aload_n 1, 1) := by decide +kernel
theorem dL_values_771 : decode cL_values 771 = .ok (.iconst 2, 1) := by decide +kernel
theorem dL_values_772 : decode cL_values 772 = .ok (.bipush 6, 2) := by decide +kernel
theorem dL_values_774 : decode cL_values 774 = .ok (.iconst 2, 1) := by decide +kernel
theorem dL_values_775 : decode cL_values 775 = .ok (.iconst 3, 1) := by decide +kernel
theorem dL_values_776 : decode cL_values 776 = .ok (.iconst 0, 1) := by decide +kernel
theorem dL_values_777 : decode cL_values 777 = .ok (.invokevirtual 7, 3) := by decide +kernel
theorem dL_values_780 : decode cL_values 780 = .ok (.iconst 3, 1) := by decide +kernel
theorem dL_values_781 : decode cL_values 781 = .ok (.if_icmp .ne 133, 3) := by decide +kernel
theorem dL_values_784 : decode cL_values 784 = .ok (.aload_n 1, 1) := by decide +kernel
theorem dL_values_785 : decode cL_values 785 = .ok (.iconst 2, 1) := by decide +kernel
theorem dL_values_786 : decode cL_values 786 = .ok (.bipush 6, 2) := by decide +kernel
theorem dL_values_788 : decode cL_values 788 = .ok (.iconst 3, 1) := by decide +kernel
theorem dL_values_789 : decode cL_values 789 = .ok (.iconst 0, 1) := by decide +kernel
theorem dL_values_790 : decode cL_values 790 = .ok (.iconst 0, 1) := by decide +kernel
theorem dL_values_791 : decode cL_values 791 = .ok (.invokevirtual 7, 3) := by decide +kernel
theorem dL_values_794 : decode cL_values 794 = .ok (.iconst 4, 1) := by decide +kernel
theorem dL_values_795 : decode cL_values 795 = .ok (.if_icmp .ne 119, 3) := by decide +kernel
theorem dL_values_798 : decode cL_values 798 = .ok (.aload_n 1, 1) := by decide +kernel
theorem dL_values_799 : decode cL_values 799 = .ok (.invokevirtual 171, 3) := by decide +kernel
theorem dL_values_802 : decode cL_values 802 = .ok (.iconst (-1), 1) := by decide +kernel
theorem dL_values_803 : decode cL_values 803 = .ok (.if_icmp .ne 111, 3) := by decide +kernel
theorem dL_values_806 : decode cL_values 806 = .ok (.aload_n 1, 1) := by decide +kernel
theorem dL_values_807 : decode cL_values 807 = .ok (.iconst 3, 1) := by decide +kernel
theorem dL_values_808 : decode cL_values 808 = .ok (.iconst 5, 1) := by decide +kernel
theorem dL_values_809 : decode cL_values 809 = .ok (.bipush 7, 2) := by decide +kernel
theorem dL_values_811 : decode cL_values 811 = .ok (.bipush 7, 2) := by decide +kernel
theorem dL_values_813 : decode cL_values 813 = .ok (.iconst 1, 1) := by decide +kernel
theorem dL_values_814 : decode cL_values 814 = .ok (.invokevirtual 7, 3) := by decide +kernel
theorem dL_values_817 : decode cL_values 817 = .ok (.iconst 5, 1) := by decide +kernel
theorem dL_values_818 : decode cL_values 818 = .ok (.if_icmp .ne 96, 3) := by decide +kernel
theorem dL_values_821 : decode cL_values 821 = .ok (.aload_n 1, 1) := by decide +kernel
theorem dL_values_822 : decode cL_values 822 = .ok (.invokevirtual 171, 3) := by decide +kernel
theorem dL_values_825 : decode cL_values 825 = .ok (.bipush 32, 2) := by decide +kernel
theorem dL_values_827 : decode cL_values 827 = .ok (.if_icmp .ne 87, 3) := by decide +kernel
theorem dL_values_830 : decode cL_values 830 = .ok (.aload_n 1, 1) := by decide +kernel
theorem dL_values_831 : decode cL_values 831 = .ok (.iconst 5, 1) := by decide +kernel
theorem dL_values_832 : decode cL_values 832 = .ok (.invokevirtual 20, 3) := by decide +kernel
theorem dL_values_835 : decode cL_values 835 = .ok (.iconst 4, 1) := by decide +kernel
theorem dL_values_836 : decode cL_values 836 = .ok (.if_icmp .ne 78, 3) := by decide +kernel
theorem dL_values_839 : decode cL_values 839 = .ok (.aload_n 1, 1) := by decide +kernel
theorem dL_values_840 : decode cL_values 840 = .ok (.iconst 4, 1) := by decide +kernel
theorem dL_values_841 : decode cL_values 841 = .ok (.invokevirtual 20, 3) := by decide +kernel
theorem dL_values_844 : decode cL_values 844 = .ok (.iconst 3, 1) := by decide +kernel
theorem dL_values_845 : decode cL_values 845 = .ok (.if_icmp .ne 69, 3) := by decide +kernel
theorem dL_values_848 : decode cL_values 848 = .ok (.aload_n 1, 1) := by decide +kernel
theorem dL_values_849 : decode cL_values 849 = .ok (.iconst 3, 1) := by decide +kernel
theorem dL_values_850 : decode cL_values 850 = .ok (.iconst 5, 1) := by decide +kernel
theorem dL_values_851 : decode cL_values 851 = .ok (.bipush 8, 2) := by decide +kernel
theorem dL_values_853 : decode cL_values 853 = .ok (.bipush 9, 2) := by decide +kernel
theorem dL_values_855 : decode cL_values 855 = .ok (.bipush 60, 2) := by decide +kernel
theorem dL_values_857 : decode cL_values 857 = .ok (.invokevirtual 7, 3) := by decide +kernel
theorem dL_values_860 : decode cL_values 860 = .ok (.bipush 6, 2) := by decide +kernel
theorem dL_values_862 : decode cL_values 862 = .ok (.if_icmp .ne 52, 3) := by decide +kernel
theorem dL_values_865 : decode cL_values 865 = .ok (.aload_n 1, 1) := by decide +kernel
theorem dL_values_866 : decode cL_values 866 = .ok (.bipush 8, 2) := by decide +kernel
theorem dL_values_868 : decode cL_values 868 = .ok (.ldc 183, 2) := by decide +kernel
theorem dL_values_870 : decode cL_values 870 = .ok (.invokestatic 167, 3) := by decide +kernel
theorem dL_values_873 : decode cL_values 873 = .ok (.ifCond .eq 41, 3) := by decide +kernel
theorem dL_values_876 : decode cL_values 876 = .ok (.aload_n 1, 1) := by decide +kernel
theorem dL_values_877 : decode cL_values 877 = .ok (.bipush 9, 2) := by decide +kernel
theorem dL_values_879 : decode cL_values 879 = .ok (.ldc 184, 2) := by decide +kernel
theorem dL_values_881 : decode cL_values 881 = .ok (.invokestatic 167, 3) := by decide +kernel
theorem dL_values_884 : decode cL_values 884 = .ok (.ifCond .eq 30, 3) := by decide +kernel
theorem dL_values_887 : decode cL_values 887 = .ok (.aload_n 1, 1) := by decide +kernel
theorem dL_values_888 : decode cL_values 888 = .ok (.iconst 3, 1) := by decide +kernel
theorem dL_values_889 : decode cL_values 889 = .ok (.iconst 5, 1) := by decide +kernel
theorem dL_values_890 : decode cL_values 890 = .ok (.bipush 9, 2) := by decide +kernel
theorem dL_values_892 : decode cL_values 892 = .ok (.bipush 8, 2) := by decide +kernel
theorem dL_values_894 : decode cL_values 894 = .ok (.bipush (-63), 2) := by decide +kernel
theorem dL_values_896 : decode cL_values 896 = .ok (.invokevirtual 7, 3) := by decide +kernel
theorem dL_values_899 : decode cL_values 899 = .ok (.bipush 7, 2) := by decide +kernel
theorem dL_values_901 : decode cL_values 901 = .ok (.if_icmp .ne 13, 3) := by decide +kernel
theorem dL_values_904 : decode cL_values 904 = .ok (.aload_n 1, 1) := by decide +kernel
theorem dL_values_905 : decode cL_values 905 = .ok (.bipush 8, 2) := by decide +kernel
theorem dL_values_907 : decode cL_values 907 = .ok (.iconst 0, 1) := by decide +kernel
theorem dL_values_908 : decode cL_values 908 = .ok (.invokestatic 167, 3) := by decide +kernel
theorem dL_values_911 : decode cL_values 911 = .ok (.ifCond .ne 5, 3) := by decide +kernel
theorem dL_values_914 : decode cL_values 914 = .ok (.iconst 0, 1) := by decide +kernel
theorem dL_values_915 : decode cL_values 915 = .ok (.ireturn, 1) := by decide +kernel
theorem dL_values_916 : decode cL_values 916 = .ok (.new 8, 3) := by decide +kernel
theorem dL_values_919 : decode cL_values 919 = .ok (.dup, 1) := by decide +kernel
theorem dL_values_920 : decode cL_values 920 = .ok (.invokespecial 161, 3) := by decide +kernel
theorem dL_values_923 : decode cL_values 923 = .ok (.astore_n 2, 1) := by decide +kernel
theorem dL_values_924 : decode cL_values 924 = .ok (.aload_n 2, 1) := by decide +kernel
theorem dL_values_925 : decode cL_values 925 = .ok (.iconst 0, 1) := by decide +kernel
theorem dL_values_926 : decode cL_values 926 = .ok (.iconst 0, 1) := by decide +kernel
theorem dL_values_927 : decode cL_values 927 = .ok (.iconst 0, 1) := by decide +kernel
theorem dL_values_928 : decode cL_values 928 = .ok (.iconst 3, 1) := by decide +kernel
theorem dL_values_929 : decode cL_values 929 = .ok (.iconst 0, 1) := by decide +kernel
theorem dL_values_930 : decode cL_values 930 = .ok (.invokevirtual 7, 3) := by decide +kernel
theorem dL_values_933 : decode cL_values 933 = .ok (.ifCond .ne 105, 3) := by decide +kernel
theorem dL_values_936 : decode cL_values 936 = .ok (.aload_n 2, 1) := by decide +kernel
theorem dL_values_937 : decode cL_values 937 = .ok (.iconst 1, 1) := by decide +kernel
theorem dL_values_938 : decode cL_values 938 = .ok (.bipush 7, 2) := by decide +kernel
theorem dL_values_940 : decode cL_values 940 = .ok (.iconst 0, 1) := by decide +kernel
theorem dL_values_941 : decode cL_values 941 = .ok (.iconst 5, 1) := by decide +kernel
theorem dL_values_942 : decode cL_values 942 = .ok (.iconst 0, 1) := by decide +kernel
theorem dL_values_943 : decode cL_values 943 = .ok (.invokevirtual 7, 3) := by decide +kernel
theorem dL_values_946 : decode cL_values 946 = .ok (.iconst 1, 1) := by decide +kernel
theorem dL_values_947 : decode cL_values 947 = .ok (.if_icmp .ne 91, 3) := by decide +kernel
theorem dL_values_950 : decode cL_values 950 = .ok (.aload_n 2, 1) := by decide +kernel
theorem dL_values_951 : decode cL_values 951 = .ok (.iconst 1, 1) := by decide +kernel
theorem dL_values_952 : decode cL_values 952 = .ok (.iconst 0, 1) := by decide +kernel
theorem dL_values_953 : decode cL_values 953 = .ok (.iconst 1, 1) := by decide +kernel
theorem dL_values_954 : decode cL_values 954 = .ok (.iconst 5, 1) := by decide +kernel
theorem dL_values_955 : decode cL_values 955 = .ok (.iconst 0, 1) := by decide +kernel
theorem dL_values_956 : decode cL_values 956 = .ok (.invokevirtual 7, 3) := by decide +kernel
theorem dL_values_959 : decode cL_values 959 = .ok (.iconst 2, 1) := by decide +kernel
theorem dL_values_960 : decode cL_values 960 = .ok (.if_icmp .ne 78, 3) := by decide +kernel
theorem dL_values_963 : decode cL_values 963 = .ok (.aload_n 2, 1) := by decide +kernel
theorem dL_values_964 : decode cL_values 964 = .ok (.iconst 2, 1) := by decide +kernel
theorem dL_values_965 : decode cL_values 965 = .ok (.invokevirtual 37, 3) := by decide +kernel
theorem dL_values_968 : decode cL_values 968 = .ok (.bipush 10, 2) := by decide +kernel
theorem dL_values_970 : decode cL_values 970 = .ok (.if_icmp .ne 68, 3) := by decide +kernel
theorem dL_values_973 : decode cL_values 973 = .ok (.aload_n 2, 1) := by decide +kernel
theorem dL_values_974 : decode cL_values 974 = .ok (.iconst 0, 1) := by decide +kernel
theorem dL_values_975 : decode cL_values 975 = .ok (.iconst 0, 1) := by decide +kernel
theorem dL_values_976 : decode cL_values 976 = .ok (.iconst 0, 1) := by decide +kernel
theorem dL_values_977 : decode cL_values 977 = .ok (.iconst 4, 1) := by decide +kernel
theorem dL_values_978 : decode cL_values 978 = .ok (.iconst 0, 1) := by decide +kernel
theorem dL_values_979 : decode cL_values 979 = .ok (.invokevirtual 7, 3) := by decide +kernel
theorem dL_values_982 : decode cL_values 982 = .ok (.iconst 3, 1) := by decide +kernel
theorem dL_values_983 : decode cL_values 983 = .ok (.if_icmp .ne 55, 3) := by decide +kernel
theorem dL_values_986 : decode cL_values 986 = .ok (.aload_n 2, 1) := by decide +kernel
theorem dL_values_987 : decode cL_values 987 = .ok (.iconst 0, 1) := by decide +kernel
theorem dL_values_988 : decode cL_values 988 = .ok (.iconst 0, 1) := by decide +kernel
theorem dL_values_989 : decode cL_values 989 = .ok (.invokestatic 167, 3) := by decide +kernel
theorem dL_values_992 : decode cL_values 992 = .ok (.ifCond .eq 46, 3) := by decide +kernel
theorem dL_values_995 : decode cL_values 995 = .ok (.aload_n 2, 1) := by decide +kernel
theorem dL_values_996 : decode cL_values 996 = .ok (.iconst 1, 1) := by decide +kernel
theorem dL_values_997 : decode cL_values 997 = .ok (.sipush 10505, 3) := by decide +kernel
theorem dL_values_1000 : decode cL_values 1000 = .ok (.invokestatic 167, 3) := by decide +kernel
theorem dL_values_1003 : decode cL_values 1003 = .ok (.ifCond .eq 35, 3) := by decide +kernel
theorem dL_values_1006 : decode cL_values 1006 = .ok (.aload_n 2, 1) := by decide +kernel
theorem dL_values_1007 : decode cL_values 1007 = .ok (.iconst 2, 1) := by decide +kernel
theorem dL_values_1008 : decode cL_values 1008 = .ok (.invokevirtual 37, 3) := by decide +kernel
theorem dL_values_1011 : decode cL_values 1011 = .ok (.ifCond .ne 27, 3) := by decide +kernel
theorem dL_values_1014 : decode cL_values 1014 = .ok (.aload_n 2, 1) := by decide +kernel
theorem dL_values_1015 : decode cL_values 1015 = .ok (.invokevirtual 171, 3) := by decide +kernel
theorem dL_values_1018 : decode cL_values 1018 = .ok (.bipush 9, 2) := by decide +kernel
theorem dL_values_1020 : decode cL_values 1020 = .ok (.if_icmp .ne 18, 3) := by decide +kernel
theorem dL_values_1023 : decode cL_values 1023 = .ok (.aload_n 2, 1) := by decide +kernel
theorem dL_values_1024 : decode cL_values 1024 = .ok (.iconst 4, 1) := by decide +kernel
theorem dL_values_1025 : decode cL_values 1025 = .ok (.iconst 0, 1) := by decide +kernel
theorem dL_values_1026 : decode cL_values 1026 = .ok (.iconst 0, 1) := by decide +kernel
theorem dL_values_1027 : decode cL_values 1027 = .ok (.iconst 0, 1) := by decide +kernel
theorem dL_values_1028 : decode cL_values 1028 = .ok (.invokestatic 162, 3) := by decide +kernel
theorem dL_values_1031 : decode cL_values 1031 = .ok (.ifCond .eq 7, 3) := by decide +kernel
theorem dL_values_1034 : decode cL_values 1034 = .ok (.iconst 1, 1) := by decide +kernel
theorem dL_values_1035 : decode cL_values 1035 = .ok (.goto 4, 3) := by decide +kernel
theorem dL_values_1038 : decode cL_values 1038 = .ok (.iconst 0, 1) := by decide +kernel
theorem dL_values_1039 : decode cL_values 1039 = .ok (.ireturn, 1) := by decide +kernel
