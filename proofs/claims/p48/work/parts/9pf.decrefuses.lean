theorem dL_refuses_598 : decode cL_refuses 598 = .ok (.iconst 0, 1) := by decide +kernel
theorem dL_refuses_599 : decode cL_refuses 599 = .ok (.iconst 0, 1) := by decide +kernel
theorem dL_refuses_600 : decode cL_refuses 600 = .ok (.iconst 0, 1) := by decide +kernel
theorem dL_refuses_601 : decode cL_refuses 601 = .ok (.invokestatic 157, 3) := by decide +kernel
theorem dL_refuses_604 : decode cL_refuses 604 = .ok (.bipush (-71), 2) := by decide +kernel
theorem dL_refuses_606 : decode cL_refuses 606 = .ok (.if_icmp .ne 40, 3) := by decide +kernel
theorem dL_refuses_609 : decode cL_refuses 609 = .ok (.aload_n 0, 1) := by decide +kernel
theorem dL_refuses_610 : decode cL_refuses 610 = .ok (.iconst 1, 1) := by decide +kernel
theorem dL_refuses_611 : decode cL_refuses 611 = .ok (.iconst 0, 1) := by decide +kernel
theorem dL_refuses_612 : decode cL_refuses 612 = .ok (.iconst 0, 1) := by decide +kernel
theorem dL_refuses_613 : decode cL_refuses 613 = .ok (.iload 15, 2) := by decide +kernel
theorem dL_refuses_615 : decode cL_refuses 615 = .ok (.iconst 0, 1) := by decide +kernel
theorem dL_refuses_616 : decode cL_refuses 616 = .ok (.iconst 0, 1) := by decide +kernel
theorem dL_refuses_617 : decode cL_refuses 617 = .ok (.invokestatic 157, 3) := by decide +kernel
theorem dL_refuses_620 : decode cL_refuses 620 = .ok (.bipush (-71), 2) := by decide +kernel
theorem dL_refuses_622 : decode cL_refuses 622 = .ok (.if_icmp .ne 24, 3) := by decide +kernel
theorem dL_refuses_625 : decode cL_refuses 625 = .ok (.aload_n 0, 1) := by decide +kernel
theorem dL_refuses_626 : decode cL_refuses 626 = .ok (.iconst 1, 1) := by decide +kernel
theorem dL_refuses_627 : decode cL_refuses 627 = .ok (.iconst 0, 1) := by decide +kernel
theorem dL_refuses_628 : decode cL_refuses 628 = .ok (.bipush 7, 2) := by decide +kernel
theorem dL_refuses_630 : decode cL_refuses 630 = .ok (.iconst 0, 1) := by decide +kernel
theorem dL_refuses_631 : decode cL_refuses 631 = .ok (.iload 16, 2) := by decide +kernel
theorem dL_refuses_633 : decode cL_refuses 633 = .ok (.iconst 0, 1) := by decide +kernel
theorem dL_refuses_634 : decode cL_refuses 634 = .ok (.invokestatic 157, 3) := by decide +kernel
theorem dL_refuses_637 : decode cL_refuses 637 = .ok (.bipush (-72), 2) := by decide +kernel
theorem dL_refuses_639 : decode cL_refuses 639 = .ok (.if_icmp .ne 7, 3) := by decide +kernel
theorem dL_refuses_642 : decode cL_refuses 642 = .ok (.iconst 1, 1) := by decide +kernel
theorem dL_refuses_643 : decode cL_refuses 643 = .ok (.goto 4, 3) := by decide +kernel
theorem dL_refuses_646 : decode cL_refuses 646 = .ok (.iconst 0, 1) := by decide +kernel
theorem dL_refuses_647 : decode cL_refuses 647 = .ok (.istore 23, 2) := by decide +kernel
theorem dL_refuses_649 : decode cL_refuses 649 = .ok (.iload 23, 2) := by decide +kernel
theorem dL_refuses_651 : decode cL_refuses 651 = .ok (.ifCond .eq 567, 3) := by decide +kernel
theorem dL_refuses_654 : decode cL_refuses 654 = .ok (.aload_n 0, 1) := by decide +kernel
theorem dL_refuses_655 : decode cL_refuses 655 = .ok (.iconst 2, 1) := by decide +kernel
theorem dL_refuses_656 : decode cL_refuses 656 = .ok (.iload 12, 2) := by decide +kernel
theorem dL_refuses_658 : decode cL_refuses 658 = .ok (.iconst 0, 1) := by decide +kernel
theorem dL_refuses_659 : decode cL_refuses 659 = .ok (.iconst 0, 1) := by decide +kernel
theorem dL_refuses_660 : decode cL_refuses 660 = .ok (.iconst 0, 1) := by decide +kernel
theorem dL_refuses_661 : decode cL_refuses 661 = .ok (.iconst 0, 1) := by decide +kernel
theorem dL_refuses_662 : decode cL_refuses 662 = .ok (.invokestatic 157, 3) := by decide +kernel
theorem dL_refuses_665 : decode cL_refuses 665 = .ok (.bipush (-71), 2) := by decide +kernel
theorem dL_refuses_667 : decode cL_refuses 667 = .ok (.if_icmp .ne 551, 3) := by decide +kernel
theorem dL_refuses_670 : decode cL_refuses 670 = .ok (.aload_n 0, 1) := by decide +kernel
theorem dL_refuses_671 : decode cL_refuses 671 = .ok (.iconst 3, 1) := by decide +kernel
theorem dL_refuses_672 : decode cL_refuses 672 = .ok (.iload 10, 2) := by decide +kernel
theorem dL_refuses_674 : decode cL_refuses 674 = .ok (.iconst 1, 1) := by decide +kernel
theorem dL_refuses_675 : decode cL_refuses 675 = .ok (.if_icmp .ne 7, 3) := by decide +kernel
theorem dL_refuses_678 : decode cL_refuses 678 = .ok (.iload_n 1, 1) := by decide +kernel
theorem dL_refuses_679 : decode cL_refuses 679 = .ok (.goto 5, 3) := by decide +kernel
theorem dL_refuses_682 : decode cL_refuses 682 = .ok (.iload 11, 2) := by decide +kernel
theorem dL_refuses_684 : decode cL_refuses 684 = .ok (.iconst 0, 1) := by decide +kernel
theorem dL_refuses_685 : decode cL_refuses 685 = .ok (.iconst 0, 1) := by decide +kernel
theorem dL_refuses_686 : decode cL_refuses 686 = .ok (.iconst 0, 1) := by decide +kernel
theorem dL_refuses_687 : decode cL_refuses 687 = .ok (.iconst 0, 1) := by decide +kernel
theorem dL_refuses_688 : decode cL_refuses 688 = .ok (.invokestatic 157, 3) := by decide +kernel
theorem dL_refuses_691 : decode cL_refuses 691 = .ok (.bipush (-71), 2) := by decide +kernel
theorem dL_refuses_693 : decode cL_refuses 693 = .ok (.if_icmp .ne 525, 3) := by decide +kernel
theorem dL_refuses_696 : decode cL_refuses 696 = .ok (.aload_n 0, 1) := by decide +kernel
theorem dL_refuses_697 : decode cL_refuses 697 = .ok (.iconst 4, 1) := by decide +kernel
theorem dL_refuses_698 : decode cL_refuses 698 = .ok (.iload 14, 2) := by decide +kernel
theorem dL_refuses_700 : decode cL_refuses 700 = .ok (.iconst 0, 1) := by decide +kernel
theorem dL_refuses_701 : decode cL_refuses 701 = .ok (.iconst 0, 1) := by decide +kernel
theorem dL_refuses_702 : decode cL_refuses 702 = .ok (.iconst 0, 1) := by decide +kernel
theorem dL_refuses_703 : decode cL_refuses 703 = .ok (.iconst 0, 1) := by decide +kernel
theorem dL_refuses_704 : decode cL_refuses 704 = .ok (.invokestatic 157, 3) := by decide +kernel
theorem dL_refuses_707 : decode cL_refuses 707 = .ok (.bipush (-71), 2) := by decide +kernel
theorem dL_refuses_709 : decode cL_refuses 709 = .ok (.if_icmp .ne 509, 3) := by decide +kernel
theorem dL_refuses_712 : decode cL_refuses 712 = .ok (.aload_n 0, 1) := by decide +kernel
theorem dL_refuses_713 : decode cL_refuses 713 = .ok (.iconst 4, 1) := by decide +kernel
theorem dL_refuses_714 : decode cL_refuses 714 = .ok (.iconst 0, 1) := by decide +kernel
theorem dL_refuses_715 : decode cL_refuses 715 = .ok (.iload 13, 2) := by decide +kernel
theorem dL_refuses_717 : decode cL_refuses 717 = .ok (.iconst 0, 1) := by decide +kernel
theorem dL_refuses_718 : decode cL_refuses 718 = .ok (.iconst 0, 1) := by decide +kernel
theorem dL_refuses_719 : decode cL_refuses 719 = .ok (.iconst 0, 1) := by decide +kernel
theorem dL_refuses_720 : decode cL_refuses 720 = .ok (.invokestatic 157, 3) := by decide +kernel
theorem dL_refuses_723 : decode cL_refuses 723 = .ok (.bipush (-71), 2) := by decide +kernel
theorem dL_refuses_725 : decode cL_refuses 725 = .ok (.if_icmp .ne 493, 3) := by decide +kernel
theorem dL_refuses_728 : decode cL_refuses 728 = .ok (.aload_n 0, 1) := by decide +kernel
theorem dL_refuses_729 : decode cL_refuses 729 = .ok (.iconst 5, 1) := by decide +kernel
theorem dL_refuses_730 : decode cL_refuses 730 = .ok (.iload 15, 2) := by decide +kernel
theorem dL_refuses_732 : decode cL_refuses 732 = .ok (.iconst 0, 1) := by decide +kernel
theorem dL_refuses_733 : decode cL_refuses 733 = .ok (.iconst 0, 1) := by decide +kernel
theorem dL_refuses_734 : decode cL_refuses 734 = .ok (.iconst 0, 1) := by decide +kernel
theorem dL_refuses_735 : decode cL_refuses 735 = .ok (.iconst 0, 1) := by decide +kernel
theorem dL_refuses_736 : decode cL_refuses 736 = .ok (.invokestatic 157, 3) := by decide +kernel
theorem dL_refuses_739 : decode cL_refuses 739 = .ok (.bipush (-71), 2) := by decide +kernel
theorem dL_refuses_741 : decode cL_refuses 741 = .ok (.if_icmp .ne 477, 3) := by decide +kernel
theorem dL_refuses_744 : decode cL_refuses 744 = .ok (.aload_n 0, 1) := by decide +kernel
theorem dL_refuses_745 : decode cL_refuses 745 = .ok (.iconst 5, 1) := by decide +kernel
theorem dL_refuses_746 : decode cL_refuses 746 = .ok (.iconst 0, 1) := by decide +kernel
theorem dL_refuses_747 : decode cL_refuses 747 = .ok (.iload 22, 2) := by decide +kernel
theorem dL_refuses_749 : decode cL_refuses 749 = .ok (.iconst 0, 1) := by decide +kernel
theorem dL_refuses_750 : decode cL_refuses 750 = .ok (.iconst 0, 1) := by decide +kernel
theorem dL_refuses_751 : decode cL_refuses 751 = .ok (.iconst 0, 1) := by decide +kernel
theorem dL_refuses_752 : decode cL_refuses 752 = .ok (.invokestatic 157, 3) := by decide +kernel
theorem dL_refuses_755 : decode cL_refuses 755 = .ok (.bipush (-71), 2) := by decide +kernel
theorem dL_refuses_757 : decode cL_refuses 757 = .ok (.if_icmp .ne 461, 3) := by decide +kernel
theorem dL_refuses_760 : decode cL_refuses 760 = .ok (.aload_n 0, 1) := by decide +kernel
theorem dL_refuses_761 : decode cL_refuses 761 = .ok (.bipush 6, 2) := by decide +kernel
theorem dL_refuses_763 : decode cL_refuses 763 = .ok (.iload 14, 2) := by decide +kernel
theorem dL_refuses_765 : decode cL_refuses 765 = .ok (.iconst 0, 1) := by decide +kernel
theorem dL_refuses_766 : decode cL_refuses 766 = .ok (.iconst 0, 1) := by decide +kernel
theorem dL_refuses_767 : decode cL_refuses 767 = .ok (.iconst 0, 1) := by decide +kernel
theorem dL_refuses_768 : decode cL_refuses 768 = .ok (.iconst 0, 1) := by decide +kernel
theorem dL_refuses_769 : decode cL_refuses 769 = .ok (.invokestatic 157, 3) := by decide +kernel
theorem dL_refuses_772 : decode cL_refuses 772 = .ok (.bipush (-71), 2) := by decide +kernel
theorem dL_refuses_774 : decode cL_refuses 774 = .ok (.if_icmp .ne 444, 3) := by decide +kernel
theorem dL_refuses_777 : decode cL_refuses 777 = .ok (.aload_n 0, 1) := by decide +kernel
theorem dL_refuses_778 : decode cL_refuses 778 = .ok (.bipush 6, 2) := by decide +kernel
theorem dL_refuses_780 : decode cL_refuses 780 = .ok (.iconst 0, 1) := by decide +kernel
theorem dL_refuses_781 : decode cL_refuses 781 = .ok (.iload 15, 2) := by decide +kernel
theorem dL_refuses_783 : decode cL_refuses 783 = .ok (.iconst 0, 1) := by decide +kernel
theorem dL_refuses_784 : decode cL_refuses 784 = .ok (.iconst 0, 1) := by decide +kernel
theorem dL_refuses_785 : decode cL_refuses 785 = .ok (.iconst 0, 1) := by decide +kernel
theorem dL_refuses_786 : decode cL_refuses 786 = .ok (.invokestatic 157, 3) := by decide +kernel
theorem dL_refuses_789 : decode cL_refuses 789 = .ok (.bipush (-71), 2) := by decide +kernel
theorem dL_refuses_791 : decode cL_refuses 791 = .ok (.if_icmp .ne 427, 3) := by decide +kernel
theorem dL_refuses_794 : decode cL_refuses 794 = .ok (.aload_n 0, 1) := by decide +kernel
theorem dL_refuses_795 : decode cL_refuses 795 = .ok (.bipush 6, 2) := by decide +kernel
theorem dL_refuses_797 : decode cL_refuses 797 = .ok (.iconst 0, 1) := by decide +kernel
theorem dL_refuses_798 : decode cL_refuses 798 = .ok (.iconst 0, 1) := by decide +kernel
theorem dL_refuses_799 : decode cL_refuses 799 = .ok (.iload 21, 2) := by decide +kernel
theorem dL_refuses_801 : decode cL_refuses 801 = .ok (.iconst 0, 1) := by decide +kernel
theorem dL_refuses_802 : decode cL_refuses 802 = .ok (.iconst 0, 1) := by decide +kernel
theorem dL_refuses_803 : decode cL_refuses 803 = .ok (.invokestatic 157, 3) := by decide +kernel
theorem dL_refuses_806 : decode cL_refuses 806 = .ok (.bipush (-72), 2) := by decide +kernel
theorem dL_refuses_808 : decode cL_refuses 808 = .ok (.if_icmp .ne 410, 3) := by decide +kernel
theorem dL_refuses_811 : decode cL_refuses 811 = .ok (.aload_n 0, 1) := by decide +kernel
theorem dL_refuses_812 : decode cL_refuses 812 = .ok (.bipush 7, 2) := by decide +kernel
theorem dL_refuses_814 : decode cL_refuses 814 = .ok (.iload 21, 2) := by decide +kernel
theorem dL_refuses_816 : decode cL_refuses 816 = .ok (.iconst 0, 1) := by decide +kernel
theorem dL_refuses_817 : decode cL_refuses 817 = .ok (.iconst 0, 1) := by decide +kernel
theorem dL_refuses_818 : decode cL_refuses 818 = .ok (.iconst 0, 1) := by decide +kernel
theorem dL_refuses_819 : decode cL_refuses 819 = .ok (.iconst 0, 1) := by decide +kernel
theorem dL_refuses_820 : decode cL_refuses 820 = .ok (.invokestatic 157, 3) := by decide +kernel
theorem dL_refuses_823 : decode cL_refuses 823 = .ok (.bipush (-72), 2) := by decide +kernel
theorem dL_refuses_825 : decode cL_refuses 825 = .ok (.if_icmp .ne 393, 3) := by decide +kernel
theorem dL_refuses_828 : decode cL_refuses 828 = .ok (.aload_n 0, 1) := by decide +kernel
theorem dL_refuses_829 : decode cL_refuses 829 = .ok (.bipush 8, 2) := by decide +kernel
theorem dL_refuses_831 : decode cL_refuses 831 = .ok (.iload 10, 2) := by decide +kernel
theorem dL_refuses_833 : decode cL_refuses 833 = .ok (.iconst 1, 1) := by decide +kernel
theorem dL_refuses_834 : decode cL_refuses 834 = .ok (.if_icmp .ne 7, 3) := by decide +kernel
theorem dL_refuses_837 : decode cL_refuses 837 = .ok (.iload_n 1, 1) := by decide +kernel
theorem dL_refuses_838 : decode cL_refuses 838 = .ok (.goto 5, 3) := by decide +kernel
theorem dL_refuses_841 : decode cL_refuses 841 = .ok (.iload 11, 2) := by decide +kernel
theorem dL_refuses_843 : decode cL_refuses 843 = .ok (.iconst 0, 1) := by decide +kernel
theorem dL_refuses_844 : decode cL_refuses 844 = .ok (.iconst 0, 1) := by decide +kernel
theorem dL_refuses_845 : decode cL_refuses 845 = .ok (.iconst 0, 1) := by decide +kernel
theorem dL_refuses_846 : decode cL_refuses 846 = .ok (.iconst 0, 1) := by decide +kernel
theorem dL_refuses_847 : decode cL_refuses 847 = .ok (.invokestatic 157, 3) := by decide +kernel
theorem dL_refuses_850 : decode cL_refuses 850 = .ok (.bipush (-71), 2) := by decide +kernel
theorem dL_refuses_852 : decode cL_refuses 852 = .ok (.if_icmp .ne 366, 3) := by decide +kernel
theorem dL_refuses_855 : decode cL_refuses 855 = .ok (.aload_n 0, 1) := by decide +kernel
theorem dL_refuses_856 : decode cL_refuses 856 = .ok (.bipush 9, 2) := by decide +kernel
theorem dL_refuses_858 : decode cL_refuses 858 = .ok (.iload 15, 2) := by decide +kernel
theorem dL_refuses_860 : decode cL_refuses 860 = .ok (.iconst 0, 1) := by decide +kernel
theorem dL_refuses_861 : decode cL_refuses 861 = .ok (.iconst 0, 1) := by decide +kernel
theorem dL_refuses_862 : decode cL_refuses 862 = .ok (.iconst 0, 1) := by decide +kernel
theorem dL_refuses_863 : decode cL_refuses 863 = .ok (.iconst 0, 1) := by decide +kernel
theorem dL_refuses_864 : decode cL_refuses 864 = .ok (.invokestatic 157, 3) := by decide +kernel
theorem dL_refuses_867 : decode cL_refuses 867 = .ok (.bipush (-71), 2) := by decide +kernel
theorem dL_refuses_869 : decode cL_refuses 869 = .ok (.if_icmp .ne 349, 3) := by decide +kernel
theorem dL_refuses_872 : decode cL_refuses 872 = .ok (.aload_n 0, 1) := by decide +kernel
theorem dL_refuses_873 : decode cL_refuses 873 = .ok (.bipush 10, 2) := by decide +kernel
theorem dL_refuses_875 : decode cL_refuses 875 = .ok (.iload 15, 2) := by decide +kernel
theorem dL_refuses_877 : decode cL_refuses 877 = .ok (.iconst 0, 1) := by decide +kernel
theorem dL_refuses_878 : decode cL_refuses 878 = .ok (.iconst 0, 1) := by decide +kernel
theorem dL_refuses_879 : decode cL_refuses 879 = .ok (.iconst 0, 1) := by decide +kernel
theorem dL_refuses_880 : decode cL_refuses 880 = .ok (.iconst 0, 1) := by decide +kernel
theorem dL_refuses_881 : decode cL_refuses 881 = .ok (.invokestatic 157, 3) := by decide +kernel
theorem dL_refuses_884 : decode cL_refuses 884 = .ok (.bipush (-71), 2) := by decide +kernel
theorem dL_refuses_886 : decode cL_refuses 886 = .ok (.if_icmp .ne 332, 3) := by decide +kernel
theorem dL_refuses_889 : decode cL_refuses 889 = .ok (.aload_n 0, 1) := by decide +kernel
theorem dL_refuses_890 : decode cL_refuses 890 = .ok (.bipush 11, 2) := by decide +kernel
theorem dL_refuses_892 : decode cL_refuses 892 = .ok (.iload 15, 2) := by decide +kernel
theorem dL_refuses_894 : decode cL_refuses 894 = .ok (.iconst 0, 1) := by decide +kernel
theorem dL_refuses_895 : decode cL_refuses 895 = .ok (.iconst 0, 1) := by decide +kernel
theorem dL_refuses_896 : decode cL_refuses 896 = .ok (.iconst 0, 1) := by decide +kernel
theorem dL_refuses_897 : decode cL_refuses 897 = .ok (.iconst 0, 1) := by decide +kernel
theorem dL_refuses_898 : decode cL_refuses 898 = .ok (.invokestatic 157, 3) := by decide +kernel
theorem dL_refuses_901 : decode cL_refuses 901 = .ok (.bipush (-71), 2) := by decide +kernel
theorem dL_refuses_903 : decode cL_refuses 903 = .ok (.if_icmp .ne 315, 3) := by decide +kernel
theorem dL_refuses_906 : decode cL_refuses 906 = .ok (.aload_n 0, 1) := by decide +kernel
theorem dL_refuses_907 : decode cL_refuses 907 = .ok (.bipush 12, 2) := by decide +kernel
theorem dL_refuses_909 : decode cL_refuses 909 = .ok (.iload 15, 2) := by decide +kernel
theorem dL_refuses_911 : decode cL_refuses 911 = .ok (.bipush 9, 2) := by decide +kernel
theorem dL_refuses_913 : decode cL_refuses 913 = .ok (.bipush 8, 2) := by decide +kernel
theorem dL_refuses_915 : decode cL_refuses 915 = .ok (.iconst 0, 1) := by decide +kernel
theorem dL_refuses_916 : decode cL_refuses 916 = .ok (.iconst 0, 1) := by decide +kernel
theorem dL_refuses_917 : decode cL_refuses 917 = .ok (.invokestatic 157, 3) := by decide +kernel
theorem dL_refuses_920 : decode cL_refuses 920 = .ok (.bipush (-71), 2) := by decide +kernel
theorem dL_refuses_922 : decode cL_refuses 922 = .ok (.if_icmp .ne 296, 3) := by decide +kernel
theorem dL_refuses_925 : decode cL_refuses 925 = .ok (.aload_n 0, 1) := by decide +kernel
theorem dL_refuses_926 : decode cL_refuses 926 = .ok (.bipush 12, 2) := by decide +kernel
theorem dL_refuses_928 : decode cL_refuses 928 = .ok (.iconst 0, 1) := by decide +kernel
theorem dL_refuses_929 : decode cL_refuses 929 = .ok (.iload 16, 2) := by decide +kernel
theorem dL_refuses_931 : decode cL_refuses 931 = .ok (.bipush 63, 2) := by decide +kernel
theorem dL_refuses_933 : decode cL_refuses 933 = .ok (.iconst 0, 1) := by decide +kernel
theorem dL_refuses_934 : decode cL_refuses 934 = .ok (.iconst 0, 1) := by decide +kernel
theorem dL_refuses_935 : decode cL_refuses 935 = .ok (.invokestatic 157, 3) := by decide +kernel
theorem dL_refuses_938 : decode cL_refuses 938 = .ok (.bipush (-72), 2) := by decide +kernel
theorem dL_refuses_940 : decode cL_refuses 940 = .ok (.if_icmp .ne 278, 3) := by decide +kernel
theorem dL_refuses_943 : decode cL_refuses 943 = .ok (.aload_n 0, 1) := by decide +kernel
theorem dL_refuses_944 : decode cL_refuses 944 = .ok (.bipush 12, 2) := by decide +kernel
theorem dL_refuses_946 : decode cL_refuses 946 = .ok (.iconst 0, 1) := by decide +kernel
theorem dL_refuses_947 : decode cL_refuses 947 = .ok (.bipush 9, 2) := by decide +kernel
theorem dL_refuses_949 : decode cL_refuses 949 = .ok (.iload 10, 2) := by decide +kernel
theorem dL_refuses_951 : decode cL_refuses 951 = .ok (.iconst 1, 1) := by decide +kernel
theorem dL_refuses_952 : decode cL_refuses 952 = .ok (.if_icmp .ne 8, 3) := by decide +kernel
theorem dL_refuses_955 : decode cL_refuses 955 = .ok (.bipush 8, 2) := by decide +kernel
theorem dL_refuses_957 : decode cL_refuses 957 = .ok (.goto 15, 3) := by decide +kernel
theorem dL_refuses_960 : decode cL_refuses 960 = .ok (.iload 10, 2) := by decide +kernel
theorem dL_refuses_962 : decode cL_refuses 962 = .ok (.ifCond .ne 8, 3) := by decide +kernel
theorem dL_refuses_965 : decode cL_refuses 965 = .ok (.bipush 64, 2) := by decide +kernel
theorem dL_refuses_967 : decode cL_refuses 967 = .ok (.goto 5, 3) := by decide +kernel
theorem dL_refuses_970 : decode cL_refuses 970 = .ok (.iload 11, 2) := by decide +kernel
theorem dL_refuses_972 : decode cL_refuses 972 = .ok (.iconst 0, 1) := by decide +kernel
theorem dL_refuses_973 : decode cL_refuses 973 = .ok (.iconst 0, 1) := by decide +kernel
theorem dL_refuses_974 : decode cL_refuses 974 = .ok (.invokestatic 157, 3) := by decide +kernel
theorem dL_refuses_977 : decode cL_refuses 977 = .ok (.bipush (-72), 2) := by decide +kernel
theorem dL_refuses_979 : decode cL_refuses 979 = .ok (.if_icmp .ne 239, 3) := by decide +kernel
theorem dL_refuses_982 : decode cL_refuses 982 = .ok (.aload_n 0, 1) := by decide +kernel
theorem dL_refuses_983 : decode cL_refuses 983 = .ok (.bipush 13, 2) := by decide +kernel
theorem dL_refuses_985 : decode cL_refuses 985 = .ok (.iload 10, 2) := by decide +kernel
theorem dL_refuses_987 : decode cL_refuses 987 = .ok (.iconst 1, 1) := by decide +kernel
theorem dL_refuses_988 : decode cL_refuses 988 = .ok (.if_icmp .ne 7, 3) := by decide +kernel
theorem dL_refuses_991 : decode cL_refuses 991 = .ok (.iload_n 2, 1) := by decide +kernel
theorem dL_refuses_992 : decode cL_refuses 992 = .ok (.goto 5, 3) := by decide +kernel
theorem dL_refuses_995 : decode cL_refuses 995 = .ok (.iload 11, 2) := by decide +kernel
theorem dL_refuses_997 : decode cL_refuses 997 = .ok (.iconst 0, 1) := by decide +kernel
theorem dL_refuses_998 : decode cL_refuses 998 = .ok (.iconst 0, 1) := by decide +kernel
theorem dL_refuses_999 : decode cL_refuses 999 = .ok (.iconst 0, 1) := by decide +kernel
theorem dL_refuses_1000 : decode cL_refuses 1000 = .ok (.iconst 0, 1) := by decide +kernel
theorem dL_refuses_1001 : decode cL_refuses 1001 = .ok (.invokestatic 157, 3) := by decide +kernel
theorem dL_refuses_1004 : decode cL_refuses 1004 = .ok (.bipush (-71), 2) := by decide +kernel
theorem dL_refuses_1006 : decode cL_refuses 1006 = .ok (.if_icmp .ne 212, 3) := by decide +kernel
theorem dL_refuses_1009 : decode cL_refuses 1009 = .ok (.aload_n 0, 1) := by decide +kernel
theorem dL_refuses_1010 : decode cL_refuses 1010 = .ok (.bipush 14, 2) := by decide +kernel
theorem dL_refuses_1012 : decode cL_refuses 1012 = .ok (.iload 12, 2) := by decide +kernel
theorem dL_refuses_1014 : decode cL_refuses 1014 = .ok (.bipush 9, 2) := by decide +kernel
theorem dL_refuses_1016 : decode cL_refuses 1016 = .ok (.iconst 0, 1) := by decide +kernel
theorem dL_refuses_1017 : decode cL_refuses 1017 = .ok (.iconst 0, 1) := by decide +kernel
theorem dL_refuses_1018 : decode cL_refuses 1018 = .ok (.iconst 0, 1) := by decide +kernel
theorem dL_refuses_1019 : decode cL_refuses 1019 = .ok (.invokestatic 157, 3) := by decide +kernel
theorem dL_refuses_1022 : decode cL_refuses 1022 = .ok (.bipush (-71), 2) := by decide +kernel
theorem dL_refuses_1024 : decode cL_refuses 1024 = .ok (.if_icmp .ne 194, 3) := by decide +kernel
theorem dL_refuses_1027 : decode cL_refuses 1027 = .ok (.aload_n 0, 1) := by decide +kernel
theorem dL_refuses_1028 : decode cL_refuses 1028 = .ok (.bipush 14, 2) := by decide +kernel
theorem dL_refuses_1030 : decode cL_refuses 1030 = .ok (.iconst 0, 1) := by decide +kernel
theorem dL_refuses_1031 : decode cL_refuses 1031 = .ok (.iload 10, 2) := by decide +kernel
theorem dL_refuses_1033 : decode cL_refuses 1033 = .ok (.iconst 1, 1) := by decide +kernel
theorem dL_refuses_1034 : decode cL_refuses 1034 = .ok (.if_icmp .ne 8, 3) := by decide +kernel
theorem dL_refuses_1037 : decode cL_refuses 1037 = .ok (.bipush 8, 2) := by decide +kernel
theorem dL_refuses_1039 : decode cL_refuses 1039 = .ok (.goto 5, 3) := by decide +kernel
theorem dL_refuses_1042 : decode cL_refuses 1042 = .ok (.iload 11, 2) := by decide +kernel
theorem dL_refuses_1044 : decode cL_refuses 1044 = .ok (.iconst 0, 1) := by decide +kernel
theorem dL_refuses_1045 : decode cL_refuses 1045 = .ok (.iconst 0, 1) := by decide +kernel
theorem dL_refuses_1046 : decode cL_refuses 1046 = .ok (.iconst 0, 1) := by decide +kernel
theorem dL_refuses_1047 : decode cL_refuses 1047 = .ok (.invokestatic 157, 3) := by decide +kernel
theorem dL_refuses_1050 : decode cL_refuses 1050 = .ok (.bipush (-72), 2) := by decide +kernel
theorem dL_refuses_1052 : decode cL_refuses 1052 = .ok (.if_icmp .ne 166, 3) := by decide +kernel
theorem dL_refuses_1055 : decode cL_refuses 1055 = .ok (.aload_n 0, 1) := by decide +kernel
theorem dL_refuses_1056 : decode cL_refuses 1056 = .ok (.bipush 14, 2) := by decide +kernel
theorem dL_refuses_1058 : decode cL_refuses 1058 = .ok (.iconst 1, 1) := by decide +kernel
theorem dL_refuses_1059 : decode cL_refuses 1059 = .ok (.iconst 0, 1) := by decide +kernel
theorem dL_refuses_1060 : decode cL_refuses 1060 = .ok (.iload 10, 2) := by decide +kernel
theorem dL_refuses_1062 : decode cL_refuses 1062 = .ok (.iconst 1, 1) := by decide +kernel
theorem dL_refuses_1063 : decode cL_refuses 1063 = .ok (.if_icmp .ne 8, 3) := by decide +kernel
theorem dL_refuses_1066 : decode cL_refuses 1066 = .ok (.bipush 8, 2) := by decide +kernel
theorem dL_refuses_1068 : decode cL_refuses 1068 = .ok (.goto 5, 3) := by decide +kernel
theorem dL_refuses_1071 : decode cL_refuses 1071 = .ok (.iload 11, 2) := by decide +kernel
theorem dL_refuses_1073 : decode cL_refuses 1073 = .ok (.iconst 0, 1) := by decide +kernel
theorem dL_refuses_1074 : decode cL_refuses 1074 = .ok (.iconst 0, 1) := by decide +kernel
theorem dL_refuses_1075 : decode cL_refuses 1075 = .ok (.invokestatic 157, 3) := by decide +kernel
theorem dL_refuses_1078 : decode cL_refuses 1078 = .ok (.bipush (-72), 2) := by decide +kernel
theorem dL_refuses_1080 : decode cL_refuses 1080 = .ok (.if_icmp .ne 138, 3) := by decide +kernel
theorem dL_refuses_1083 : decode cL_refuses 1083 = .ok (.aload_n 0, 1) := by decide +kernel
theorem dL_refuses_1084 : decode cL_refuses 1084 = .ok (.bipush 14, 2) := by decide +kernel
theorem dL_refuses_1086 : decode cL_refuses 1086 = .ok (.iconst 2, 1) := by decide +kernel
theorem dL_refuses_1087 : decode cL_refuses 1087 = .ok (.iconst 0, 1) := by decide +kernel
theorem dL_refuses_1088 : decode cL_refuses 1088 = .ok (.iconst 0, 1) := by decide +kernel
theorem dL_refuses_1089 : decode cL_refuses 1089 = .ok (.iload 10, 2) := by decide +kernel
theorem dL_refuses_1091 : decode cL_refuses 1091 = .ok (.iconst 1, 1) := by decide +kernel
theorem dL_refuses_1092 : decode cL_refuses 1092 = .ok (.if_icmp .ne 8, 3) := by decide +kernel
theorem dL_refuses_1095 : decode cL_refuses 1095 = .ok (.bipush 8, 2) := by decide +kernel
theorem dL_refuses_1097 : decode cL_refuses 1097 = .ok (.goto 5, 3) := by decide +kernel
theorem dL_refuses_1100 : decode cL_refuses 1100 = .ok (.iload 11, 2) := by decide +kernel
theorem dL_refuses_1102 : decode cL_refuses 1102 = .ok (.iconst 0, 1) := by decide +kernel
theorem dL_refuses_1103 : decode cL_refuses 1103 = .ok (.invokestatic 157, 3) := by decide +kernel
theorem dL_refuses_1106 : decode cL_refuses 1106 = .ok (.bipush (-72), 2) := by decide +kernel
theorem dL_refuses_1108 : decode cL_refuses 1108 = .ok (.if_icmp .ne 110, 3) := by decide +kernel
theorem dL_refuses_1111 : decode cL_refuses 1111 = .ok (.aload_n 0, 1) := by decide +kernel
theorem dL_refuses_1112 : decode cL_refuses 1112 = .ok (.bipush 15, 2) := by decide +kernel
theorem dL_refuses_1114 : decode cL_refuses 1114 = .ok (.iload 12, 2) := by decide +kernel
theorem dL_refuses_1116 : decode cL_refuses 1116 = .ok (.iconst 0, 1) := by decide +kernel
theorem dL_refuses_1117 : decode cL_refuses 1117 = .ok (.iconst 0, 1) := by decide +kernel
theorem dL_refuses_1118 : decode cL_refuses 1118 = .ok (.iconst 0, 1) := by decide +kernel
theorem dL_refuses_1119 : decode cL_refuses 1119 = .ok (.iconst 0, 1) := by decide +kernel
theorem dL_refuses_1120 : decode cL_refuses 1120 = .ok (.invokestatic 157, 3) := by decide +kernel
theorem dL_refuses_1123 : decode cL_refuses 1123 = .ok (.bipush (-71), 2) := by decide +kernel
theorem dL_refuses_1125 : decode cL_refuses 1125 = .ok (.if_icmp .ne 93, 3) := by decide +kernel
theorem dL_refuses_1128 : decode cL_refuses 1128 = .ok (.aload_n 0, 1) := by decide +kernel
theorem dL_refuses_1129 : decode cL_refuses 1129 = .ok (.bipush 16, 2) := by decide +kernel
theorem dL_refuses_1131 : decode cL_refuses 1131 = .ok (.iload 18, 2) := by decide +kernel
theorem dL_refuses_1133 : decode cL_refuses 1133 = .ok (.iconst 0, 1) := by decide +kernel
theorem dL_refuses_1134 : decode cL_refuses 1134 = .ok (.bipush 99, 2) := by decide +kernel
theorem dL_refuses_1136 : decode cL_refuses 1136 = .ok (.iconst 0, 1) := by decide +kernel
theorem dL_refuses_1137 : decode cL_refuses 1137 = .ok (.iconst 0, 1) := by decide +kernel
theorem dL_refuses_1138 : decode cL_refuses 1138 = .ok (.invokestatic 157, 3) := by decide +kernel
theorem dL_refuses_1141 : decode cL_refuses 1141 = .ok (.bipush (-71), 2) := by decide +kernel
theorem dL_refuses_1143 : decode cL_refuses 1143 = .ok (.if_icmp .ne 75, 3) := by decide +kernel
theorem dL_refuses_1146 : decode cL_refuses 1146 = .ok (.aload_n 0, 1) := by decide +kernel
theorem dL_refuses_1147 : decode cL_refuses 1147 = .ok (.bipush 17, 2) := by decide +kernel
theorem dL_refuses_1149 : decode cL_refuses 1149 = .ok (.iload 18, 2) := by decide +kernel
theorem dL_refuses_1151 : decode cL_refuses 1151 = .ok (.iconst 0, 1) := by decide +kernel
theorem dL_refuses_1152 : decode cL_refuses 1152 = .ok (.iconst 0, 1) := by decide +kernel
theorem dL_refuses_1153 : decode cL_refuses 1153 = .ok (.iconst 0, 1) := by decide +kernel
theorem dL_refuses_1154 : decode cL_refuses 1154 = .ok (.iconst 0, 1) := by decide +kernel
theorem dL_refuses_1155 : decode cL_refuses 1155 = .ok (.invokestatic 157, 3) := by decide +kernel
theorem dL_refuses_1158 : decode cL_refuses 1158 = .ok (.bipush (-71), 2) := by decide +kernel
