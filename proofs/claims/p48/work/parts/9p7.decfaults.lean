theorem dL_faults_549 : decode cL_faults 549 = .ok (.iconst 3, 1) := by decide +kernel
theorem dL_faults_550 : decode cL_faults 550 = .ok (.if_icmp .ne 327, 3) := by decide +kernel
theorem dL_faults_553 : decode cL_faults 553 = .ok (.aload_n 2, 1) := by decide +kernel
theorem dL_faults_554 : decode cL_faults 554 = .ok (.iconst 0, 1) := by decide +kernel
theorem dL_faults_555 : decode cL_faults 555 = .ok (.invokevirtual 37, 3) := by decide +kernel
theorem dL_faults_558 : decode cL_faults 558 = .ok (.ifCond .ne 319, 3) := by decide +kernel
theorem dL_faults_561 : decode cL_faults 561 = .ok (.aload_n 2, 1) := by decide +kernel
theorem dL_faults_562 : decode cL_faults 562 = .ok (.iconst 1, 1) := by decide +kernel
theorem dL_faults_563 : decode cL_faults 563 = .ok (.invokevirtual 37, 3) := by decide +kernel
theorem dL_faults_566 : decode cL_faults 566 = .ok (.iconst 1, 1) := by decide +kernel
theorem dL_faults_567 : decode cL_faults 567 = .ok (.if_icmp .ne 310, 3) := by decide +kernel
theorem dL_faults_570 : decode cL_faults 570 = .ok (.aload_n 2, 1) := by decide +kernel
theorem dL_faults_571 : decode cL_faults 571 = .ok (.iconst 3, 1) := by decide +kernel
theorem dL_faults_572 : decode cL_faults 572 = .ok (.bipush 8, 2) := by decide +kernel
theorem dL_faults_574 : decode cL_faults 574 = .ok (.iconst 1, 1) := by decide +kernel
theorem dL_faults_575 : decode cL_faults 575 = .ok (.iconst 0, 1) := by decide +kernel
theorem dL_faults_576 : decode cL_faults 576 = .ok (.iconst 0, 1) := by decide +kernel
theorem dL_faults_577 : decode cL_faults 577 = .ok (.invokevirtual 7, 3) := by decide +kernel
theorem dL_faults_580 : decode cL_faults 580 = .ok (.iconst 4, 1) := by decide +kernel
theorem dL_faults_581 : decode cL_faults 581 = .ok (.if_icmp .ne 296, 3) := by decide +kernel
theorem dL_faults_584 : decode cL_faults 584 = .ok (.aload_n 2, 1) := by decide +kernel
theorem dL_faults_585 : decode cL_faults 585 = .ok (.iconst 1, 1) := by decide +kernel
theorem dL_faults_586 : decode cL_faults 586 = .ok (.invokevirtual 37, 3) := by decide +kernel
theorem dL_faults_589 : decode cL_faults 589 = .ok (.iconst 1, 1) := by decide +kernel
theorem dL_faults_590 : decode cL_faults 590 = .ok (.if_icmp .ne 287, 3) := by decide +kernel
theorem dL_faults_593 : decode cL_faults 593 = .ok (.aload_n 2, 1) := by decide +kernel
theorem dL_faults_594 : decode cL_faults 594 = .ok (.iconst 3, 1) := by decide +kernel
theorem dL_faults_595 : decode cL_faults 595 = .ok (.bipush 8, 2) := by decide +kernel
theorem dL_faults_597 : decode cL_faults 597 = .ok (.iconst 2, 1) := by decide +kernel
theorem dL_faults_598 : decode cL_faults 598 = .ok (.iconst 0, 1) := by decide +kernel
theorem dL_faults_599 : decode cL_faults 599 = .ok (.iconst 0, 1) := by decide +kernel
theorem dL_faults_600 : decode cL_faults 600 = .ok (.invokevirtual 7, 3) := by decide +kernel
theorem dL_faults_603 : decode cL_faults 603 = .ok (.iconst 5, 1) := by decide +kernel
theorem dL_faults_604 : decode cL_faults 604 = .ok (.if_icmp .ne 273, 3) := by decide +kernel
theorem dL_faults_607 : decode cL_faults 607 = .ok (.aload_n 2, 1) := by decide +kernel
theorem dL_faults_608 : decode cL_faults 608 = .ok (.iconst 1, 1) := by decide +kernel
theorem dL_faults_609 : decode cL_faults 609 = .ok (.invokevirtual 37, 3) := by decide +kernel
theorem dL_faults_612 : decode cL_faults 612 = .ok (.ifCond .ne 265, 3) := by decide +kernel
theorem dL_faults_615 : decode cL_faults 615 = .ok (.aload_n 2, 1) := by decide +kernel
theorem dL_faults_616 : decode cL_faults 616 = .ok (.iconst 1, 1) := by decide +kernel
theorem dL_faults_617 : decode cL_faults 617 = .ok (.bipush 10, 2) := by decide +kernel
theorem dL_faults_619 : decode cL_faults 619 = .ok (.iconst 0, 1) := by decide +kernel
theorem dL_faults_620 : decode cL_faults 620 = .ok (.iconst 0, 1) := by decide +kernel
theorem dL_faults_621 : decode cL_faults 621 = .ok (.iconst 0, 1) := by decide +kernel
theorem dL_faults_622 : decode cL_faults 622 = .ok (.invokevirtual 7, 3) := by decide +kernel
theorem dL_faults_625 : decode cL_faults 625 = .ok (.bipush 6, 2) := by decide +kernel
theorem dL_faults_627 : decode cL_faults 627 = .ok (.if_icmp .ne 250, 3) := by decide +kernel
theorem dL_faults_630 : decode cL_faults 630 = .ok (.aload_n 2, 1) := by decide +kernel
theorem dL_faults_631 : decode cL_faults 631 = .ok (.iconst 0, 1) := by decide +kernel
theorem dL_faults_632 : decode cL_faults 632 = .ok (.invokevirtual 37, 3) := by decide +kernel
theorem dL_faults_635 : decode cL_faults 635 = .ok (.iconst 2, 1) := by decide +kernel
theorem dL_faults_636 : decode cL_faults 636 = .ok (.if_icmp .ne 241, 3) := by decide +kernel
theorem dL_faults_639 : decode cL_faults 639 = .ok (.aload_n 2, 1) := by decide +kernel
theorem dL_faults_640 : decode cL_faults 640 = .ok (.iconst 0, 1) := by decide +kernel
theorem dL_faults_641 : decode cL_faults 641 = .ok (.invokevirtual 40, 3) := by decide +kernel
theorem dL_faults_644 : decode cL_faults 644 = .ok (.iconst (-1), 1) := by decide +kernel
theorem dL_faults_645 : decode cL_faults 645 = .ok (.if_icmp .ne 232, 3) := by decide +kernel
theorem dL_faults_648 : decode cL_faults 648 = .ok (.aload_n 2, 1) := by decide +kernel
theorem dL_faults_649 : decode cL_faults 649 = .ok (.iconst 1, 1) := by decide +kernel
theorem dL_faults_650 : decode cL_faults 650 = .ok (.iconst 0, 1) := by decide +kernel
theorem dL_faults_651 : decode cL_faults 651 = .ok (.iconst 0, 1) := by decide +kernel
theorem dL_faults_652 : decode cL_faults 652 = .ok (.iconst 2, 1) := by decide +kernel
theorem dL_faults_653 : decode cL_faults 653 = .ok (.iconst 0, 1) := by decide +kernel
theorem dL_faults_654 : decode cL_faults 654 = .ok (.invokevirtual 7, 3) := by decide +kernel
theorem dL_faults_657 : decode cL_faults 657 = .ok (.bipush 7, 2) := by decide +kernel
theorem dL_faults_659 : decode cL_faults 659 = .ok (.if_icmp .ne 218, 3) := by decide +kernel
theorem dL_faults_662 : decode cL_faults 662 = .ok (.aload_n 2, 1) := by decide +kernel
theorem dL_faults_663 : decode cL_faults 663 = .ok (.bipush 7, 2) := by decide +kernel
theorem dL_faults_665 : decode cL_faults 665 = .ok (.invokevirtual 37, 3) := by decide +kernel
theorem dL_faults_668 : decode cL_faults 668 = .ok (.ifCond .ne 209, 3) := by decide +kernel
theorem dL_faults_671 : decode cL_faults 671 = .ok (.aload_n 2, 1) := by decide +kernel
theorem dL_faults_672 : decode cL_faults 672 = .ok (.iconst 0, 1) := by decide +kernel
theorem dL_faults_673 : decode cL_faults 673 = .ok (.invokevirtual 40, 3) := by decide +kernel
theorem dL_faults_676 : decode cL_faults 676 = .ok (.iconst 2, 1) := by decide +kernel
theorem dL_faults_677 : decode cL_faults 677 = .ok (.if_icmp .ne 200, 3) := by decide +kernel
theorem dL_faults_680 : decode cL_faults 680 = .ok (.aload_n 2, 1) := by decide +kernel
theorem dL_faults_681 : decode cL_faults 681 = .ok (.iconst 0, 1) := by decide +kernel
theorem dL_faults_682 : decode cL_faults 682 = .ok (.iconst 1, 1) := by decide +kernel
theorem dL_faults_683 : decode cL_faults 683 = .ok (.invokevirtual 27, 3) := by decide +kernel
theorem dL_faults_686 : decode cL_faults 686 = .ok (.iconst (-1), 1) := by decide +kernel
theorem dL_faults_687 : decode cL_faults 687 = .ok (.if_icmp .ne 190, 3) := by decide +kernel
theorem dL_faults_690 : decode cL_faults 690 = .ok (.aload_n 2, 1) := by decide +kernel
theorem dL_faults_691 : decode cL_faults 691 = .ok (.bipush 7, 2) := by decide +kernel
theorem dL_faults_693 : decode cL_faults 693 = .ok (.invokevirtual 37, 3) := by decide +kernel
theorem dL_faults_696 : decode cL_faults 696 = .ok (.iconst 3, 1) := by decide +kernel
theorem dL_faults_697 : decode cL_faults 697 = .ok (.if_icmp .ne 180, 3) := by decide +kernel
theorem dL_faults_700 : decode cL_faults 700 = .ok (.aload_n 2, 1) := by decide +kernel
theorem dL_faults_701 : decode cL_faults 701 = .ok (.iconst 0, 1) := by decide +kernel
theorem dL_faults_702 : decode cL_faults 702 = .ok (.invokevirtual 40, 3) := by decide +kernel
theorem dL_faults_705 : decode cL_faults 705 = .ok (.iconst (-1), 1) := by decide +kernel
theorem dL_faults_706 : decode cL_faults 706 = .ok (.if_icmp .ne 171, 3) := by decide +kernel
theorem dL_faults_709 : decode cL_faults 709 = .ok (.aload_n 2, 1) := by decide +kernel
theorem dL_faults_710 : decode cL_faults 710 = .ok (.iconst 1, 1) := by decide +kernel
theorem dL_faults_711 : decode cL_faults 711 = .ok (.iconst 4, 1) := by decide +kernel
theorem dL_faults_712 : decode cL_faults 712 = .ok (.iconst 0, 1) := by decide +kernel
theorem dL_faults_713 : decode cL_faults 713 = .ok (.iconst 5, 1) := by decide +kernel
theorem dL_faults_714 : decode cL_faults 714 = .ok (.iconst 0, 1) := by decide +kernel
theorem dL_faults_715 : decode cL_faults 715 = .ok (.invokevirtual 7, 3) := by decide +kernel
theorem dL_faults_718 : decode cL_faults 718 = .ok (.bipush 8, 2) := by decide +kernel
theorem dL_faults_720 : decode cL_faults 720 = .ok (.if_icmp .ne 157, 3) := by decide +kernel
theorem dL_faults_723 : decode cL_faults 723 = .ok (.aload_n 2, 1) := by decide +kernel
theorem dL_faults_724 : decode cL_faults 724 = .ok (.iconst 0, 1) := by decide +kernel
theorem dL_faults_725 : decode cL_faults 725 = .ok (.invokevirtual 40, 3) := by decide +kernel
theorem dL_faults_728 : decode cL_faults 728 = .ok (.iconst 5, 1) := by decide +kernel
theorem dL_faults_729 : decode cL_faults 729 = .ok (.if_icmp .ne 148, 3) := by decide +kernel
theorem dL_faults_732 : decode cL_faults 732 = .ok (.aload_n 2, 1) := by decide +kernel
theorem dL_faults_733 : decode cL_faults 733 = .ok (.iconst 1, 1) := by decide +kernel
theorem dL_faults_734 : decode cL_faults 734 = .ok (.iconst 0, 1) := by decide +kernel
theorem dL_faults_735 : decode cL_faults 735 = .ok (.iconst 2, 1) := by decide +kernel
theorem dL_faults_736 : decode cL_faults 736 = .ok (.invokevirtual 30, 3) := by decide +kernel
theorem dL_faults_739 : decode cL_faults 739 = .ok (.iconst 2, 1) := by decide +kernel
theorem dL_faults_740 : decode cL_faults 740 = .ok (.if_icmp .ne 137, 3) := by decide +kernel
theorem dL_faults_743 : decode cL_faults 743 = .ok (.aload_n 2, 1) := by decide +kernel
theorem dL_faults_744 : decode cL_faults 744 = .ok (.bipush 7, 2) := by decide +kernel
theorem dL_faults_746 : decode cL_faults 746 = .ok (.invokevirtual 37, 3) := by decide +kernel
theorem dL_faults_749 : decode cL_faults 749 = .ok (.ifCond .ne 128, 3) := by decide +kernel
theorem dL_faults_752 : decode cL_faults 752 = .ok (.aload_n 2, 1) := by decide +kernel
theorem dL_faults_753 : decode cL_faults 753 = .ok (.iconst 1, 1) := by decide +kernel
theorem dL_faults_754 : decode cL_faults 754 = .ok (.invokevirtual 34, 3) := by decide +kernel
theorem dL_faults_757 : decode cL_faults 757 = .ok (.iconst 1, 1) := by decide +kernel
theorem dL_faults_758 : decode cL_faults 758 = .ok (.if_icmp .ne 119, 3) := by decide +kernel
theorem dL_faults_761 : decode cL_faults 761 = .ok (.aload_n 2, 1) := by decide +kernel
theorem dL_faults_762 : decode cL_faults 762 = .ok (.iconst 0, 1) := by decide +kernel
theorem dL_faults_763 : decode cL_faults 763 = .ok (.invokevirtual 40, 3) := by decide +kernel
theorem dL_faults_766 : decode cL_faults 766 = .ok (.iconst 2, 1) := by decide +kernel
theorem dL_faults_767 : decode cL_faults 767 = .ok (.if_icmp .ne 110, 3) := by decide +kernel
theorem dL_faults_770 : decode cL_faults 770 = .ok (.aload_n 2, 1) := by decide +kernel
theorem dL_faults_771 : decode cL_faults 771 = .ok (.iconst 1, 1) := by decide +kernel
theorem dL_faults_772 : decode cL_faults 772 = .ok (.invokevirtual 34, 3) := by decide +kernel
theorem dL_faults_775 : decode cL_faults 775 = .ok (.iconst 2, 1) := by decide +kernel
theorem dL_faults_776 : decode cL_faults 776 = .ok (.if_icmp .ne 101, 3) := by decide +kernel
theorem dL_faults_779 : decode cL_faults 779 = .ok (.aload_n 2, 1) := by decide +kernel
theorem dL_faults_780 : decode cL_faults 780 = .ok (.bipush 7, 2) := by decide +kernel
theorem dL_faults_782 : decode cL_faults 782 = .ok (.invokevirtual 37, 3) := by decide +kernel
theorem dL_faults_785 : decode cL_faults 785 = .ok (.iconst 3, 1) := by decide +kernel
theorem dL_faults_786 : decode cL_faults 786 = .ok (.if_icmp .ne 91, 3) := by decide +kernel
theorem dL_faults_789 : decode cL_faults 789 = .ok (.aload_n 2, 1) := by decide +kernel
theorem dL_faults_790 : decode cL_faults 790 = .ok (.iconst 1, 1) := by decide +kernel
theorem dL_faults_791 : decode cL_faults 791 = .ok (.iconst 1, 1) := by decide +kernel
theorem dL_faults_792 : decode cL_faults 792 = .ok (.invokevirtual 23, 3) := by decide +kernel
theorem dL_faults_795 : decode cL_faults 795 = .ok (.ifCond .ne 82, 3) := by decide +kernel
theorem dL_faults_798 : decode cL_faults 798 = .ok (.aload_n 2, 1) := by decide +kernel
theorem dL_faults_799 : decode cL_faults 799 = .ok (.bipush 7, 2) := by decide +kernel
theorem dL_faults_801 : decode cL_faults 801 = .ok (.invokevirtual 37, 3) := by decide +kernel
theorem dL_faults_804 : decode cL_faults 804 = .ok (.ifCond .ne 73, 3) := by decide +kernel
theorem dL_faults_807 : decode cL_faults 807 = .ok (.aload_n 2, 1) := by decide +kernel
theorem dL_faults_808 : decode cL_faults 808 = .ok (.iconst 0, 1) := by decide +kernel
theorem dL_faults_809 : decode cL_faults 809 = .ok (.iconst (-1), 1) := by decide +kernel
theorem dL_faults_810 : decode cL_faults 810 = .ok (.invokevirtual 27, 3) := by decide +kernel
theorem dL_faults_813 : decode cL_faults 813 = .ok (.iconst 1, 1) := by decide +kernel
theorem dL_faults_814 : decode cL_faults 814 = .ok (.if_icmp .ne 63, 3) := by decide +kernel
theorem dL_faults_817 : decode cL_faults 817 = .ok (.aload_n 2, 1) := by decide +kernel
theorem dL_faults_818 : decode cL_faults 818 = .ok (.iconst 0, 1) := by decide +kernel
theorem dL_faults_819 : decode cL_faults 819 = .ok (.invokevirtual 37, 3) := by decide +kernel
theorem dL_faults_822 : decode cL_faults 822 = .ok (.iconst 2, 1) := by decide +kernel
theorem dL_faults_823 : decode cL_faults 823 = .ok (.if_icmp .ne 54, 3) := by decide +kernel
theorem dL_faults_826 : decode cL_faults 826 = .ok (.aload_n 2, 1) := by decide +kernel
theorem dL_faults_827 : decode cL_faults 827 = .ok (.bipush 6, 2) := by decide +kernel
theorem dL_faults_829 : decode cL_faults 829 = .ok (.invokevirtual 20, 3) := by decide +kernel
theorem dL_faults_832 : decode cL_faults 832 = .ok (.bipush 8, 2) := by decide +kernel
theorem dL_faults_834 : decode cL_faults 834 = .ok (.if_icmp .ne 43, 3) := by decide +kernel
theorem dL_faults_837 : decode cL_faults 837 = .ok (.aload_n 2, 1) := by decide +kernel
theorem dL_faults_838 : decode cL_faults 838 = .ok (.iconst 0, 1) := by decide +kernel
theorem dL_faults_839 : decode cL_faults 839 = .ok (.invokevirtual 37, 3) := by decide +kernel
theorem dL_faults_842 : decode cL_faults 842 = .ok (.ifCond .ne 35, 3) := by decide +kernel
theorem dL_faults_845 : decode cL_faults 845 = .ok (.aload_n 2, 1) := by decide +kernel
theorem dL_faults_846 : decode cL_faults 846 = .ok (.iconst 0, 1) := by decide +kernel
theorem dL_faults_847 : decode cL_faults 847 = .ok (.invokevirtual 40, 3) := by decide +kernel
theorem dL_faults_850 : decode cL_faults 850 = .ok (.bipush (-2), 2) := by decide +kernel
theorem dL_faults_852 : decode cL_faults 852 = .ok (.if_icmp .ne 25, 3) := by decide +kernel
theorem dL_faults_855 : decode cL_faults 855 = .ok (.aload_n 2, 1) := by decide +kernel
theorem dL_faults_856 : decode cL_faults 856 = .ok (.invokevirtual 171, 3) := by decide +kernel
theorem dL_faults_859 : decode cL_faults 859 = .ok (.sipush 129, 3) := by decide +kernel
theorem dL_faults_862 : decode cL_faults 862 = .ok (.if_icmp .ne 15, 3) := by decide +kernel
theorem dL_faults_865 : decode cL_faults 865 = .ok (.aload_n 2, 1) := by decide +kernel
theorem dL_faults_866 : decode cL_faults 866 = .ok (.bipush 9, 2) := by decide +kernel
theorem dL_faults_868 : decode cL_faults 868 = .ok (.iconst 0, 1) := by decide +kernel
theorem dL_faults_869 : decode cL_faults 869 = .ok (.iconst 0, 1) := by decide +kernel
theorem dL_faults_870 : decode cL_faults 870 = .ok (.iconst 0, 1) := by decide +kernel
theorem dL_faults_871 : decode cL_faults 871 = .ok (.invokestatic 162, 3) := by decide +kernel
theorem dL_faults_874 : decode cL_faults 874 = .ok (.ifCond .ne 5, 3) := by decide +kernel
theorem dL_faults_877 : decode cL_faults 877 = .ok (.iconst 0, 1) := by decide +kernel
theorem dL_faults_878 : decode cL_faults 878 = .ok (.ireturn, 1) := by decide +kernel
theorem dL_faults_879 : decode cL_faults 879 = .ok (.new 8, 3) := by decide +kernel
theorem dL_faults_882 : decode cL_faults 882 = .ok (.dup, 1) := by decide +kernel
theorem dL_faults_883 : decode cL_faults 883 = .ok (.invokespecial 161, 3) := by decide +kernel
theorem dL_faults_886 : decode cL_faults 886 = .ok (.astore_n 3, 1) := by decide +kernel
theorem dL_faults_887 : decode cL_faults 887 = .ok (.aload_n 3, 1) := by decide +kernel
theorem dL_faults_888 : decode cL_faults 888 = .ok (.iconst 0, 1) := by decide +kernel
theorem dL_faults_889 : decode cL_faults 889 = .ok (.bipush 11, 2) := by decide +kernel
theorem dL_faults_891 : decode cL_faults 891 = .ok (.iconst 0, 1) := by decide +kernel
theorem dL_faults_892 : decode cL_faults 892 = .ok (.iconst 0, 1) := by decide +kernel
theorem dL_faults_893 : decode cL_faults 893 = .ok (.iconst 0, 1) := by decide +kernel
theorem dL_faults_894 : decode cL_faults 894 = .ok (.invokevirtual 7, 3) := by decide +kernel
theorem dL_faults_897 : decode cL_faults 897 = .ok (.ifCond .ne 173, 3) := by decide +kernel
theorem dL_faults_900 : decode cL_faults 900 = .ok (.aload_n 3, 1) := by decide +kernel
theorem dL_faults_901 : decode cL_faults 901 = .ok (.invokevirtual 174, 3) := by decide +kernel
theorem dL_faults_904 : decode cL_faults 904 = .ok (.iconst 1, 1) := by decide +kernel
theorem dL_faults_905 : decode cL_faults 905 = .ok (.if_icmp .ne 165, 3) := by decide +kernel
theorem dL_faults_908 : decode cL_faults 908 = .ok (.aload_n 3, 1) := by decide +kernel
theorem dL_faults_909 : decode cL_faults 909 = .ok (.iconst 0, 1) := by decide +kernel
theorem dL_faults_910 : decode cL_faults 910 = .ok (.iconst 5, 1) := by decide +kernel
theorem dL_faults_911 : decode cL_faults 911 = .ok (.iconst 0, 1) := by decide +kernel
theorem dL_faults_912 : decode cL_faults 912 = .ok (.iconst 1, 1) := by decide +kernel
theorem dL_faults_913 : decode cL_faults 913 = .ok (.iconst 3, 1) := by decide +kernel
theorem dL_faults_914 : decode cL_faults 914 = .ok (.invokevirtual 7, 3) := by decide +kernel
theorem dL_faults_917 : decode cL_faults 917 = .ok (.iconst 1, 1) := by decide +kernel
theorem dL_faults_918 : decode cL_faults 918 = .ok (.if_icmp .ne 152, 3) := by decide +kernel
theorem dL_faults_921 : decode cL_faults 921 = .ok (.aload_n 3, 1) := by decide +kernel
theorem dL_faults_922 : decode cL_faults 922 = .ok (.invokevirtual 174, 3) := by decide +kernel
theorem dL_faults_925 : decode cL_faults 925 = .ok (.iconst 3, 1) := by decide +kernel
theorem dL_faults_926 : decode cL_faults 926 = .ok (.if_icmp .ne 144, 3) := by decide +kernel
theorem dL_faults_929 : decode cL_faults 929 = .ok (.aload_n 3, 1) := by decide +kernel
theorem dL_faults_930 : decode cL_faults 930 = .ok (.iconst 1, 1) := by decide +kernel
theorem dL_faults_931 : decode cL_faults 931 = .ok (.bipush 7, 2) := by decide +kernel
theorem dL_faults_933 : decode cL_faults 933 = .ok (.iconst 1, 1) := by decide +kernel
theorem dL_faults_934 : decode cL_faults 934 = .ok (.bipush 9, 2) := by decide +kernel
theorem dL_faults_936 : decode cL_faults 936 = .ok (.iconst 0, 1) := by decide +kernel
theorem dL_faults_937 : decode cL_faults 937 = .ok (.invokevirtual 7, 3) := by decide +kernel
theorem dL_faults_940 : decode cL_faults 940 = .ok (.iconst 2, 1) := by decide +kernel
theorem dL_faults_941 : decode cL_faults 941 = .ok (.if_icmp .ne 129, 3) := by decide +kernel
theorem dL_faults_944 : decode cL_faults 944 = .ok (.aload_n 3, 1) := by decide +kernel
theorem dL_faults_945 : decode cL_faults 945 = .ok (.iconst 1, 1) := by decide +kernel
theorem dL_faults_946 : decode cL_faults 946 = .ok (.iconst 0, 1) := by decide +kernel
theorem dL_faults_947 : decode cL_faults 947 = .ok (.iconst 2, 1) := by decide +kernel
theorem dL_faults_948 : decode cL_faults 948 = .ok (.iconst 4, 1) := by decide +kernel
theorem dL_faults_949 : decode cL_faults 949 = .ok (.iconst 0, 1) := by decide +kernel
theorem dL_faults_950 : decode cL_faults 950 = .ok (.invokevirtual 7, 3) := by decide +kernel
theorem dL_faults_953 : decode cL_faults 953 = .ok (.iconst 3, 1) := by decide +kernel
theorem dL_faults_954 : decode cL_faults 954 = .ok (.if_icmp .ne 116, 3) := by decide +kernel
theorem dL_faults_957 : decode cL_faults 957 = .ok (.aload_n 3, 1) := by decide +kernel
theorem dL_faults_958 : decode cL_faults 958 = .ok (.invokevirtual 174, 3) := by decide +kernel
theorem dL_faults_961 : decode cL_faults 961 = .ok (.bipush 7, 2) := by decide +kernel
theorem dL_faults_963 : decode cL_faults 963 = .ok (.if_icmp .ne 107, 3) := by decide +kernel
theorem dL_faults_966 : decode cL_faults 966 = .ok (.aload_n 3, 1) := by decide +kernel
theorem dL_faults_967 : decode cL_faults 967 = .ok (.iconst 2, 1) := by decide +kernel
theorem dL_faults_968 : decode cL_faults 968 = .ok (.bipush 7, 2) := by decide +kernel
theorem dL_faults_970 : decode cL_faults 970 = .ok (.iconst 5, 1) := by decide +kernel
theorem dL_faults_971 : decode cL_faults 971 = .ok (.iconst 1, 1) := by decide +kernel
theorem dL_faults_972 : decode cL_faults 972 = .ok (.iconst 0, 1) := by decide +kernel
theorem dL_faults_973 : decode cL_faults 973 = .ok (.invokevirtual 7, 3) := by decide +kernel
theorem dL_faults_976 : decode cL_faults 976 = .ok (.iconst 4, 1) := by decide +kernel
theorem dL_faults_977 : decode cL_faults 977 = .ok (.if_icmp .ne 93, 3) := by decide +kernel
theorem dL_faults_980 : decode cL_faults 980 = .ok (.aload_n 3, 1) := by decide +kernel
theorem dL_faults_981 : decode cL_faults 981 = .ok (.iconst 2, 1) := by decide +kernel
theorem dL_faults_982 : decode cL_faults 982 = .ok (.bipush 6, 2) := by decide +kernel
theorem dL_faults_984 : decode cL_faults 984 = .ok (.iconst 2, 1) := by decide +kernel
theorem dL_faults_985 : decode cL_faults 985 = .ok (.bipush 6, 2) := by decide +kernel
theorem dL_faults_987 : decode cL_faults 987 = .ok (.iconst 0, 1) := by decide +kernel
theorem dL_faults_988 : decode cL_faults 988 = .ok (.invokevirtual 7, 3) := by decide +kernel
theorem dL_faults_991 : decode cL_faults 991 = .ok (.iconst 5, 1) := by decide +kernel
theorem dL_faults_992 : decode cL_faults 992 = .ok (.if_icmp .ne 78, 3) := by decide +kernel
theorem dL_faults_995 : decode cL_faults 995 = .ok (.aload_n 3, 1) := by decide +kernel
theorem dL_faults_996 : decode cL_faults 996 = .ok (.iconst 5, 1) := by decide +kernel
theorem dL_faults_997 : decode cL_faults 997 = .ok (.invokevirtual 37, 3) := by decide +kernel
theorem dL_faults_1000 : decode cL_faults 1000 = .ok (.bipush 10, 2) := by decide +kernel
theorem dL_faults_1002 : decode cL_faults 1002 = .ok (.if_icmp .ne 68, 3) := by decide +kernel
theorem dL_faults_1005 : decode cL_faults 1005 = .ok (.aload_n 3, 1) := by decide +kernel
theorem dL_faults_1006 : decode cL_faults 1006 = .ok (.invokevirtual 174, 3) := by decide +kernel
theorem dL_faults_1009 : decode cL_faults 1009 = .ok (.bipush 7, 2) := by decide +kernel
theorem dL_faults_1011 : decode cL_faults 1011 = .ok (.if_icmp .ne 59, 3) := by decide +kernel
theorem dL_faults_1014 : decode cL_faults 1014 = .ok (.aload_n 3, 1) := by decide +kernel
theorem dL_faults_1015 : decode cL_faults 1015 = .ok (.iconst 3, 1) := by decide +kernel
theorem dL_faults_1016 : decode cL_faults 1016 = .ok (.iconst 0, 1) := by decide +kernel
theorem dL_faults_1017 : decode cL_faults 1017 = .ok (.iconst 5, 1) := by decide +kernel
theorem dL_faults_1018 : decode cL_faults 1018 = .ok (.iconst 1, 1) := by decide +kernel
theorem dL_faults_1019 : decode cL_faults 1019 = .ok (.iconst 0, 1) := by decide +kernel
theorem dL_faults_1020 : decode cL_faults 1020 = .ok (.invokevirtual 7, 3) := by decide +kernel
theorem dL_faults_1023 : decode cL_faults 1023 = .ok (.bipush 6, 2) := by decide +kernel
theorem dL_faults_1025 : decode cL_faults 1025 = .ok (.if_icmp .ne 45, 3) := by decide +kernel
theorem dL_faults_1028 : decode cL_faults 1028 = .ok (.aload_n 3, 1) := by decide +kernel
theorem dL_faults_1029 : decode cL_faults 1029 = .ok (.invokevirtual 174, 3) := by decide +kernel
theorem dL_faults_1032 : decode cL_faults 1032 = .ok (.bipush 71, 2) := by decide +kernel
theorem dL_faults_1034 : decode cL_faults 1034 = .ok (.if_icmp .ne 36, 3) := by decide +kernel
theorem dL_faults_1037 : decode cL_faults 1037 = .ok (.aload_n 3, 1) := by decide +kernel
theorem dL_faults_1038 : decode cL_faults 1038 = .ok (.iconst 0, 1) := by decide +kernel
theorem dL_faults_1039 : decode cL_faults 1039 = .ok (.invokevirtual 20, 3) := by decide +kernel
theorem dL_faults_1042 : decode cL_faults 1042 = .ok (.bipush 6, 2) := by decide +kernel
theorem dL_faults_1044 : decode cL_faults 1044 = .ok (.if_icmp .ne 26, 3) := by decide +kernel
theorem dL_faults_1047 : decode cL_faults 1047 = .ok (.aload_n 3, 1) := by decide +kernel
theorem dL_faults_1048 : decode cL_faults 1048 = .ok (.invokevirtual 174, 3) := by decide +kernel
theorem dL_faults_1051 : decode cL_faults 1051 = .ok (.ifCond .ne 19, 3) := by decide +kernel
theorem dL_faults_1054 : decode cL_faults 1054 = .ok (.aload_n 3, 1) := by decide +kernel
theorem dL_faults_1055 : decode cL_faults 1055 = .ok (.bipush 7, 2) := by decide +kernel
theorem dL_faults_1057 : decode cL_faults 1057 = .ok (.iconst 0, 1) := by decide +kernel
theorem dL_faults_1058 : decode cL_faults 1058 = .ok (.iconst 0, 1) := by decide +kernel
theorem dL_faults_1059 : decode cL_faults 1059 = .ok (.iconst 0, 1) := by decide +kernel
theorem dL_faults_1060 : decode cL_faults 1060 = .ok (.invokestatic 162, 3) := by decide +kernel
theorem dL_faults_1063 : decode cL_faults 1063 = .ok (.ifCond .eq 7, 3) := by decide +kernel
theorem dL_faults_1066 : decode cL_faults 1066 = .ok (.iconst 1, 1) := by decide +kernel
theorem dL_faults_1067 : decode cL_faults 1067 = .ok (.goto 4, 3) := by decide +kernel
theorem dL_faults_1070 : decode cL_faults 1070 = .ok (.iconst 0, 1) := by decide +kernel
theorem dL_faults_1071 : decode cL_faults 1071 = .ok (.ireturn, 1) := by decide +kernel
