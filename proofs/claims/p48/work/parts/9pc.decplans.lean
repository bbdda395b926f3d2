theorem dL_plans_536 : decode cL_plans 536 = .ok (.iconst 0, 1) := by decide +kernel
theorem dL_plans_537 : decode cL_plans 537 = .ok (.invokevirtual 98, 3) := by decide +kernel
theorem dL_plans_540 : decode cL_plans 540 = .ok (.ifCond .eq 26, 3) := by decide +kernel
theorem dL_plans_543 : decode cL_plans 543 = .ok (.aload_n 0, 1) := by decide +kernel
theorem dL_plans_544 : decode cL_plans 544 = .ok (.iconst 1, 1) := by decide +kernel
theorem dL_plans_545 : decode cL_plans 545 = .ok (.invokevirtual 102, 3) := by decide +kernel
theorem dL_plans_548 : decode cL_plans 548 = .ok (.ifCond .ne 18, 3) := by decide +kernel
theorem dL_plans_551 : decode cL_plans 551 = .ok (.aload_n 0, 1) := by decide +kernel
theorem dL_plans_552 : decode cL_plans 552 = .ok (.bipush 26, 2) := by decide +kernel
theorem dL_plans_554 : decode cL_plans 554 = .ok (.iconst 1, 1) := by decide +kernel
theorem dL_plans_555 : decode cL_plans 555 = .ok (.iconst 0, 1) := by decide +kernel
theorem dL_plans_556 : decode cL_plans 556 = .ok (.iconst 0, 1) := by decide +kernel
theorem dL_plans_557 : decode cL_plans 557 = .ok (.iconst 0, 1) := by decide +kernel
theorem dL_plans_558 : decode cL_plans 558 = .ok (.iconst 0, 1) := by decide +kernel
theorem dL_plans_559 : decode cL_plans 559 = .ok (.invokestatic 157, 3) := by decide +kernel
theorem dL_plans_562 : decode cL_plans 562 = .ok (.iload_n 1, 1) := by decide +kernel
theorem dL_plans_563 : decode cL_plans 563 = .ok (.if_icmp .eq 5, 3) := by decide +kernel
theorem dL_plans_566 : decode cL_plans 566 = .ok (.iconst 0, 1) := by decide +kernel
theorem dL_plans_567 : decode cL_plans 567 = .ok (.ireturn, 1) := by decide +kernel
theorem dL_plans_568 : decode cL_plans 568 = .ok (.aload_n 0, 1) := by decide +kernel
theorem dL_plans_569 : decode cL_plans 569 = .ok (.iconst 1, 1) := by decide +kernel
theorem dL_plans_570 : decode cL_plans 570 = .ok (.invokevirtual 20, 3) := by decide +kernel
theorem dL_plans_573 : decode cL_plans 573 = .ok (.iconst 1, 1) := by decide +kernel
theorem dL_plans_574 : decode cL_plans 574 = .ok (.if_icmp .ne 255, 3) := by decide +kernel
theorem dL_plans_577 : decode cL_plans 577 = .ok (.aload_n 0, 1) := by decide +kernel
theorem dL_plans_578 : decode cL_plans 578 = .ok (.invokevirtual 149, 3) := by decide +kernel
theorem dL_plans_581 : decode cL_plans 581 = .ok (.iconst (-1), 1) := by decide +kernel
theorem dL_plans_582 : decode cL_plans 582 = .ok (.if_icmp .ne 247, 3) := by decide +kernel
theorem dL_plans_585 : decode cL_plans 585 = .ok (.aload_n 0, 1) := by decide +kernel
theorem dL_plans_586 : decode cL_plans 586 = .ok (.iconst 1, 1) := by decide +kernel
theorem dL_plans_587 : decode cL_plans 587 = .ok (.invokevirtual 102, 3) := by decide +kernel
theorem dL_plans_590 : decode cL_plans 590 = .ok (.ifCond .eq 239, 3) := by decide +kernel
theorem dL_plans_593 : decode cL_plans 593 = .ok (.aload_n 0, 1) := by decide +kernel
theorem dL_plans_594 : decode cL_plans 594 = .ok (.iconst 0, 1) := by decide +kernel
theorem dL_plans_595 : decode cL_plans 595 = .ok (.iconst 0, 1) := by decide +kernel
theorem dL_plans_596 : decode cL_plans 596 = .ok (.iconst 1, 1) := by decide +kernel
theorem dL_plans_597 : decode cL_plans 597 = .ok (.bipush 8, 2) := by decide +kernel
theorem dL_plans_599 : decode cL_plans 599 = .ok (.iconst 0, 1) := by decide +kernel
theorem dL_plans_600 : decode cL_plans 600 = .ok (.invokevirtual 7, 3) := by decide +kernel
theorem dL_plans_603 : decode cL_plans 603 = .ok (.iconst 2, 1) := by decide +kernel
theorem dL_plans_604 : decode cL_plans 604 = .ok (.if_icmp .ne 225, 3) := by decide +kernel
theorem dL_plans_607 : decode cL_plans 607 = .ok (.aload_n 0, 1) := by decide +kernel
theorem dL_plans_608 : decode cL_plans 608 = .ok (.invokevirtual 149, 3) := by decide +kernel
theorem dL_plans_611 : decode cL_plans 611 = .ok (.iconst 1, 1) := by decide +kernel
theorem dL_plans_612 : decode cL_plans 612 = .ok (.if_icmp .ne 217, 3) := by decide +kernel
theorem dL_plans_615 : decode cL_plans 615 = .ok (.aload_n 0, 1) := by decide +kernel
theorem dL_plans_616 : decode cL_plans 616 = .ok (.iconst 2, 1) := by decide +kernel
theorem dL_plans_617 : decode cL_plans 617 = .ok (.invokestatic 198, 3) := by decide +kernel
theorem dL_plans_620 : decode cL_plans 620 = .ok (.iconst 1, 1) := by decide +kernel
theorem dL_plans_621 : decode cL_plans 621 = .ok (.if_icmp .ne 208, 3) := by decide +kernel
theorem dL_plans_624 : decode cL_plans 624 = .ok (.aload_n 0, 1) := by decide +kernel
theorem dL_plans_625 : decode cL_plans 625 = .ok (.iconst 2, 1) := by decide +kernel
theorem dL_plans_626 : decode cL_plans 626 = .ok (.iconst 0, 1) := by decide +kernel
theorem dL_plans_627 : decode cL_plans 627 = .ok (.invokevirtual 95, 3) := by decide +kernel
theorem dL_plans_630 : decode cL_plans 630 = .ok (.sipush 203, 3) := by decide +kernel
theorem dL_plans_633 : decode cL_plans 633 = .ok (.if_icmp .ne 196, 3) := by decide +kernel
theorem dL_plans_636 : decode cL_plans 636 = .ok (.aload_n 0, 1) := by decide +kernel
theorem dL_plans_637 : decode cL_plans 637 = .ok (.iconst 0, 1) := by decide +kernel
theorem dL_plans_638 : decode cL_plans 638 = .ok (.invokevirtual 112, 3) := by decide +kernel
theorem dL_plans_641 : decode cL_plans 641 = .ok (.sipush 203, 3) := by decide +kernel
theorem dL_plans_644 : decode cL_plans 644 = .ok (.if_icmp .ne 185, 3) := by decide +kernel
theorem dL_plans_647 : decode cL_plans 647 = .ok (.aload_n 0, 1) := by decide +kernel
theorem dL_plans_648 : decode cL_plans 648 = .ok (.iconst 3, 1) := by decide +kernel
theorem dL_plans_649 : decode cL_plans 649 = .ok (.iconst 0, 1) := by decide +kernel
theorem dL_plans_650 : decode cL_plans 650 = .ok (.iconst 5, 1) := by decide +kernel
theorem dL_plans_651 : decode cL_plans 651 = .ok (.iconst 3, 1) := by decide +kernel
theorem dL_plans_652 : decode cL_plans 652 = .ok (.bipush 8, 2) := by decide +kernel
theorem dL_plans_654 : decode cL_plans 654 = .ok (.invokestatic 191, 3) := by decide +kernel
theorem dL_plans_657 : decode cL_plans 657 = .ok (.ifCond .eq 172, 3) := by decide +kernel
theorem dL_plans_660 : decode cL_plans 660 = .ok (.aload_n 0, 1) := by decide +kernel
theorem dL_plans_661 : decode cL_plans 661 = .ok (.iconst 0, 1) := by decide +kernel
theorem dL_plans_662 : decode cL_plans 662 = .ok (.iconst 5, 1) := by decide +kernel
theorem dL_plans_663 : decode cL_plans 663 = .ok (.iconst 3, 1) := by decide +kernel
theorem dL_plans_664 : decode cL_plans 664 = .ok (.bipush 8, 2) := by decide +kernel
theorem dL_plans_666 : decode cL_plans 666 = .ok (.invokestatic 195, 3) := by decide +kernel
theorem dL_plans_669 : decode cL_plans 669 = .ok (.ifCond .eq 160, 3) := by decide +kernel
theorem dL_plans_672 : decode cL_plans 672 = .ok (.aload_n 0, 1) := by decide +kernel
theorem dL_plans_673 : decode cL_plans 673 = .ok (.invokevirtual 143, 3) := by decide +kernel
theorem dL_plans_676 : decode cL_plans 676 = .ok (.iconst 2, 1) := by decide +kernel
theorem dL_plans_677 : decode cL_plans 677 = .ok (.if_icmp .ne 152, 3) := by decide +kernel
theorem dL_plans_680 : decode cL_plans 680 = .ok (.aload_n 0, 1) := by decide +kernel
theorem dL_plans_681 : decode cL_plans 681 = .ok (.iconst 0, 1) := by decide +kernel
theorem dL_plans_682 : decode cL_plans 682 = .ok (.invokevirtual 20, 3) := by decide +kernel
theorem dL_plans_685 : decode cL_plans 685 = .ok (.iconst 1, 1) := by decide +kernel
theorem dL_plans_686 : decode cL_plans 686 = .ok (.if_icmp .ne 143, 3) := by decide +kernel
theorem dL_plans_689 : decode cL_plans 689 = .ok (.aload_n 0, 1) := by decide +kernel
theorem dL_plans_690 : decode cL_plans 690 = .ok (.iconst 0, 1) := by decide +kernel
theorem dL_plans_691 : decode cL_plans 691 = .ok (.iconst 0, 1) := by decide +kernel
theorem dL_plans_692 : decode cL_plans 692 = .ok (.iconst 0, 1) := by decide +kernel
theorem dL_plans_693 : decode cL_plans 693 = .ok (.bipush 6, 2) := by decide +kernel
theorem dL_plans_695 : decode cL_plans 695 = .ok (.iconst 0, 1) := by decide +kernel
theorem dL_plans_696 : decode cL_plans 696 = .ok (.invokevirtual 7, 3) := by decide +kernel
theorem dL_plans_699 : decode cL_plans 699 = .ok (.iconst 3, 1) := by decide +kernel
theorem dL_plans_700 : decode cL_plans 700 = .ok (.if_icmp .ne 129, 3) := by decide +kernel
theorem dL_plans_703 : decode cL_plans 703 = .ok (.aload_n 0, 1) := by decide +kernel
theorem dL_plans_704 : decode cL_plans 704 = .ok (.invokevirtual 149, 3) := by decide +kernel
theorem dL_plans_707 : decode cL_plans 707 = .ok (.iconst 2, 1) := by decide +kernel
theorem dL_plans_708 : decode cL_plans 708 = .ok (.if_icmp .ne 121, 3) := by decide +kernel
theorem dL_plans_711 : decode cL_plans 711 = .ok (.aload_n 0, 1) := by decide +kernel
theorem dL_plans_712 : decode cL_plans 712 = .ok (.invokevirtual 185, 3) := by decide +kernel
theorem dL_plans_715 : decode cL_plans 715 = .ok (.iconst 1, 1) := by decide +kernel
theorem dL_plans_716 : decode cL_plans 716 = .ok (.if_icmp .ne 113, 3) := by decide +kernel
theorem dL_plans_719 : decode cL_plans 719 = .ok (.aload_n 0, 1) := by decide +kernel
theorem dL_plans_720 : decode cL_plans 720 = .ok (.iconst 3, 1) := by decide +kernel
theorem dL_plans_721 : decode cL_plans 721 = .ok (.invokestatic 198, 3) := by decide +kernel
theorem dL_plans_724 : decode cL_plans 724 = .ok (.iconst 2, 1) := by decide +kernel
theorem dL_plans_725 : decode cL_plans 725 = .ok (.if_icmp .ne 104, 3) := by decide +kernel
theorem dL_plans_728 : decode cL_plans 728 = .ok (.aload_n 0, 1) := by decide +kernel
theorem dL_plans_729 : decode cL_plans 729 = .ok (.iconst 3, 1) := by decide +kernel
theorem dL_plans_730 : decode cL_plans 730 = .ok (.iconst 0, 1) := by decide +kernel
theorem dL_plans_731 : decode cL_plans 731 = .ok (.invokevirtual 95, 3) := by decide +kernel
theorem dL_plans_734 : decode cL_plans 734 = .ok (.sipush 303, 3) := by decide +kernel
theorem dL_plans_737 : decode cL_plans 737 = .ok (.if_icmp .ne 92, 3) := by decide +kernel
theorem dL_plans_740 : decode cL_plans 740 = .ok (.aload_n 0, 1) := by decide +kernel
theorem dL_plans_741 : decode cL_plans 741 = .ok (.iconst 3, 1) := by decide +kernel
theorem dL_plans_742 : decode cL_plans 742 = .ok (.iconst 1, 1) := by decide +kernel
theorem dL_plans_743 : decode cL_plans 743 = .ok (.invokevirtual 95, 3) := by decide +kernel
theorem dL_plans_746 : decode cL_plans 746 = .ok (.bipush 103, 2) := by decide +kernel
theorem dL_plans_748 : decode cL_plans 748 = .ok (.if_icmp .ne 81, 3) := by decide +kernel
theorem dL_plans_751 : decode cL_plans 751 = .ok (.aload_n 0, 1) := by decide +kernel
theorem dL_plans_752 : decode cL_plans 752 = .ok (.iconst 0, 1) := by decide +kernel
theorem dL_plans_753 : decode cL_plans 753 = .ok (.invokevirtual 112, 3) := by decide +kernel
theorem dL_plans_756 : decode cL_plans 756 = .ok (.sipush 303, 3) := by decide +kernel
theorem dL_plans_759 : decode cL_plans 759 = .ok (.if_icmp .ne 70, 3) := by decide +kernel
theorem dL_plans_762 : decode cL_plans 762 = .ok (.aload_n 0, 1) := by decide +kernel
theorem dL_plans_763 : decode cL_plans 763 = .ok (.iconst 3, 1) := by decide +kernel
theorem dL_plans_764 : decode cL_plans 764 = .ok (.invokevirtual 115, 3) := by decide +kernel
theorem dL_plans_767 : decode cL_plans 767 = .ok (.iconst (-1), 1) := by decide +kernel
theorem dL_plans_768 : decode cL_plans 768 = .ok (.if_icmp .ne 61, 3) := by decide +kernel
theorem dL_plans_771 : decode cL_plans 771 = .ok (.aload_n 0, 1) := by decide +kernel
theorem dL_plans_772 : decode cL_plans 772 = .ok (.iconst 0, 1) := by decide +kernel
theorem dL_plans_773 : decode cL_plans 773 = .ok (.iconst 0, 1) := by decide +kernel
theorem dL_plans_774 : decode cL_plans 774 = .ok (.invokevirtual 121, 3) := by decide +kernel
theorem dL_plans_777 : decode cL_plans 777 = .ok (.iconst (-1), 1) := by decide +kernel
theorem dL_plans_778 : decode cL_plans 778 = .ok (.if_icmp .ne 51, 3) := by decide +kernel
theorem dL_plans_781 : decode cL_plans 781 = .ok (.aload_n 0, 1) := by decide +kernel
theorem dL_plans_782 : decode cL_plans 782 = .ok (.invokevirtual 188, 3) := by decide +kernel
theorem dL_plans_785 : decode cL_plans 785 = .ok (.ifCond .eq 44, 3) := by decide +kernel
theorem dL_plans_788 : decode cL_plans 788 = .ok (.aload_n 0, 1) := by decide +kernel
theorem dL_plans_789 : decode cL_plans 789 = .ok (.iconst 0, 1) := by decide +kernel
theorem dL_plans_790 : decode cL_plans 790 = .ok (.invokevirtual 112, 3) := by decide +kernel
theorem dL_plans_793 : decode cL_plans 793 = .ok (.bipush 103, 2) := by decide +kernel
theorem dL_plans_795 : decode cL_plans 795 = .ok (.if_icmp .ne 34, 3) := by decide +kernel
theorem dL_plans_798 : decode cL_plans 798 = .ok (.aload_n 0, 1) := by decide +kernel
theorem dL_plans_799 : decode cL_plans 799 = .ok (.invokevirtual 152, 3) := by decide +kernel
theorem dL_plans_802 : decode cL_plans 802 = .ok (.ifCond .ne 27, 3) := by decide +kernel
theorem dL_plans_805 : decode cL_plans 805 = .ok (.aload_n 0, 1) := by decide +kernel
theorem dL_plans_806 : decode cL_plans 806 = .ok (.iconst 3, 1) := by decide +kernel
theorem dL_plans_807 : decode cL_plans 807 = .ok (.bipush 100, 2) := by decide +kernel
theorem dL_plans_809 : decode cL_plans 809 = .ok (.bipush 6, 2) := by decide +kernel
theorem dL_plans_811 : decode cL_plans 811 = .ok (.bipush 10, 2) := by decide +kernel
theorem dL_plans_813 : decode cL_plans 813 = .ok (.bipush 8, 2) := by decide +kernel
theorem dL_plans_815 : decode cL_plans 815 = .ok (.invokestatic 191, 3) := by decide +kernel
theorem dL_plans_818 : decode cL_plans 818 = .ok (.ifCond .eq 11, 3) := by decide +kernel
theorem dL_plans_821 : decode cL_plans 821 = .ok (.aload_n 0, 1) := by decide +kernel
theorem dL_plans_822 : decode cL_plans 822 = .ok (.invokevirtual 143, 3) := by decide +kernel
theorem dL_plans_825 : decode cL_plans 825 = .ok (.iconst 4, 1) := by decide +kernel
theorem dL_plans_826 : decode cL_plans 826 = .ok (.if_icmp .eq 5, 3) := by decide +kernel
theorem dL_plans_829 : decode cL_plans 829 = .ok (.iconst 0, 1) := by decide +kernel
theorem dL_plans_830 : decode cL_plans 830 = .ok (.ireturn, 1) := by decide +kernel
theorem dL_plans_831 : decode cL_plans 831 = .ok (.aload_n 0, 1) := by decide +kernel
theorem dL_plans_832 : decode cL_plans 832 = .ok (.iconst 1, 1) := by decide +kernel
theorem dL_plans_833 : decode cL_plans 833 = .ok (.invokevirtual 79, 3) := by decide +kernel
theorem dL_plans_836 : decode cL_plans 836 = .ok (.iconst 4, 1) := by decide +kernel
theorem dL_plans_837 : decode cL_plans 837 = .ok (.if_icmp .ne 343, 3) := by decide +kernel
theorem dL_plans_840 : decode cL_plans 840 = .ok (.aload_n 0, 1) := by decide +kernel
theorem dL_plans_841 : decode cL_plans 841 = .ok (.iconst 1, 1) := by decide +kernel
theorem dL_plans_842 : decode cL_plans 842 = .ok (.iconst 2, 1) := by decide +kernel
theorem dL_plans_843 : decode cL_plans 843 = .ok (.bipush 50, 2) := by decide +kernel
theorem dL_plans_845 : decode cL_plans 845 = .ok (.invokevirtual 124, 3) := by decide +kernel
theorem dL_plans_848 : decode cL_plans 848 = .ok (.bipush 8, 2) := by decide +kernel
theorem dL_plans_850 : decode cL_plans 850 = .ok (.if_icmp .ne 330, 3) := by decide +kernel
theorem dL_plans_853 : decode cL_plans 853 = .ok (.aload_n 0, 1) := by decide +kernel
theorem dL_plans_854 : decode cL_plans 854 = .ok (.invokevirtual 133, 3) := by decide +kernel
theorem dL_plans_857 : decode cL_plans 857 = .ok (.iconst 1, 1) := by decide +kernel
theorem dL_plans_858 : decode cL_plans 858 = .ok (.if_icmp .ne 322, 3) := by decide +kernel
theorem dL_plans_861 : decode cL_plans 861 = .ok (.aload_n 0, 1) := by decide +kernel
theorem dL_plans_862 : decode cL_plans 862 = .ok (.invokevirtual 143, 3) := by decide +kernel
theorem dL_plans_865 : decode cL_plans 865 = .ok (.iconst 5, 1) := by decide +kernel
theorem dL_plans_866 : decode cL_plans 866 = .ok (.if_icmp .ne 314, 3) := by decide +kernel
theorem dL_plans_869 : decode cL_plans 869 = .ok (.aload_n 0, 1) := by decide +kernel
theorem dL_plans_870 : decode cL_plans 870 = .ok (.iconst 3, 1) := by decide +kernel
theorem dL_plans_871 : decode cL_plans 871 = .ok (.bipush 100, 2) := by decide +kernel
theorem dL_plans_873 : decode cL_plans 873 = .ok (.bipush 6, 2) := by decide +kernel
theorem dL_plans_875 : decode cL_plans 875 = .ok (.bipush 10, 2) := by decide +kernel
theorem dL_plans_877 : decode cL_plans 877 = .ok (.bipush 50, 2) := by decide +kernel
theorem dL_plans_879 : decode cL_plans 879 = .ok (.invokestatic 191, 3) := by decide +kernel
theorem dL_plans_882 : decode cL_plans 882 = .ok (.ifCond .eq 298, 3) := by decide +kernel
theorem dL_plans_885 : decode cL_plans 885 = .ok (.aload_n 0, 1) := by decide +kernel
theorem dL_plans_886 : decode cL_plans 886 = .ok (.invokevirtual 133, 3) := by decide +kernel
theorem dL_plans_889 : decode cL_plans 889 = .ok (.ifCond .ne 291, 3) := by decide +kernel
theorem dL_plans_892 : decode cL_plans 892 = .ok (.aload_n 0, 1) := by decide +kernel
theorem dL_plans_893 : decode cL_plans 893 = .ok (.invokevirtual 143, 3) := by decide +kernel
theorem dL_plans_896 : decode cL_plans 896 = .ok (.iconst 5, 1) := by decide +kernel
theorem dL_plans_897 : decode cL_plans 897 = .ok (.if_icmp .ne 283, 3) := by decide +kernel
theorem dL_plans_900 : decode cL_plans 900 = .ok (.aload_n 0, 1) := by decide +kernel
theorem dL_plans_901 : decode cL_plans 901 = .ok (.iconst 2, 1) := by decide +kernel
theorem dL_plans_902 : decode cL_plans 902 = .ok (.invokevirtual 79, 3) := by decide +kernel
theorem dL_plans_905 : decode cL_plans 905 = .ok (.iconst 5, 1) := by decide +kernel
theorem dL_plans_906 : decode cL_plans 906 = .ok (.if_icmp .ne 274, 3) := by decide +kernel
theorem dL_plans_909 : decode cL_plans 909 = .ok (.aload_n 0, 1) := by decide +kernel
theorem dL_plans_910 : decode cL_plans 910 = .ok (.iconst 5, 1) := by decide +kernel
theorem dL_plans_911 : decode cL_plans 911 = .ok (.iconst 0, 1) := by decide +kernel
theorem dL_plans_912 : decode cL_plans 912 = .ok (.invokevirtual 95, 3) := by decide +kernel
theorem dL_plans_915 : decode cL_plans 915 = .ok (.sipush 203, 3) := by decide +kernel
theorem dL_plans_918 : decode cL_plans 918 = .ok (.if_icmp .ne 262, 3) := by decide +kernel
theorem dL_plans_921 : decode cL_plans 921 = .ok (.aload_n 0, 1) := by decide +kernel
theorem dL_plans_922 : decode cL_plans 922 = .ok (.iconst 0, 1) := by decide +kernel
theorem dL_plans_923 : decode cL_plans 923 = .ok (.invokevirtual 79, 3) := by decide +kernel
theorem dL_plans_926 : decode cL_plans 926 = .ok (.bipush 6, 2) := by decide +kernel
theorem dL_plans_928 : decode cL_plans 928 = .ok (.if_icmp .ne 252, 3) := by decide +kernel
theorem dL_plans_931 : decode cL_plans 931 = .ok (.aload_n 0, 1) := by decide +kernel
theorem dL_plans_932 : decode cL_plans 932 = .ok (.iconst 1, 1) := by decide +kernel
theorem dL_plans_933 : decode cL_plans 933 = .ok (.iconst 1, 1) := by decide +kernel
theorem dL_plans_934 : decode cL_plans 934 = .ok (.bipush 9, 2) := by decide +kernel
theorem dL_plans_936 : decode cL_plans 936 = .ok (.invokevirtual 124, 3) := by decide +kernel
theorem dL_plans_939 : decode cL_plans 939 = .ok (.bipush 10, 2) := by decide +kernel
theorem dL_plans_941 : decode cL_plans 941 = .ok (.if_icmp .ne 239, 3) := by decide +kernel
theorem dL_plans_944 : decode cL_plans 944 = .ok (.aload_n 0, 1) := by decide +kernel
theorem dL_plans_945 : decode cL_plans 945 = .ok (.invokevirtual 133, 3) := by decide +kernel
theorem dL_plans_948 : decode cL_plans 948 = .ok (.iconst 1, 1) := by decide +kernel
theorem dL_plans_949 : decode cL_plans 949 = .ok (.if_icmp .ne 231, 3) := by decide +kernel
theorem dL_plans_952 : decode cL_plans 952 = .ok (.aload_n 0, 1) := by decide +kernel
theorem dL_plans_953 : decode cL_plans 953 = .ok (.iconst 3, 1) := by decide +kernel
theorem dL_plans_954 : decode cL_plans 954 = .ok (.bipush 100, 2) := by decide +kernel
theorem dL_plans_956 : decode cL_plans 956 = .ok (.bipush 6, 2) := by decide +kernel
theorem dL_plans_958 : decode cL_plans 958 = .ok (.bipush 9, 2) := by decide +kernel
theorem dL_plans_960 : decode cL_plans 960 = .ok (.bipush 50, 2) := by decide +kernel
theorem dL_plans_962 : decode cL_plans 962 = .ok (.invokestatic 191, 3) := by decide +kernel
theorem dL_plans_965 : decode cL_plans 965 = .ok (.ifCond .eq 215, 3) := by decide +kernel
theorem dL_plans_968 : decode cL_plans 968 = .ok (.aload_n 0, 1) := by decide +kernel
theorem dL_plans_969 : decode cL_plans 969 = .ok (.invokevirtual 149, 3) := by decide +kernel
theorem dL_plans_972 : decode cL_plans 972 = .ok (.iconst 1, 1) := by decide +kernel
theorem dL_plans_973 : decode cL_plans 973 = .ok (.if_icmp .ne 207, 3) := by decide +kernel
theorem dL_plans_976 : decode cL_plans 976 = .ok (.aload_n 0, 1) := by decide +kernel
theorem dL_plans_977 : decode cL_plans 977 = .ok (.bipush 6, 2) := by decide +kernel
theorem dL_plans_979 : decode cL_plans 979 = .ok (.invokevirtual 102, 3) := by decide +kernel
theorem dL_plans_982 : decode cL_plans 982 = .ok (.ifCond .eq 198, 3) := by decide +kernel
theorem dL_plans_985 : decode cL_plans 985 = .ok (.aload_n 0, 1) := by decide +kernel
theorem dL_plans_986 : decode cL_plans 986 = .ok (.bipush 6, 2) := by decide +kernel
theorem dL_plans_988 : decode cL_plans 988 = .ok (.iconst 1, 1) := by decide +kernel
theorem dL_plans_989 : decode cL_plans 989 = .ok (.invokevirtual 98, 3) := by decide +kernel
theorem dL_plans_992 : decode cL_plans 992 = .ok (.ifCond .eq 188, 3) := by decide +kernel
theorem dL_plans_995 : decode cL_plans 995 = .ok (.aload_n 0, 1) := by decide +kernel
theorem dL_plans_996 : decode cL_plans 996 = .ok (.bipush 26, 2) := by decide +kernel
theorem dL_plans_998 : decode cL_plans 998 = .ok (.bipush 6, 2) := by decide +kernel
theorem dL_plans_1000 : decode cL_plans 1000 = .ok (.iconst 0, 1) := by decide +kernel
theorem dL_plans_1001 : decode cL_plans 1001 = .ok (.iconst 0, 1) := by decide +kernel
theorem dL_plans_1002 : decode cL_plans 1002 = .ok (.iconst 0, 1) := by decide +kernel
theorem dL_plans_1003 : decode cL_plans 1003 = .ok (.iconst 0, 1) := by decide +kernel
theorem dL_plans_1004 : decode cL_plans 1004 = .ok (.invokestatic 157, 3) := by decide +kernel
theorem dL_plans_1007 : decode cL_plans 1007 = .ok (.iload_n 1, 1) := by decide +kernel
theorem dL_plans_1008 : decode cL_plans 1008 = .ok (.if_icmp .ne 172, 3) := by decide +kernel
theorem dL_plans_1011 : decode cL_plans 1011 = .ok (.aload_n 0, 1) := by decide +kernel
theorem dL_plans_1012 : decode cL_plans 1012 = .ok (.bipush 6, 2) := by decide +kernel
theorem dL_plans_1014 : decode cL_plans 1014 = .ok (.invokevirtual 106, 3) := by decide +kernel
theorem dL_plans_1017 : decode cL_plans 1017 = .ok (.ifCond .eq 163, 3) := by decide +kernel
theorem dL_plans_1020 : decode cL_plans 1020 = .ok (.aload_n 0, 1) := by decide +kernel
theorem dL_plans_1021 : decode cL_plans 1021 = .ok (.bipush 6, 2) := by decide +kernel
theorem dL_plans_1023 : decode cL_plans 1023 = .ok (.invokevirtual 102, 3) := by decide +kernel
theorem dL_plans_1026 : decode cL_plans 1026 = .ok (.ifCond .ne 154, 3) := by decide +kernel
theorem dL_plans_1029 : decode cL_plans 1029 = .ok (.aload_n 0, 1) := by decide +kernel
theorem dL_plans_1030 : decode cL_plans 1030 = .ok (.bipush 6, 2) := by decide +kernel
theorem dL_plans_1032 : decode cL_plans 1032 = .ok (.invokevirtual 109, 3) := by decide +kernel
theorem dL_plans_1035 : decode cL_plans 1035 = .ok (.iconst 1, 1) := by decide +kernel
theorem dL_plans_1036 : decode cL_plans 1036 = .ok (.if_icmp .ne 144, 3) := by decide +kernel
theorem dL_plans_1039 : decode cL_plans 1039 = .ok (.aload_n 0, 1) := by decide +kernel
theorem dL_plans_1040 : decode cL_plans 1040 = .ok (.iconst 1, 1) := by decide +kernel
theorem dL_plans_1041 : decode cL_plans 1041 = .ok (.invokevirtual 112, 3) := by decide +kernel
theorem dL_plans_1044 : decode cL_plans 1044 = .ok (.sipush 203, 3) := by decide +kernel
theorem dL_plans_1047 : decode cL_plans 1047 = .ok (.if_icmp .ne 133, 3) := by decide +kernel
theorem dL_plans_1050 : decode cL_plans 1050 = .ok (.aload_n 0, 1) := by decide +kernel
theorem dL_plans_1051 : decode cL_plans 1051 = .ok (.invokevirtual 152, 3) := by decide +kernel
theorem dL_plans_1054 : decode cL_plans 1054 = .ok (.ifCond .ne 126, 3) := by decide +kernel
theorem dL_plans_1057 : decode cL_plans 1057 = .ok (.aload_n 0, 1) := by decide +kernel
theorem dL_plans_1058 : decode cL_plans 1058 = .ok (.invokevirtual 143, 3) := by decide +kernel
theorem dL_plans_1061 : decode cL_plans 1061 = .ok (.bipush 6, 2) := by decide +kernel
theorem dL_plans_1063 : decode cL_plans 1063 = .ok (.if_icmp .ne 117, 3) := by decide +kernel
theorem dL_plans_1066 : decode cL_plans 1066 = .ok (.aload_n 0, 1) := by decide +kernel
theorem dL_plans_1067 : decode cL_plans 1067 = .ok (.iconst 1, 1) := by decide +kernel
theorem dL_plans_1068 : decode cL_plans 1068 = .ok (.bipush 6, 2) := by decide +kernel
theorem dL_plans_1070 : decode cL_plans 1070 = .ok (.bipush 9, 2) := by decide +kernel
theorem dL_plans_1072 : decode cL_plans 1072 = .ok (.bipush 50, 2) := by decide +kernel
theorem dL_plans_1074 : decode cL_plans 1074 = .ok (.invokestatic 195, 3) := by decide +kernel
theorem dL_plans_1077 : decode cL_plans 1077 = .ok (.ifCond .eq 103, 3) := by decide +kernel
theorem dL_plans_1080 : decode cL_plans 1080 = .ok (.aload_n 0, 1) := by decide +kernel
theorem dL_plans_1081 : decode cL_plans 1081 = .ok (.bipush 25, 2) := by decide +kernel
theorem dL_plans_1083 : decode cL_plans 1083 = .ok (.bipush 6, 2) := by decide +kernel
theorem dL_plans_1085 : decode cL_plans 1085 = .ok (.iconst 0, 1) := by decide +kernel
theorem dL_plans_1086 : decode cL_plans 1086 = .ok (.iconst 0, 1) := by decide +kernel
theorem dL_plans_1087 : decode cL_plans 1087 = .ok (.iconst 0, 1) := by decide +kernel
theorem dL_plans_1088 : decode cL_plans 1088 = .ok (.iconst 0, 1) := by decide +kernel
theorem dL_plans_1089 : decode cL_plans 1089 = .ok (.invokestatic 157, 3) := by decide +kernel
theorem dL_plans_1092 : decode cL_plans 1092 = .ok (.iload_n 1, 1) := by decide +kernel
theorem dL_plans_1093 : decode cL_plans 1093 = .ok (.if_icmp .ne 87, 3) := by decide +kernel
theorem dL_plans_1096 : decode cL_plans 1096 = .ok (.aload_n 0, 1) := by decide +kernel
theorem dL_plans_1097 : decode cL_plans 1097 = .ok (.iconst 5, 1) := by decide +kernel
theorem dL_plans_1098 : decode cL_plans 1098 = .ok (.invokevirtual 106, 3) := by decide +kernel
theorem dL_plans_1101 : decode cL_plans 1101 = .ok (.iconst 1, 1) := by decide +kernel
theorem dL_plans_1102 : decode cL_plans 1102 = .ok (.if_icmp .ne 78, 3) := by decide +kernel
theorem dL_plans_1105 : decode cL_plans 1105 = .ok (.aload_n 0, 1) := by decide +kernel
theorem dL_plans_1106 : decode cL_plans 1106 = .ok (.iconst 1, 1) := by decide +kernel
theorem dL_plans_1107 : decode cL_plans 1107 = .ok (.invokevirtual 127, 3) := by decide +kernel
theorem dL_plans_1110 : decode cL_plans 1110 = .ok (.iconst 1, 1) := by decide +kernel
theorem dL_plans_1111 : decode cL_plans 1111 = .ok (.if_icmp .ne 69, 3) := by decide +kernel
theorem dL_plans_1114 : decode cL_plans 1114 = .ok (.aload_n 0, 1) := by decide +kernel
theorem dL_plans_1115 : decode cL_plans 1115 = .ok (.iconst 1, 1) := by decide +kernel
theorem dL_plans_1116 : decode cL_plans 1116 = .ok (.invokevirtual 127, 3) := by decide +kernel
theorem dL_plans_1119 : decode cL_plans 1119 = .ok (.ifCond .ne 61, 3) := by decide +kernel
theorem dL_plans_1122 : decode cL_plans 1122 = .ok (.aload_n 0, 1) := by decide +kernel
theorem dL_plans_1123 : decode cL_plans 1123 = .ok (.bipush 31, 2) := by decide +kernel
theorem dL_plans_1125 : decode cL_plans 1125 = .ok (.iconst 1, 1) := by decide +kernel
theorem dL_plans_1126 : decode cL_plans 1126 = .ok (.iconst 0, 1) := by decide +kernel
theorem dL_plans_1127 : decode cL_plans 1127 = .ok (.iconst 1, 1) := by decide +kernel
theorem dL_plans_1128 : decode cL_plans 1128 = .ok (.iconst 0, 1) := by decide +kernel
theorem dL_plans_1129 : decode cL_plans 1129 = .ok (.iconst 0, 1) := by decide +kernel
theorem dL_plans_1130 : decode cL_plans 1130 = .ok (.invokestatic 157, 3) := by decide +kernel
theorem dL_plans_1133 : decode cL_plans 1133 = .ok (.iload_n 1, 1) := by decide +kernel
theorem dL_plans_1134 : decode cL_plans 1134 = .ok (.if_icmp .ne 46, 3) := by decide +kernel
theorem dL_plans_1137 : decode cL_plans 1137 = .ok (.aload_n 0, 1) := by decide +kernel
