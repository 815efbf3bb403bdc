theorem dL_law_648 : decode cL_law 648 = .ok (.aload_n 1, 1) := z_dd_43 (by decide +kernel)
theorem dL_law_649 : decode cL_law 649 = .ok (.aload_n 0, 1) := z_dd_42 (by decide +kernel)
theorem dL_law_650 : decode cL_law 650 = .ok (.iload_n 3, 1) := z_dd_29 (by decide +kernel)
theorem dL_law_651 : decode cL_law 651 = .ok (.iconst 1, 1) := z_dd_4 (by decide +kernel)
theorem dL_law_652 : decode cL_law 652 = .ok (.iadd, 1) := z_dd_96 (by decide +kernel)
theorem dL_law_653 : decode cL_law 653 = .ok (.iaload, 1) := z_dd_46 (by decide +kernel)
theorem dL_law_654 : decode cL_law 654 = .ok (.invokevirtual 67, 3) := z_dd_182 (by decide +kernel)
theorem dL_law_657 : decode cL_law 657 = .ok (.pop, 1) := z_dd_87 (by decide +kernel)
theorem dL_law_658 : decode cL_law 658 = .ok (.aload_n 2, 1) := z_dd_44 (by decide +kernel)
theorem dL_law_659 : decode cL_law 659 = .ok (.aload_n 0, 1) := z_dd_42 (by decide +kernel)
theorem dL_law_660 : decode cL_law 660 = .ok (.iload_n 3, 1) := z_dd_29 (by decide +kernel)
theorem dL_law_661 : decode cL_law 661 = .ok (.iconst 1, 1) := z_dd_4 (by decide +kernel)
theorem dL_law_662 : decode cL_law 662 = .ok (.iadd, 1) := z_dd_96 (by decide +kernel)
theorem dL_law_663 : decode cL_law 663 = .ok (.iaload, 1) := z_dd_46 (by decide +kernel)
theorem dL_law_664 : decode cL_law 664 = .ok (.invokevirtual 71, 3) := z_dd_182 (by decide +kernel)
theorem dL_law_667 : decode cL_law 667 = .ok (.pop, 1) := z_dd_87 (by decide +kernel)
theorem dL_law_668 : decode cL_law 668 = .ok (.goto 840, 3) := z_dd_167 (by decide +kernel)
theorem dL_law_671 : decode cL_law 671 = .ok (.aload_n 1, 1) := z_dd_43 (by decide +kernel)
theorem dL_law_672 : decode cL_law 672 = .ok (.invokevirtual 72, 3) := z_dd_182 (by decide +kernel)
theorem dL_law_675 : decode cL_law 675 = .ok (.pop, 1) := z_dd_87 (by decide +kernel)
theorem dL_law_676 : decode cL_law 676 = .ok (.aload_n 2, 1) := z_dd_44 (by decide +kernel)
theorem dL_law_677 : decode cL_law 677 = .ok (.invokevirtual 75, 3) := z_dd_182 (by decide +kernel)
theorem dL_law_680 : decode cL_law 680 = .ok (.pop, 1) := z_dd_87 (by decide +kernel)
theorem dL_law_681 : decode cL_law 681 = .ok (.goto 827, 3) := z_dd_167 (by decide +kernel)
theorem dL_law_684 : decode cL_law 684 = .ok (.aload_n 1, 1) := z_dd_43 (by decide +kernel)
theorem dL_law_685 : decode cL_law 685 = .ok (.aload_n 0, 1) := z_dd_42 (by decide +kernel)
theorem dL_law_686 : decode cL_law 686 = .ok (.iload_n 3, 1) := z_dd_29 (by decide +kernel)
theorem dL_law_687 : decode cL_law 687 = .ok (.iconst 1, 1) := z_dd_4 (by decide +kernel)
theorem dL_law_688 : decode cL_law 688 = .ok (.iadd, 1) := z_dd_96 (by decide +kernel)
theorem dL_law_689 : decode cL_law 689 = .ok (.iaload, 1) := z_dd_46 (by decide +kernel)
theorem dL_law_690 : decode cL_law 690 = .ok (.aload_n 0, 1) := z_dd_42 (by decide +kernel)
theorem dL_law_691 : decode cL_law 691 = .ok (.iload_n 3, 1) := z_dd_29 (by decide +kernel)
theorem dL_law_692 : decode cL_law 692 = .ok (.iconst 2, 1) := z_dd_5 (by decide +kernel)
theorem dL_law_693 : decode cL_law 693 = .ok (.iadd, 1) := z_dd_96 (by decide +kernel)
theorem dL_law_694 : decode cL_law 694 = .ok (.iaload, 1) := z_dd_46 (by decide +kernel)
theorem dL_law_695 : decode cL_law 695 = .ok (.aload_n 0, 1) := z_dd_42 (by decide +kernel)
theorem dL_law_696 : decode cL_law 696 = .ok (.iload_n 3, 1) := z_dd_29 (by decide +kernel)
theorem dL_law_697 : decode cL_law 697 = .ok (.iconst 3, 1) := z_dd_6 (by decide +kernel)
theorem dL_law_698 : decode cL_law 698 = .ok (.iadd, 1) := z_dd_96 (by decide +kernel)
theorem dL_law_699 : decode cL_law 699 = .ok (.iaload, 1) := z_dd_46 (by decide +kernel)
theorem dL_law_700 : decode cL_law 700 = .ok (.invokevirtual 76, 3) := z_dd_182 (by decide +kernel)
theorem dL_law_703 : decode cL_law 703 = .ok (.pop, 1) := z_dd_87 (by decide +kernel)
theorem dL_law_704 : decode cL_law 704 = .ok (.aload_n 2, 1) := z_dd_44 (by decide +kernel)
theorem dL_law_705 : decode cL_law 705 = .ok (.aload_n 0, 1) := z_dd_42 (by decide +kernel)
theorem dL_law_706 : decode cL_law 706 = .ok (.iload_n 3, 1) := z_dd_29 (by decide +kernel)
theorem dL_law_707 : decode cL_law 707 = .ok (.iconst 1, 1) := z_dd_4 (by decide +kernel)
theorem dL_law_708 : decode cL_law 708 = .ok (.iadd, 1) := z_dd_96 (by decide +kernel)
theorem dL_law_709 : decode cL_law 709 = .ok (.iaload, 1) := z_dd_46 (by decide +kernel)
theorem dL_law_710 : decode cL_law 710 = .ok (.aload_n 0, 1) := z_dd_42 (by decide +kernel)
theorem dL_law_711 : decode cL_law 711 = .ok (.iload_n 3, 1) := z_dd_29 (by decide +kernel)
theorem dL_law_712 : decode cL_law 712 = .ok (.iconst 2, 1) := z_dd_5 (by decide +kernel)
theorem dL_law_713 : decode cL_law 713 = .ok (.iadd, 1) := z_dd_96 (by decide +kernel)
theorem dL_law_714 : decode cL_law 714 = .ok (.iaload, 1) := z_dd_46 (by decide +kernel)
theorem dL_law_715 : decode cL_law 715 = .ok (.aload_n 0, 1) := z_dd_42 (by decide +kernel)
theorem dL_law_716 : decode cL_law 716 = .ok (.iload_n 3, 1) := z_dd_29 (by decide +kernel)
theorem dL_law_717 : decode cL_law 717 = .ok (.iconst 3, 1) := z_dd_6 (by decide +kernel)
theorem dL_law_718 : decode cL_law 718 = .ok (.iadd, 1) := z_dd_96 (by decide +kernel)
theorem dL_law_719 : decode cL_law 719 = .ok (.iaload, 1) := z_dd_46 (by decide +kernel)
theorem dL_law_720 : decode cL_law 720 = .ok (.invokevirtual 79, 3) := z_dd_182 (by decide +kernel)
theorem dL_law_723 : decode cL_law 723 = .ok (.pop, 1) := z_dd_87 (by decide +kernel)
theorem dL_law_724 : decode cL_law 724 = .ok (.goto 784, 3) := z_dd_167 (by decide +kernel)
theorem dL_law_727 : decode cL_law 727 = .ok (.aload_n 1, 1) := z_dd_43 (by decide +kernel)
theorem dL_law_728 : decode cL_law 728 = .ok (.aload_n 0, 1) := z_dd_42 (by decide +kernel)
theorem dL_law_729 : decode cL_law 729 = .ok (.iload_n 3, 1) := z_dd_29 (by decide +kernel)
theorem dL_law_730 : decode cL_law 730 = .ok (.iconst 1, 1) := z_dd_4 (by decide +kernel)
theorem dL_law_731 : decode cL_law 731 = .ok (.iadd, 1) := z_dd_96 (by decide +kernel)
theorem dL_law_732 : decode cL_law 732 = .ok (.iaload, 1) := z_dd_46 (by decide +kernel)
theorem dL_law_733 : decode cL_law 733 = .ok (.invokevirtual 80, 3) := z_dd_182 (by decide +kernel)
theorem dL_law_736 : decode cL_law 736 = .ok (.pop, 1) := z_dd_87 (by decide +kernel)
theorem dL_law_737 : decode cL_law 737 = .ok (.aload_n 2, 1) := z_dd_44 (by decide +kernel)
theorem dL_law_738 : decode cL_law 738 = .ok (.aload_n 0, 1) := z_dd_42 (by decide +kernel)
theorem dL_law_739 : decode cL_law 739 = .ok (.iload_n 3, 1) := z_dd_29 (by decide +kernel)
theorem dL_law_740 : decode cL_law 740 = .ok (.iconst 1, 1) := z_dd_4 (by decide +kernel)
theorem dL_law_741 : decode cL_law 741 = .ok (.iadd, 1) := z_dd_96 (by decide +kernel)
theorem dL_law_742 : decode cL_law 742 = .ok (.iaload, 1) := z_dd_46 (by decide +kernel)
theorem dL_law_743 : decode cL_law 743 = .ok (.invokevirtual 83, 3) := z_dd_182 (by decide +kernel)
theorem dL_law_746 : decode cL_law 746 = .ok (.pop, 1) := z_dd_87 (by decide +kernel)
theorem dL_law_747 : decode cL_law 747 = .ok (.goto 761, 3) := z_dd_167 (by decide +kernel)
theorem dL_law_750 : decode cL_law 750 = .ok (.aload_n 1, 1) := z_dd_43 (by decide +kernel)
theorem dL_law_751 : decode cL_law 751 = .ok (.aload_n 0, 1) := z_dd_42 (by decide +kernel)
theorem dL_law_752 : decode cL_law 752 = .ok (.iload_n 3, 1) := z_dd_29 (by decide +kernel)
theorem dL_law_753 : decode cL_law 753 = .ok (.iconst 1, 1) := z_dd_4 (by decide +kernel)
theorem dL_law_754 : decode cL_law 754 = .ok (.iadd, 1) := z_dd_96 (by decide +kernel)
theorem dL_law_755 : decode cL_law 755 = .ok (.iaload, 1) := z_dd_46 (by decide +kernel)
theorem dL_law_756 : decode cL_law 756 = .ok (.aload_n 0, 1) := z_dd_42 (by decide +kernel)
theorem dL_law_757 : decode cL_law 757 = .ok (.iload_n 3, 1) := z_dd_29 (by decide +kernel)
theorem dL_law_758 : decode cL_law 758 = .ok (.iconst 2, 1) := z_dd_5 (by decide +kernel)
theorem dL_law_759 : decode cL_law 759 = .ok (.iadd, 1) := z_dd_96 (by decide +kernel)
theorem dL_law_760 : decode cL_law 760 = .ok (.iaload, 1) := z_dd_46 (by decide +kernel)
theorem dL_law_761 : decode cL_law 761 = .ok (.invokevirtual 84, 3) := z_dd_182 (by decide +kernel)
theorem dL_law_764 : decode cL_law 764 = .ok (.pop, 1) := z_dd_87 (by decide +kernel)
theorem dL_law_765 : decode cL_law 765 = .ok (.aload_n 2, 1) := z_dd_44 (by decide +kernel)
theorem dL_law_766 : decode cL_law 766 = .ok (.aload_n 0, 1) := z_dd_42 (by decide +kernel)
theorem dL_law_767 : decode cL_law 767 = .ok (.iload_n 3, 1) := z_dd_29 (by decide +kernel)
theorem dL_law_768 : decode cL_law 768 = .ok (.iconst 1, 1) := z_dd_4 (by decide +kernel)
theorem dL_law_769 : decode cL_law 769 = .ok (.iadd, 1) := z_dd_96 (by decide +kernel)
theorem dL_law_770 : decode cL_law 770 = .ok (.iaload, 1) := z_dd_46 (by decide +kernel)
theorem dL_law_771 : decode cL_law 771 = .ok (.aload_n 0, 1) := z_dd_42 (by decide +kernel)
theorem dL_law_772 : decode cL_law 772 = .ok (.iload_n 3, 1) := z_dd_29 (by decide +kernel)
theorem dL_law_773 : decode cL_law 773 = .ok (.iconst 2, 1) := z_dd_5 (by decide +kernel)
theorem dL_law_774 : decode cL_law 774 = .ok (.iadd, 1) := z_dd_96 (by decide +kernel)
theorem dL_law_775 : decode cL_law 775 = .ok (.iaload, 1) := z_dd_46 (by decide +kernel)
theorem dL_law_776 : decode cL_law 776 = .ok (.invokevirtual 87, 3) := z_dd_182 (by decide +kernel)
theorem dL_law_779 : decode cL_law 779 = .ok (.pop, 1) := z_dd_87 (by decide +kernel)
theorem dL_law_780 : decode cL_law 780 = .ok (.goto 728, 3) := z_dd_167 (by decide +kernel)
theorem dL_law_783 : decode cL_law 783 = .ok (.aload_n 1, 1) := z_dd_43 (by decide +kernel)
theorem dL_law_784 : decode cL_law 784 = .ok (.aload_n 0, 1) := z_dd_42 (by decide +kernel)
theorem dL_law_785 : decode cL_law 785 = .ok (.iload_n 3, 1) := z_dd_29 (by decide +kernel)
theorem dL_law_786 : decode cL_law 786 = .ok (.iconst 1, 1) := z_dd_4 (by decide +kernel)
theorem dL_law_787 : decode cL_law 787 = .ok (.iadd, 1) := z_dd_96 (by decide +kernel)
theorem dL_law_788 : decode cL_law 788 = .ok (.iaload, 1) := z_dd_46 (by decide +kernel)
theorem dL_law_789 : decode cL_law 789 = .ok (.invokevirtual 88, 3) := z_dd_182 (by decide +kernel)
theorem dL_law_792 : decode cL_law 792 = .ok (.pop, 1) := z_dd_87 (by decide +kernel)
theorem dL_law_793 : decode cL_law 793 = .ok (.aload_n 2, 1) := z_dd_44 (by decide +kernel)
theorem dL_law_794 : decode cL_law 794 = .ok (.aload_n 0, 1) := z_dd_42 (by decide +kernel)
theorem dL_law_795 : decode cL_law 795 = .ok (.iload_n 3, 1) := z_dd_29 (by decide +kernel)
theorem dL_law_796 : decode cL_law 796 = .ok (.iconst 1, 1) := z_dd_4 (by decide +kernel)
theorem dL_law_797 : decode cL_law 797 = .ok (.iadd, 1) := z_dd_96 (by decide +kernel)
theorem dL_law_798 : decode cL_law 798 = .ok (.iaload, 1) := z_dd_46 (by decide +kernel)
theorem dL_law_799 : decode cL_law 799 = .ok (.invokevirtual 91, 3) := z_dd_182 (by decide +kernel)
theorem dL_law_802 : decode cL_law 802 = .ok (.pop, 1) := z_dd_87 (by decide +kernel)
theorem dL_law_803 : decode cL_law 803 = .ok (.goto 705, 3) := z_dd_167 (by decide +kernel)
theorem dL_law_806 : decode cL_law 806 = .ok (.aload_n 1, 1) := z_dd_43 (by decide +kernel)
theorem dL_law_807 : decode cL_law 807 = .ok (.aload_n 0, 1) := z_dd_42 (by decide +kernel)
theorem dL_law_808 : decode cL_law 808 = .ok (.iload_n 3, 1) := z_dd_29 (by decide +kernel)
theorem dL_law_809 : decode cL_law 809 = .ok (.iconst 1, 1) := z_dd_4 (by decide +kernel)
theorem dL_law_810 : decode cL_law 810 = .ok (.iadd, 1) := z_dd_96 (by decide +kernel)
theorem dL_law_811 : decode cL_law 811 = .ok (.iaload, 1) := z_dd_46 (by decide +kernel)
theorem dL_law_812 : decode cL_law 812 = .ok (.aload_n 0, 1) := z_dd_42 (by decide +kernel)
theorem dL_law_813 : decode cL_law 813 = .ok (.iload_n 3, 1) := z_dd_29 (by decide +kernel)
theorem dL_law_814 : decode cL_law 814 = .ok (.iconst 2, 1) := z_dd_5 (by decide +kernel)
theorem dL_law_815 : decode cL_law 815 = .ok (.iadd, 1) := z_dd_96 (by decide +kernel)
theorem dL_law_816 : decode cL_law 816 = .ok (.iaload, 1) := z_dd_46 (by decide +kernel)
theorem dL_law_817 : decode cL_law 817 = .ok (.invokevirtual 92, 3) := z_dd_182 (by decide +kernel)
theorem dL_law_820 : decode cL_law 820 = .ok (.pop, 1) := z_dd_87 (by decide +kernel)
theorem dL_law_821 : decode cL_law 821 = .ok (.aload_n 2, 1) := z_dd_44 (by decide +kernel)
theorem dL_law_822 : decode cL_law 822 = .ok (.aload_n 0, 1) := z_dd_42 (by decide +kernel)
theorem dL_law_823 : decode cL_law 823 = .ok (.iload_n 3, 1) := z_dd_29 (by decide +kernel)
theorem dL_law_824 : decode cL_law 824 = .ok (.iconst 1, 1) := z_dd_4 (by decide +kernel)
theorem dL_law_825 : decode cL_law 825 = .ok (.iadd, 1) := z_dd_96 (by decide +kernel)
theorem dL_law_826 : decode cL_law 826 = .ok (.iaload, 1) := z_dd_46 (by decide +kernel)
theorem dL_law_827 : decode cL_law 827 = .ok (.aload_n 0, 1) := z_dd_42 (by decide +kernel)
theorem dL_law_828 : decode cL_law 828 = .ok (.iload_n 3, 1) := z_dd_29 (by decide +kernel)
theorem dL_law_829 : decode cL_law 829 = .ok (.iconst 2, 1) := z_dd_5 (by decide +kernel)
theorem dL_law_830 : decode cL_law 830 = .ok (.iadd, 1) := z_dd_96 (by decide +kernel)
theorem dL_law_831 : decode cL_law 831 = .ok (.iaload, 1) := z_dd_46 (by decide +kernel)
theorem dL_law_832 : decode cL_law 832 = .ok (.invokevirtual 95, 3) := z_dd_182 (by decide +kernel)
theorem dL_law_835 : decode cL_law 835 = .ok (.pop, 1) := z_dd_87 (by decide +kernel)
theorem dL_law_836 : decode cL_law 836 = .ok (.goto 672, 3) := z_dd_167 (by decide +kernel)
theorem dL_law_839 : decode cL_law 839 = .ok (.aload_n 1, 1) := z_dd_43 (by decide +kernel)
theorem dL_law_840 : decode cL_law 840 = .ok (.aload_n 0, 1) := z_dd_42 (by decide +kernel)
theorem dL_law_841 : decode cL_law 841 = .ok (.iload_n 3, 1) := z_dd_29 (by decide +kernel)
theorem dL_law_842 : decode cL_law 842 = .ok (.iconst 1, 1) := z_dd_4 (by decide +kernel)
theorem dL_law_843 : decode cL_law 843 = .ok (.iadd, 1) := z_dd_96 (by decide +kernel)
theorem dL_law_844 : decode cL_law 844 = .ok (.iaload, 1) := z_dd_46 (by decide +kernel)
theorem dL_law_845 : decode cL_law 845 = .ok (.aload_n 0, 1) := z_dd_42 (by decide +kernel)
theorem dL_law_846 : decode cL_law 846 = .ok (.iload_n 3, 1) := z_dd_29 (by decide +kernel)
theorem dL_law_847 : decode cL_law 847 = .ok (.iconst 2, 1) := z_dd_5 (by decide +kernel)
theorem dL_law_848 : decode cL_law 848 = .ok (.iadd, 1) := z_dd_96 (by decide +kernel)
theorem dL_law_849 : decode cL_law 849 = .ok (.iaload, 1) := z_dd_46 (by decide +kernel)
theorem dL_law_850 : decode cL_law 850 = .ok (.invokevirtual 96, 3) := z_dd_182 (by decide +kernel)
theorem dL_law_853 : decode cL_law 853 = .ok (.pop, 1) := z_dd_87 (by decide +kernel)
theorem dL_law_854 : decode cL_law 854 = .ok (.aload_n 2, 1) := z_dd_44 (by decide +kernel)
theorem dL_law_855 : decode cL_law 855 = .ok (.aload_n 0, 1) := z_dd_42 (by decide +kernel)
theorem dL_law_856 : decode cL_law 856 = .ok (.iload_n 3, 1) := z_dd_29 (by decide +kernel)
theorem dL_law_857 : decode cL_law 857 = .ok (.iconst 1, 1) := z_dd_4 (by decide +kernel)
theorem dL_law_858 : decode cL_law 858 = .ok (.iadd, 1) := z_dd_96 (by decide +kernel)
theorem dL_law_859 : decode cL_law 859 = .ok (.iaload, 1) := z_dd_46 (by decide +kernel)
theorem dL_law_860 : decode cL_law 860 = .ok (.aload_n 0, 1) := z_dd_42 (by decide +kernel)
theorem dL_law_861 : decode cL_law 861 = .ok (.iload_n 3, 1) := z_dd_29 (by decide +kernel)
theorem dL_law_862 : decode cL_law 862 = .ok (.iconst 2, 1) := z_dd_5 (by decide +kernel)
theorem dL_law_863 : decode cL_law 863 = .ok (.iadd, 1) := z_dd_96 (by decide +kernel)
theorem dL_law_864 : decode cL_law 864 = .ok (.iaload, 1) := z_dd_46 (by decide +kernel)
theorem dL_law_865 : decode cL_law 865 = .ok (.invokevirtual 99, 3) := z_dd_182 (by decide +kernel)
theorem dL_law_868 : decode cL_law 868 = .ok (.pop, 1) := z_dd_87 (by decide +kernel)
theorem dL_law_869 : decode cL_law 869 = .ok (.goto 639, 3) := z_dd_167 (by decide +kernel)
theorem dL_law_872 : decode cL_law 872 = .ok (.aload_n 1, 1) := z_dd_43 (by decide +kernel)
theorem dL_law_873 : decode cL_law 873 = .ok (.aload_n 0, 1) := z_dd_42 (by decide +kernel)
theorem dL_law_874 : decode cL_law 874 = .ok (.iload_n 3, 1) := z_dd_29 (by decide +kernel)
theorem dL_law_875 : decode cL_law 875 = .ok (.iconst 1, 1) := z_dd_4 (by decide +kernel)
theorem dL_law_876 : decode cL_law 876 = .ok (.iadd, 1) := z_dd_96 (by decide +kernel)
theorem dL_law_877 : decode cL_law 877 = .ok (.iaload, 1) := z_dd_46 (by decide +kernel)
theorem dL_law_878 : decode cL_law 878 = .ok (.aload_n 0, 1) := z_dd_42 (by decide +kernel)
theorem dL_law_879 : decode cL_law 879 = .ok (.iload_n 3, 1) := z_dd_29 (by decide +kernel)
theorem dL_law_880 : decode cL_law 880 = .ok (.iconst 2, 1) := z_dd_5 (by decide +kernel)
theorem dL_law_881 : decode cL_law 881 = .ok (.iadd, 1) := z_dd_96 (by decide +kernel)
theorem dL_law_882 : decode cL_law 882 = .ok (.iaload, 1) := z_dd_46 (by decide +kernel)
theorem dL_law_883 : decode cL_law 883 = .ok (.invokevirtual 100, 3) := z_dd_182 (by decide +kernel)
theorem dL_law_886 : decode cL_law 886 = .ok (.pop, 1) := z_dd_87 (by decide +kernel)
theorem dL_law_887 : decode cL_law 887 = .ok (.aload_n 2, 1) := z_dd_44 (by decide +kernel)
theorem dL_law_888 : decode cL_law 888 = .ok (.aload_n 0, 1) := z_dd_42 (by decide +kernel)
theorem dL_law_889 : decode cL_law 889 = .ok (.iload_n 3, 1) := z_dd_29 (by decide +kernel)
theorem dL_law_890 : decode cL_law 890 = .ok (.iconst 1, 1) := z_dd_4 (by decide +kernel)
theorem dL_law_891 : decode cL_law 891 = .ok (.iadd, 1) := z_dd_96 (by decide +kernel)
theorem dL_law_892 : decode cL_law 892 = .ok (.iaload, 1) := z_dd_46 (by decide +kernel)
theorem dL_law_893 : decode cL_law 893 = .ok (.aload_n 0, 1) := z_dd_42 (by decide +kernel)
theorem dL_law_894 : decode cL_law 894 = .ok (.iload_n 3, 1) := z_dd_29 (by decide +kernel)
theorem dL_law_895 : decode cL_law 895 = .ok (.iconst 2, 1) := z_dd_5 (by decide +kernel)
theorem dL_law_896 : decode cL_law 896 = .ok (.iadd, 1) := z_dd_96 (by decide +kernel)
theorem dL_law_897 : decode cL_law 897 = .ok (.iaload, 1) := z_dd_46 (by decide +kernel)
theorem dL_law_898 : decode cL_law 898 = .ok (.invokevirtual 103, 3) := z_dd_182 (by decide +kernel)
theorem dL_law_901 : decode cL_law 901 = .ok (.pop, 1) := z_dd_87 (by decide +kernel)
theorem dL_law_902 : decode cL_law 902 = .ok (.goto 606, 3) := z_dd_167 (by decide +kernel)
theorem dL_law_905 : decode cL_law 905 = .ok (.aload_n 1, 1) := z_dd_43 (by decide +kernel)
theorem dL_law_906 : decode cL_law 906 = .ok (.aload_n 0, 1) := z_dd_42 (by decide +kernel)
theorem dL_law_907 : decode cL_law 907 = .ok (.iload_n 3, 1) := z_dd_29 (by decide +kernel)
theorem dL_law_908 : decode cL_law 908 = .ok (.iconst 1, 1) := z_dd_4 (by decide +kernel)
theorem dL_law_909 : decode cL_law 909 = .ok (.iadd, 1) := z_dd_96 (by decide +kernel)
theorem dL_law_910 : decode cL_law 910 = .ok (.iaload, 1) := z_dd_46 (by decide +kernel)
theorem dL_law_911 : decode cL_law 911 = .ok (.aload_n 0, 1) := z_dd_42 (by decide +kernel)
theorem dL_law_912 : decode cL_law 912 = .ok (.iload_n 3, 1) := z_dd_29 (by decide +kernel)
theorem dL_law_913 : decode cL_law 913 = .ok (.iconst 2, 1) := z_dd_5 (by decide +kernel)
theorem dL_law_914 : decode cL_law 914 = .ok (.iadd, 1) := z_dd_96 (by decide +kernel)
theorem dL_law_915 : decode cL_law 915 = .ok (.iaload, 1) := z_dd_46 (by decide +kernel)
theorem dL_law_916 : decode cL_law 916 = .ok (.aload_n 0, 1) := z_dd_42 (by decide +kernel)
theorem dL_law_917 : decode cL_law 917 = .ok (.iload_n 3, 1) := z_dd_29 (by decide +kernel)
theorem dL_law_918 : decode cL_law 918 = .ok (.iconst 3, 1) := z_dd_6 (by decide +kernel)
theorem dL_law_919 : decode cL_law 919 = .ok (.iadd, 1) := z_dd_96 (by decide +kernel)
theorem dL_law_920 : decode cL_law 920 = .ok (.iaload, 1) := z_dd_46 (by decide +kernel)
theorem dL_law_921 : decode cL_law 921 = .ok (.aload_n 0, 1) := z_dd_42 (by decide +kernel)
theorem dL_law_922 : decode cL_law 922 = .ok (.iload_n 3, 1) := z_dd_29 (by decide +kernel)
theorem dL_law_923 : decode cL_law 923 = .ok (.iconst 4, 1) := z_dd_7 (by decide +kernel)
theorem dL_law_924 : decode cL_law 924 = .ok (.iadd, 1) := z_dd_96 (by decide +kernel)
theorem dL_law_925 : decode cL_law 925 = .ok (.iaload, 1) := z_dd_46 (by decide +kernel)
theorem dL_law_926 : decode cL_law 926 = .ok (.invokevirtual 104, 3) := z_dd_182 (by decide +kernel)
theorem dL_law_929 : decode cL_law 929 = .ok (.pop2, 1) := z_dd_88 (by decide +kernel)
theorem dL_law_930 : decode cL_law 930 = .ok (.aload_n 2, 1) := z_dd_44 (by decide +kernel)
theorem dL_law_931 : decode cL_law 931 = .ok (.aload_n 0, 1) := z_dd_42 (by decide +kernel)
theorem dL_law_932 : decode cL_law 932 = .ok (.iload_n 3, 1) := z_dd_29 (by decide +kernel)
theorem dL_law_933 : decode cL_law 933 = .ok (.iconst 1, 1) := z_dd_4 (by decide +kernel)
theorem dL_law_934 : decode cL_law 934 = .ok (.iadd, 1) := z_dd_96 (by decide +kernel)
theorem dL_law_935 : decode cL_law 935 = .ok (.iaload, 1) := z_dd_46 (by decide +kernel)
theorem dL_law_936 : decode cL_law 936 = .ok (.aload_n 0, 1) := z_dd_42 (by decide +kernel)
theorem dL_law_937 : decode cL_law 937 = .ok (.iload_n 3, 1) := z_dd_29 (by decide +kernel)
theorem dL_law_938 : decode cL_law 938 = .ok (.iconst 2, 1) := z_dd_5 (by decide +kernel)
theorem dL_law_939 : decode cL_law 939 = .ok (.iadd, 1) := z_dd_96 (by decide +kernel)
theorem dL_law_940 : decode cL_law 940 = .ok (.iaload, 1) := z_dd_46 (by decide +kernel)
theorem dL_law_941 : decode cL_law 941 = .ok (.aload_n 0, 1) := z_dd_42 (by decide +kernel)
theorem dL_law_942 : decode cL_law 942 = .ok (.iload_n 3, 1) := z_dd_29 (by decide +kernel)
theorem dL_law_943 : decode cL_law 943 = .ok (.iconst 3, 1) := z_dd_6 (by decide +kernel)
theorem dL_law_944 : decode cL_law 944 = .ok (.iadd, 1) := z_dd_96 (by decide +kernel)
theorem dL_law_945 : decode cL_law 945 = .ok (.iaload, 1) := z_dd_46 (by decide +kernel)
theorem dL_law_946 : decode cL_law 946 = .ok (.aload_n 0, 1) := z_dd_42 (by decide +kernel)
theorem dL_law_947 : decode cL_law 947 = .ok (.iload_n 3, 1) := z_dd_29 (by decide +kernel)
theorem dL_law_948 : decode cL_law 948 = .ok (.iconst 4, 1) := z_dd_7 (by decide +kernel)
theorem dL_law_949 : decode cL_law 949 = .ok (.iadd, 1) := z_dd_96 (by decide +kernel)
theorem dL_law_950 : decode cL_law 950 = .ok (.iaload, 1) := z_dd_46 (by decide +kernel)
theorem dL_law_951 : decode cL_law 951 = .ok (.invokevirtual 108, 3) := z_dd_182 (by decide +kernel)
theorem dL_law_954 : decode cL_law 954 = .ok (.pop2, 1) := z_dd_88 (by decide +kernel)
theorem dL_law_955 : decode cL_law 955 = .ok (.goto 553, 3) := z_dd_167 (by decide +kernel)
theorem dL_law_958 : decode cL_law 958 = .ok (.aload_n 1, 1) := z_dd_43 (by decide +kernel)
theorem dL_law_959 : decode cL_law 959 = .ok (.aload_n 0, 1) := z_dd_42 (by decide +kernel)
theorem dL_law_960 : decode cL_law 960 = .ok (.iload_n 3, 1) := z_dd_29 (by decide +kernel)
theorem dL_law_961 : decode cL_law 961 = .ok (.iconst 1, 1) := z_dd_4 (by decide +kernel)
theorem dL_law_962 : decode cL_law 962 = .ok (.iadd, 1) := z_dd_96 (by decide +kernel)
theorem dL_law_963 : decode cL_law 963 = .ok (.iaload, 1) := z_dd_46 (by decide +kernel)
theorem dL_law_964 : decode cL_law 964 = .ok (.aload_n 0, 1) := z_dd_42 (by decide +kernel)
theorem dL_law_965 : decode cL_law 965 = .ok (.iload_n 3, 1) := z_dd_29 (by decide +kernel)
theorem dL_law_966 : decode cL_law 966 = .ok (.iconst 2, 1) := z_dd_5 (by decide +kernel)
theorem dL_law_967 : decode cL_law 967 = .ok (.iadd, 1) := z_dd_96 (by decide +kernel)
theorem dL_law_968 : decode cL_law 968 = .ok (.iaload, 1) := z_dd_46 (by decide +kernel)
theorem dL_law_969 : decode cL_law 969 = .ok (.invokevirtual 109, 3) := z_dd_182 (by decide +kernel)
theorem dL_law_972 : decode cL_law 972 = .ok (.pop, 1) := z_dd_87 (by decide +kernel)
theorem dL_law_973 : decode cL_law 973 = .ok (.aload_n 2, 1) := z_dd_44 (by decide +kernel)
theorem dL_law_974 : decode cL_law 974 = .ok (.aload_n 0, 1) := z_dd_42 (by decide +kernel)
theorem dL_law_975 : decode cL_law 975 = .ok (.iload_n 3, 1) := z_dd_29 (by decide +kernel)
theorem dL_law_976 : decode cL_law 976 = .ok (.iconst 1, 1) := z_dd_4 (by decide +kernel)
theorem dL_law_977 : decode cL_law 977 = .ok (.iadd, 1) := z_dd_96 (by decide +kernel)
theorem dL_law_978 : decode cL_law 978 = .ok (.iaload, 1) := z_dd_46 (by decide +kernel)
theorem dL_law_979 : decode cL_law 979 = .ok (.aload_n 0, 1) := z_dd_42 (by decide +kernel)
theorem dL_law_980 : decode cL_law 980 = .ok (.iload_n 3, 1) := z_dd_29 (by decide +kernel)
theorem dL_law_981 : decode cL_law 981 = .ok (.iconst 2, 1) := z_dd_5 (by decide +kernel)
theorem dL_law_982 : decode cL_law 982 = .ok (.iadd, 1) := z_dd_96 (by decide +kernel)
theorem dL_law_983 : decode cL_law 983 = .ok (.iaload, 1) := z_dd_46 (by decide +kernel)
theorem dL_law_984 : decode cL_law 984 = .ok (.invokevirtual 112, 3) := z_dd_182 (by decide +kernel)
theorem dL_law_987 : decode cL_law 987 = .ok (.pop, 1) := z_dd_87 (by decide +kernel)
theorem dL_law_988 : decode cL_law 988 = .ok (.goto 520, 3) := z_dd_167 (by decide +kernel)
theorem dL_law_991 : decode cL_law 991 = .ok (.aload_n 1, 1) := z_dd_43 (by decide +kernel)
theorem dL_law_992 : decode cL_law 992 = .ok (.aload_n 0, 1) := z_dd_42 (by decide +kernel)
theorem dL_law_993 : decode cL_law 993 = .ok (.iload_n 3, 1) := z_dd_29 (by decide +kernel)
theorem dL_law_994 : decode cL_law 994 = .ok (.iconst 1, 1) := z_dd_4 (by decide +kernel)
theorem dL_law_995 : decode cL_law 995 = .ok (.iadd, 1) := z_dd_96 (by decide +kernel)
theorem dL_law_996 : decode cL_law 996 = .ok (.iaload, 1) := z_dd_46 (by decide +kernel)
theorem dL_law_997 : decode cL_law 997 = .ok (.aload_n 0, 1) := z_dd_42 (by decide +kernel)
theorem dL_law_998 : decode cL_law 998 = .ok (.iload_n 3, 1) := z_dd_29 (by decide +kernel)
theorem dL_law_999 : decode cL_law 999 = .ok (.iconst 2, 1) := z_dd_5 (by decide +kernel)
theorem dL_law_1000 : decode cL_law 1000 = .ok (.iadd, 1) := z_dd_96 (by decide +kernel)
theorem dL_law_1001 : decode cL_law 1001 = .ok (.iaload, 1) := z_dd_46 (by decide +kernel)
theorem dL_law_1002 : decode cL_law 1002 = .ok (.aload_n 0, 1) := z_dd_42 (by decide +kernel)
theorem dL_law_1003 : decode cL_law 1003 = .ok (.iload_n 3, 1) := z_dd_29 (by decide +kernel)
theorem dL_law_1004 : decode cL_law 1004 = .ok (.iconst 3, 1) := z_dd_6 (by decide +kernel)
theorem dL_law_1005 : decode cL_law 1005 = .ok (.iadd, 1) := z_dd_96 (by decide +kernel)
theorem dL_law_1006 : decode cL_law 1006 = .ok (.iaload, 1) := z_dd_46 (by decide +kernel)
theorem dL_law_1007 : decode cL_law 1007 = .ok (.invokevirtual 113, 3) := z_dd_182 (by decide +kernel)
theorem dL_law_1010 : decode cL_law 1010 = .ok (.pop2, 1) := z_dd_88 (by decide +kernel)
theorem dL_law_1011 : decode cL_law 1011 = .ok (.aload_n 2, 1) := z_dd_44 (by decide +kernel)
theorem dL_law_1012 : decode cL_law 1012 = .ok (.aload_n 0, 1) := z_dd_42 (by decide +kernel)
theorem dL_law_1013 : decode cL_law 1013 = .ok (.iload_n 3, 1) := z_dd_29 (by decide +kernel)
theorem dL_law_1014 : decode cL_law 1014 = .ok (.iconst 1, 1) := z_dd_4 (by decide +kernel)
theorem dL_law_1015 : decode cL_law 1015 = .ok (.iadd, 1) := z_dd_96 (by decide +kernel)
theorem dL_law_1016 : decode cL_law 1016 = .ok (.iaload, 1) := z_dd_46 (by decide +kernel)
theorem dL_law_1017 : decode cL_law 1017 = .ok (.aload_n 0, 1) := z_dd_42 (by decide +kernel)
theorem dL_law_1018 : decode cL_law 1018 = .ok (.iload_n 3, 1) := z_dd_29 (by decide +kernel)
theorem dL_law_1019 : decode cL_law 1019 = .ok (.iconst 2, 1) := z_dd_5 (by decide +kernel)
theorem dL_law_1020 : decode cL_law 1020 = .ok (.iadd, 1) := z_dd_96 (by decide +kernel)
theorem dL_law_1021 : decode cL_law 1021 = .ok (.iaload, 1) := z_dd_46 (by decide +kernel)
theorem dL_law_1022 : decode cL_law 1022 = .ok (.aload_n 0, 1) := z_dd_42 (by decide +kernel)
theorem dL_law_1023 : decode cL_law 1023 = .ok (.iload_n 3, 1) := z_dd_29 (by decide +kernel)
theorem dL_law_1024 : decode cL_law 1024 = .ok (.iconst 3, 1) := z_dd_6 (by decide +kernel)
theorem dL_law_1025 : decode cL_law 1025 = .ok (.iadd, 1) := z_dd_96 (by decide +kernel)
theorem dL_law_1026 : decode cL_law 1026 = .ok (.iaload, 1) := z_dd_46 (by decide +kernel)
theorem dL_law_1027 : decode cL_law 1027 = .ok (.invokevirtual 117, 3) := z_dd_182 (by decide +kernel)
theorem dL_law_1030 : decode cL_law 1030 = .ok (.pop2, 1) := z_dd_88 (by decide +kernel)
theorem dL_law_1031 : decode cL_law 1031 = .ok (.goto 477, 3) := z_dd_167 (by decide +kernel)

set_option maxHeartbeats 8000000 in
set_option maxRecDepth 100000 in
theorem lc_12 {p : Program} {e : Env} {s : State} {m : MethodId} {below : List Frame} {meth : Method} {c0 : Code} {b L : Nat} {xs : Nat → Int32} (l : Launch) {G : z_G} {A : Nat → Prop} {adK adV : Nat → Nat} (hK : z_K G s) (hA : ∀ q : Nat, s.heap.size ≤ q → A q) (hAi : ∀ q : Nat, A q → s.heap.size ≤ q) (hSt : z_St A s s.heap) (hKn : z_Cq adK adV A s s.heap) (hL : L ≤ 3584) (C0 : lw_At p s m meth c0 b L xs) {c : z_C} {ad adM : Nat → Nat} {Ix Im : z_I} {Jm : z_J} (hLX : z_LX c Ix) (hLM : z_LM Im) (htd : z_EQ Ix Im) {H : Heap} {locs : List Loc} {ls : Array Slot} (hWX : z_W G A (shC c, ad, Ix, JX, PC c ad) H) (hWM : z_W G A (shM, adM, Im, Jm, PM adM) H) (hap : ∀ i j, shC c i ≠ none → shM j ≠ none → ad i ≠ adM j) (hS : va_S A s.heap H locs) {i : Int32} (hi0 : 0 ≤ i.toInt) (hiL : i.toInt + 7 ≤ (L : Int)) (hl : lv_has ls 4 [(3, .int i), (2, .ref (adM 0)), (1, .ref (ad 0)), (0, .ref b)]) {cells slots : Nat} (hce : cells + 8 ≤ 600000) (hsl : slots + 2006 ≤ 7302250) (kk : ∀ (c : z_C) (ad : Nat → Nat) (Ix Im : z_I) (Jm : z_J) (H : Heap) (locs : List Loc) (ls : Array Slot), z_LX c Ix → z_LM Im → z_EQ Ix Im → z_W G A (shC c, ad, Ix, JX, PC c ad) H → z_W G A (shM, adM, Im, Jm, PM adM) H → (∀ i j, shC c i ≠ none → shM j ≠ none → ad i ≠ adM j) → va_S A s.heap H locs → lv_has ls 4 [(3, .int i), (2, .ref (adM 0)), (1, .ref (ad 0)), (0, .ref b)] → W p l e room_1 s m #[Value.ref b] below meth c0 H locs (cells + 8) (slots + 2006) (lw_Z below #[Value.ref b] s) (F0 m 1508 ls [])) : W p l e room_1 s m #[Value.ref b] below meth c0 H locs (cells) (slots) (lw_Z below #[Value.ref b] s) (F0 m 648 ls []) := by
  obtain ⟨hx, hb, hr, hml, hown, hts0, hX, hbl, hlocks, hgv⟩ := id C0
  have hown : s.vm.findClass RL = some m.cls := hown
  have hts : ∀ w ∈ wsL_law, w.before #[Value.ref b] s = true := fun w hw => hts0 w (wsL_law_in w hw)
  have hbA : ¬ A b := fun h => absurd (hAi b h) (Nat.not_le.mpr hbl)
  have hLi : (L : Int) ≤ 3584 := by omega
  refine lv_aload_n hx hb dL_law_648 rfl (lv_at hl 2 rfl) ?_
  refine lv_aload_n hx hb dL_law_649 rfl (lv_at hl 3 rfl) ?_
  refine lv_iload_n hx hb dL_law_650 rfl (lv_at hl 0 rfl) ?_
  refine lv_iconst (v := 1) hx hb dL_law_651 (by decide) ?_
  refine lv_iadd hx hb dL_law_652 ?_
  refine lv_topi (fun x1 ex1 => ?_)
  have tx1 : x1.toInt = i.toInt + 1 := z_tadd ex1 rfl z_l1 (by omega) (by omega)
  refine va_sld hx hb hX hbl hbA hS (z_ix rfl (by omega) (by omega)) dL_law_653 ?_
  refine lv_topi (fun x2 ex2 => ?_)
  refine z_ciD hWX hWM hap hS hA (va_runV (As := [.int x2]) (rest := []) ⟨hx, hb, hml, hown, hts0⟩ (sx_X11_owner l G ad c Ix hLX.2.2.2.1 x2 hLX.2.2.2.2.2.2.2.2.2.1 hLX.2.2.2.2.2.2.2.2.2.2.1 _) (cwV 1 hts0 gV_X11_owner rfl rfl rfl (by decide +kernel) ⟨(Nat.le_of_ble_eq_true rfl), (Nat.le_of_ble_eq_true rfl)⟩) (z_preV (i := 0) hK hWX rfl rfl) rfl rfl hl.1 rfl (lv_room (Nat.le_of_ble_eq_true rfl)) dL_law_654 ⟨(by show cells + 0 ≤ 600000; omega), (by show slots + 0 ≤ 7302250; omega)⟩) (fun r u1 H locs hp hWX hWM hap hS => ?_)
  subst hp
  refine lv_topi (fun x3 ex3 => ?_)
  refine lv_pop hx hb dL_law_657 rfl ?_
  refine lv_aload_n hx hb dL_law_658 rfl (lv_at hl 1 rfl) ?_
  refine lv_aload_n hx hb dL_law_659 rfl (lv_at hl 3 rfl) ?_
  refine lv_iload_n hx hb dL_law_660 rfl (lv_at hl 0 rfl) ?_
  refine lv_iconst (v := 1) hx hb dL_law_661 (by decide) ?_
  refine lv_iadd hx hb dL_law_662 ?_
  refine lv_topi (fun x4 ex4 => ?_)
  have tx4 : x4.toInt = i.toInt + 1 := z_tadd ex4 rfl z_l1 (by omega) (by omega)
  refine va_sld hx hb hX hbl hbA hS (z_ix rfl (by omega) (by omega)) dL_law_663 ?_
  refine lv_topi (fun x5 ex5 => ?_)
  refine z_ciD hWM hWX (fun i j hi hj e => hap j i hj hi e.symm) hS hA (va_runV (As := [.int x5]) (rest := []) ⟨hx, hb, hml, hown, hts0⟩ (sx_X12_owner l G adM Im Jm x5 _) (cwV 1 hts0 gV_X12_owner rfl rfl rfl (by decide +kernel) ⟨(Nat.le_of_ble_eq_true rfl), (Nat.le_of_ble_eq_true rfl)⟩) (z_preV (i := 0) hK hWM rfl rfl) rfl rfl hl.1 rfl (lv_room (Nat.le_of_ble_eq_true rfl)) dL_law_664 ⟨(by show cells + 0 + 0 ≤ 600000; omega), (by show slots + 0 + 0 ≤ 7302250; omega)⟩) (fun r u1 H locs hp hWM hWX hapn hS => ?_)
  subst hp
  have hap := fun i j hi hj e => hapn j i hj hi (Eq.symm e)
  refine lv_topi (fun x6 ex6 => ?_)
  refine lv_pop hx hb dL_law_667 rfl ?_
  refine lv_goto (tgt := 1508) hx hb dL_law_668 (by decide) ?_
  have hEQ9 : z_EQ Ix Im := ⟨htd.1, htd.2.1, htd.2.2⟩
  refine W.widen (k := cells + 8) (n := slots + 2006) (by omega) (by omega) ?_
  exact kk c ad Ix Im Jm _ _ _ hLX hLM hEQ9 hWX hWM hap hS (lv_sub hl [0, 1, 2, 3] rfl)
set_option maxHeartbeats 8000000 in
set_option maxRecDepth 100000 in
theorem lc_13 {p : Program} {e : Env} {s : State} {m : MethodId} {below : List Frame} {meth : Method} {c0 : Code} {b L : Nat} {xs : Nat → Int32} (l : Launch) {G : z_G} {A : Nat → Prop} {adK adV : Nat → Nat} (hK : z_K G s) (hA : ∀ q : Nat, s.heap.size ≤ q → A q) (hAi : ∀ q : Nat, A q → s.heap.size ≤ q) (hSt : z_St A s s.heap) (hKn : z_Cq adK adV A s s.heap) (hL : L ≤ 3584) (C0 : lw_At p s m meth c0 b L xs) {c : z_C} {ad adM : Nat → Nat} {Ix Im : z_I} {Jm : z_J} (hLX : z_LX c Ix) (hLM : z_LM Im) (htd : z_EQ Ix Im) {H : Heap} {locs : List Loc} {ls : Array Slot} (hWX : z_W G A (shC c, ad, Ix, JX, PC c ad) H) (hWM : z_W G A (shM, adM, Im, Jm, PM adM) H) (hap : ∀ i j, shC c i ≠ none → shM j ≠ none → ad i ≠ adM j) (hS : va_S A s.heap H locs) {i : Int32} (hi0 : 0 ≤ i.toInt) (hiL : i.toInt + 7 ≤ (L : Int)) (hl : lv_has ls 4 [(3, .int i), (2, .ref (adM 0)), (1, .ref (ad 0)), (0, .ref b)]) {cells slots : Nat} (hce : cells + 8 ≤ 600000) (hsl : slots + 2006 ≤ 7302250) (kk : ∀ (c : z_C) (ad : Nat → Nat) (Ix Im : z_I) (Jm : z_J) (H : Heap) (locs : List Loc) (ls : Array Slot), z_LX c Ix → z_LM Im → z_EQ Ix Im → z_W G A (shC c, ad, Ix, JX, PC c ad) H → z_W G A (shM, adM, Im, Jm, PM adM) H → (∀ i j, shC c i ≠ none → shM j ≠ none → ad i ≠ adM j) → va_S A s.heap H locs → lv_has ls 4 [(3, .int i), (2, .ref (adM 0)), (1, .ref (ad 0)), (0, .ref b)] → W p l e room_1 s m #[Value.ref b] below meth c0 H locs (cells + 8) (slots + 2006) (lw_Z below #[Value.ref b] s) (F0 m 1508 ls [])) : W p l e room_1 s m #[Value.ref b] below meth c0 H locs (cells) (slots) (lw_Z below #[Value.ref b] s) (F0 m 671 ls []) := by
  obtain ⟨hx, hb, hr, hml, hown, hts0, hX, hbl, hlocks, hgv⟩ := id C0
  have hown : s.vm.findClass RL = some m.cls := hown
  have hts : ∀ w ∈ wsL_law, w.before #[Value.ref b] s = true := fun w hw => hts0 w (wsL_law_in w hw)
  have hbA : ¬ A b := fun h => absurd (hAi b h) (Nat.not_le.mpr hbl)
  have hLi : (L : Int) ≤ 3584 := by omega
  refine lv_aload_n hx hb dL_law_671 rfl (lv_at hl 2 rfl) ?_
  refine z_ciD hWX hWM hap hS hA (va_runV (As := []) (rest := []) ⟨hx, hb, hml, hown, hts0⟩ (sx_X11_station l G ad c Ix hLX.2.2.2.2.2.2.2.2.2.2.1 hLX.2.2.2.2.2.2.2.2.2.2.2.2.1 _) (cwV 0 hts0 gV_X11_station rfl rfl rfl (by decide +kernel) ⟨(Nat.le_of_ble_eq_true rfl), (Nat.le_of_ble_eq_true rfl)⟩) (z_preV (i := 0) hK hWX rfl rfl) rfl rfl hl.1 rfl (lv_room (Nat.le_of_ble_eq_true rfl)) dL_law_672 ⟨(by show cells + 8 ≤ 600000; omega), (by show slots + 220 ≤ 7302250; omega)⟩) (fun r u1 H locs hp hWX hWM hap hS => ?_)
  obtain ⟨c1, ad2, I3, rfl, hq⟩ := hp
  have hLXI3 := z_LX_X11_station hLX hq
  have hadI3 : ad2 0 = ad 0 := z_ad_X11_station hq
  have hl : lv_has ls 4 [(3, .int i), (2, .ref (adM 0)), (1, .ref (ad2 0)), (0, .ref b)] := by rw [hadI3]; exact hl
  refine lv_topi (fun x4 ex4 => ?_)
  refine lv_pop hx hb dL_law_675 rfl ?_
  refine lv_aload_n hx hb dL_law_676 rfl (lv_at hl 1 rfl) ?_
  refine z_ciD hWM hWX (fun i j hi hj e => hap j i hj hi e.symm) hS hA (va_runV (As := []) (rest := []) ⟨hx, hb, hml, hown, hts0⟩ (sx_X12_station l G adM Im Jm hLM.2.2.2.2.2.2.2.1 _) (cwV 0 hts0 gV_X12_station rfl rfl rfl (by decide +kernel) ⟨(Nat.le_of_ble_eq_true rfl), (Nat.le_of_ble_eq_true rfl)⟩) (z_preV (i := 0) hK hWM rfl rfl) rfl rfl hl.1 rfl (lv_room (Nat.le_of_ble_eq_true rfl)) dL_law_677 ⟨(by show cells + 8 + 0 ≤ 600000; omega), (by show slots + 220 + 0 ≤ 7302250; omega)⟩) (fun r u1 H locs hp hWM hWX hapn hS => ?_)
  obtain ⟨I5, J6, rfl, p7, p8⟩ := hp
  have hLMI5 : z_LM I5 := ⟨⟨(by show 0 ≤ (I5 0 0).toInt ∧ (I5 0 0).toInt ≤ 719; rw [p8 0 0 (by decide)]; exact hLM.1.1), (by show 0 ≤ (I5 0 1).toInt ∧ (I5 0 1).toInt ≤ 30; rw [p8 0 1 (by decide)]; exact hLM.1.2.1), (by show 0 ≤ (I5 0 2).toInt ∧ (I5 0 2).toInt ≤ 200; rw [p8 0 2 (by decide)]; exact hLM.1.2.2)⟩, ⟨(by show 0 ≤ (I5 0 13).toInt ∧ (I5 0 13).toInt ≤ 12; rw [p8 0 13 (by decide)]; exact hLM.2.1.1), (by show 0 ≤ (I5 0 14).toInt ∧ (I5 0 14).toInt ≤ 288; rw [p8 0 14 (by decide)]; exact hLM.2.1.2)⟩, (by show 0 ≤ (I5 0 15).toInt ∧ (I5 0 15).toInt ≤ 6100; rw [p8 0 15 (by decide)]; exact hLM.2.2.1), ⟨(by show 0 ≤ (I5 0 31).toInt ∧ (I5 0 31).toInt ≤ 500; rw [p8 0 31 (by decide)]; exact hLM.2.2.2.1.1), (by show 0 ≤ (I5 0 33).toInt ∧ (I5 0 33).toInt ≤ 500; rw [p8 0 33 (by decide)]; exact hLM.2.2.2.1.2.1), (by show 0 ≤ (I5 0 34).toInt ∧ (I5 0 34).toInt ≤ 500; rw [p8 0 34 (by decide)]; exact hLM.2.2.2.1.2.2.1), (by show 0 ≤ (I5 0 35).toInt ∧ (I5 0 35).toInt ≤ 500; rw [p8 0 35 (by decide)]; exact hLM.2.2.2.1.2.2.2)⟩, ⟨(by show 0 ≤ (I5 0 36).toInt ∧ (I5 0 36).toInt ≤ 4; rw [p8 0 36 (by decide)]; exact hLM.2.2.2.2.1.1), (by show 0 ≤ (I5 0 42).toInt ∧ (I5 0 42).toInt ≤ 1; rw [p8 0 42 (by decide)]; exact hLM.2.2.2.2.1.2)⟩, ⟨(by show 0 ≤ (I5 0 47).toInt ∧ (I5 0 47).toInt ≤ 119; rw [p8 0 47 (by decide)]; exact hLM.2.2.2.2.2.1.1), (by show 0 ≤ (I5 0 39).toInt ∧ (I5 0 39).toInt ≤ 100; rw [p8 0 39 (by decide)]; exact hLM.2.2.2.2.2.1.2)⟩, (by show 0 ≤ (I5 0 40).toInt ∧ (I5 0 40).toInt ≤ 6199; rw [p8 0 40 (by decide)]; exact hLM.2.2.2.2.2.2.1), p7, (by show 0 ≤ (I5 0 75).toInt ∧ (I5 0 75).toInt ≤ 4; rw [p8 0 75 (by decide)]; exact hLM.2.2.2.2.2.2.2.2.1), (by show 0 ≤ (I5 0 83).toInt ∧ (I5 0 83).toInt ≤ 60; rw [p8 0 83 (by decide)]; exact hLM.2.2.2.2.2.2.2.2.2.1), (z_rg_fr hLM.2.2.2.2.2.2.2.2.2.2.1 p8 (by decide)), (z_rg_fr hLM.2.2.2.2.2.2.2.2.2.2.2.1 p8 (by decide)), (z_rg_fr hLM.2.2.2.2.2.2.2.2.2.2.2.2.1 p8 (by decide)), (z_rg_fr hLM.2.2.2.2.2.2.2.2.2.2.2.2.2.1 p8 (by decide)), (z_rg_fr hLM.2.2.2.2.2.2.2.2.2.2.2.2.2.2.1 p8 (by decide)), (z_rg_fr hLM.2.2.2.2.2.2.2.2.2.2.2.2.2.2.2.1 p8 (by decide)), (z_rg_fr hLM.2.2.2.2.2.2.2.2.2.2.2.2.2.2.2.2.1 p8 (by decide)), (z_rg_fr hLM.2.2.2.2.2.2.2.2.2.2.2.2.2.2.2.2.2.1 p8 (by decide)), (z_rg_fr hLM.2.2.2.2.2.2.2.2.2.2.2.2.2.2.2.2.2.2.1 p8 (by decide)), (z_rg_fr hLM.2.2.2.2.2.2.2.2.2.2.2.2.2.2.2.2.2.2.2.1 p8 (by decide)), (z_Nd_fr hLM.2.2.2.2.2.2.2.2.2.2.2.2.2.2.2.2.2.2.2.2.1 p8 (by decide)), (z_Ex_fr hLM.2.2.2.2.2.2.2.2.2.2.2.2.2.2.2.2.2.2.2.2.2.1 p8 (by decide)), (z_rg_fr hLM.2.2.2.2.2.2.2.2.2.2.2.2.2.2.2.2.2.2.2.2.2.2.1 p8 (by decide)), (z_rg_fr hLM.2.2.2.2.2.2.2.2.2.2.2.2.2.2.2.2.2.2.2.2.2.2.2.1 p8 (by decide)), (z_rg_fr hLM.2.2.2.2.2.2.2.2.2.2.2.2.2.2.2.2.2.2.2.2.2.2.2.2.1 p8 (by decide)), (z_rg_fr hLM.2.2.2.2.2.2.2.2.2.2.2.2.2.2.2.2.2.2.2.2.2.2.2.2.2.1 p8 (by decide)), (z_rg_fr hLM.2.2.2.2.2.2.2.2.2.2.2.2.2.2.2.2.2.2.2.2.2.2.2.2.2.2.1 p8 (by decide)), (z_rg_fr hLM.2.2.2.2.2.2.2.2.2.2.2.2.2.2.2.2.2.2.2.2.2.2.2.2.2.2.2.1 p8 (by decide)), (z_rg_fr hLM.2.2.2.2.2.2.2.2.2.2.2.2.2.2.2.2.2.2.2.2.2.2.2.2.2.2.2.2.1 p8 (by decide)), (by unfold z_iro; rw [p8 0 13 (by decide), p8 0 14 (by decide), p8 0 15 (by decide)]; exact hLM.2.2.2.2.2.2.2.2.2.2.2.2.2.2.2.2.2.2.2.2.2.2.2.2.2.2.2.2.2)⟩
  have hap := fun i j hi hj e => hapn j i hj hi (Eq.symm e)
  refine lv_topi (fun x9 ex9 => ?_)
  refine lv_pop hx hb dL_law_680 rfl ?_
  refine lv_goto (tgt := 1508) hx hb dL_law_681 (by decide) ?_
  have hEQ9 : z_EQ I3 I5 := ⟨(by rw [hq.2.2.2.2.1 0 0 (by decide) (by decide), p8 0 0 (by decide)]; exact htd.1), (by rw [hq.2.2.2.2.1 1 5 (by decide) (by decide), p8 0 1 (by decide)]; exact htd.2.1), (by rw [hq.2.2.2.2.1 60 9 (by decide) (by decide), p8 0 83 (by decide)]; exact htd.2.2)⟩
  refine W.widen (k := cells + 8) (n := slots + 2006) (by omega) (by omega) ?_
  exact kk c1 ad2 I3 I5 J6 _ _ _ hLXI3 hLMI5 hEQ9 hWX hWM hap hS (lv_sub hl [0, 1, 2, 3] rfl)
set_option maxHeartbeats 8000000 in
set_option maxRecDepth 100000 in
theorem lc_14 {p : Program} {e : Env} {s : State} {m : MethodId} {below : List Frame} {meth : Method} {c0 : Code} {b L : Nat} {xs : Nat → Int32} (l : Launch) {G : z_G} {A : Nat → Prop} {adK adV : Nat → Nat} (hK : z_K G s) (hA : ∀ q : Nat, s.heap.size ≤ q → A q) (hAi : ∀ q : Nat, A q → s.heap.size ≤ q) (hSt : z_St A s s.heap) (hKn : z_Cq adK adV A s s.heap) (hL : L ≤ 3584) (C0 : lw_At p s m meth c0 b L xs) {c : z_C} {ad adM : Nat → Nat} {Ix Im : z_I} {Jm : z_J} (hLX : z_LX c Ix) (hLM : z_LM Im) (htd : z_EQ Ix Im) {H : Heap} {locs : List Loc} {ls : Array Slot} (hWX : z_W G A (shC c, ad, Ix, JX, PC c ad) H) (hWM : z_W G A (shM, adM, Im, Jm, PM adM) H) (hap : ∀ i j, shC c i ≠ none → shM j ≠ none → ad i ≠ adM j) (hS : va_S A s.heap H locs) {i : Int32} (hi0 : 0 ≤ i.toInt) (hiL : i.toInt + 7 ≤ (L : Int)) (hl : lv_has ls 4 [(3, .int i), (2, .ref (adM 0)), (1, .ref (ad 0)), (0, .ref b)]) {cells slots : Nat} (hce : cells + 8 ≤ 600000) (hsl : slots + 2006 ≤ 7302250) (kk : ∀ (c : z_C) (ad : Nat → Nat) (Ix Im : z_I) (Jm : z_J) (H : Heap) (locs : List Loc) (ls : Array Slot), z_LX c Ix → z_LM Im → z_EQ Ix Im → z_W G A (shC c, ad, Ix, JX, PC c ad) H → z_W G A (shM, adM, Im, Jm, PM adM) H → (∀ i j, shC c i ≠ none → shM j ≠ none → ad i ≠ adM j) → va_S A s.heap H locs → lv_has ls 4 [(3, .int i), (2, .ref (adM 0)), (1, .ref (ad 0)), (0, .ref b)] → W p l e room_1 s m #[Value.ref b] below meth c0 H locs (cells + 8) (slots + 2006) (lw_Z below #[Value.ref b] s) (F0 m 1508 ls [])) : W p l e room_1 s m #[Value.ref b] below meth c0 H locs (cells) (slots) (lw_Z below #[Value.ref b] s) (F0 m 684 ls []) := by
  obtain ⟨hx, hb, hr, hml, hown, hts0, hX, hbl, hlocks, hgv⟩ := id C0
  have hown : s.vm.findClass RL = some m.cls := hown
  have hts : ∀ w ∈ wsL_law, w.before #[Value.ref b] s = true := fun w hw => hts0 w (wsL_law_in w hw)
  have hbA : ¬ A b := fun h => absurd (hAi b h) (Nat.not_le.mpr hbl)
  have hLi : (L : Int) ≤ 3584 := by omega
  refine lv_aload_n hx hb dL_law_684 rfl (lv_at hl 2 rfl) ?_
  refine lv_aload_n hx hb dL_law_685 rfl (lv_at hl 3 rfl) ?_
  refine lv_iload_n hx hb dL_law_686 rfl (lv_at hl 0 rfl) ?_
  refine lv_iconst (v := 1) hx hb dL_law_687 (by decide) ?_
  refine lv_iadd hx hb dL_law_688 ?_
  refine lv_topi (fun x1 ex1 => ?_)
  have tx1 : x1.toInt = i.toInt + 1 := z_tadd ex1 rfl z_l1 (by omega) (by omega)
  refine va_sld hx hb hX hbl hbA hS (z_ix rfl (by omega) (by omega)) dL_law_689 ?_
  refine lv_topi (fun x2 ex2 => ?_)
  refine lv_aload_n hx hb dL_law_690 rfl (lv_at hl 3 rfl) ?_
  refine lv_iload_n hx hb dL_law_691 rfl (lv_at hl 0 rfl) ?_
  refine lv_iconst (v := 2) hx hb dL_law_692 (by decide) ?_
  refine lv_iadd hx hb dL_law_693 ?_
  refine lv_topi (fun x3 ex3 => ?_)
  have tx3 : x3.toInt = i.toInt + 2 := z_tadd ex3 rfl z_l2 (by omega) (by omega)
  refine va_sld hx hb hX hbl hbA hS (z_ix rfl (by omega) (by omega)) dL_law_694 ?_
  refine lv_topi (fun x4 ex4 => ?_)
  refine lv_aload_n hx hb dL_law_695 rfl (lv_at hl 3 rfl) ?_
  refine lv_iload_n hx hb dL_law_696 rfl (lv_at hl 0 rfl) ?_
  refine lv_iconst (v := 3) hx hb dL_law_697 (by decide) ?_
  refine lv_iadd hx hb dL_law_698 ?_
  refine lv_topi (fun x5 ex5 => ?_)
  have tx5 : x5.toInt = i.toInt + 3 := z_tadd ex5 rfl z_l3 (by omega) (by omega)
  refine va_sld hx hb hX hbl hbA hS (z_ix rfl (by omega) (by omega)) dL_law_699 ?_
  refine lv_topi (fun x6 ex6 => ?_)
  refine z_ciD hWX hWM hap hS hA (va_runV (As := [.int x2, .int x4, .int x6]) (rest := []) ⟨hx, hb, hml, hown, hts0⟩ (sx_X11_pour l G ad c Ix hLX.2.2.2.2.1 hLX.2.2.1 hLX.1 hLX.2.2.2.2.2.2.2.2.1 hLX.2.2.2.1 x2 x4 x6 hLX.2.2.2.2.2.2.2.2.2.1 hLX.2.2.2.2.2.2.2.2.2.2.1 _) (cwV 3 hts0 gV_X11_pour rfl rfl rfl (by decide +kernel) ⟨(Nat.le_of_ble_eq_true rfl), (Nat.le_of_ble_eq_true rfl)⟩) (z_preVS (i := 0) hK hWX hS hA hSt rfl rfl) rfl rfl hl.1 rfl (lv_room (Nat.le_of_ble_eq_true rfl)) dL_law_700 ⟨(by show cells + 0 ≤ 600000; omega), (by show slots + 0 ≤ 7302250; omega)⟩) (fun r u1 H locs hp hWX hWM hap hS => ?_)
  obtain ⟨I7, rfl, p9, p10, p11, p12, p13, p14⟩ := hp
  have hLXI7 : z_LX c I7 := ⟨p11, ⟨(by show 0 ≤ (I7 12 1).toInt ∧ (I7 12 1).toInt ≤ 500; rw [p14 12 1 (by decide)]; exact hLX.2.1.1), (by show 0 ≤ (I7 12 5).toInt ∧ (I7 12 5).toInt ≤ 501; rw [p14 12 5 (by decide)]; exact hLX.2.1.2.1), (by show (-1) ≤ (I7 12 6).toInt ∧ (I7 12 6).toInt ≤ 1000000; rw [p14 12 6 (by decide)]; exact hLX.2.1.2.2.1), (by show 0 ≤ (I7 12 9).toInt ∧ (I7 12 9).toInt ≤ 500; rw [p14 12 9 (by decide)]; exact hLX.2.1.2.2.2.1), (by show 0 ≤ (I7 12 13).toInt ∧ (I7 12 13).toInt ≤ 24; rw [p14 12 13 (by decide)]; exact hLX.2.1.2.2.2.2)⟩, p10, p13, p9, (by show 0 ≤ (I7 41 10).toInt ∧ (I7 41 10).toInt ≤ 4; rw [p14 41 10 (by decide)]; exact hLX.2.2.2.2.2.1), ⟨(by show 0 ≤ (I7 60 9).toInt ∧ (I7 60 9).toInt ≤ 60; rw [p14 60 9 (by decide)]; exact hLX.2.2.2.2.2.2.1.1), (by show 0 ≤ (I7 60 12).toInt ∧ (I7 60 12).toInt ≤ 12; rw [p14 60 12 (by decide)]; exact hLX.2.2.2.2.2.2.1.2)⟩, (by show 0 ≤ (I7 72 2).toInt ∧ (I7 72 2).toInt ≤ 30; rw [p14 72 2 (by decide)]; exact hLX.2.2.2.2.2.2.2.1), p12, hLX.2.2.2.2.2.2.2.2.2.1, hLX.2.2.2.2.2.2.2.2.2.2.1, (z_iS_fr hLX.2.2.2.2.2.2.2.2.2.2.2.1 p14 (by decide)), (by rw [p14 0 8 (by decide)]; exact hLX.2.2.2.2.2.2.2.2.2.2.2.2.1), (by rw [p14 21 2 (by decide)]; exact hLX.2.2.2.2.2.2.2.2.2.2.2.2.2)⟩
  refine lv_topi (fun x15 ex15 => ?_)
  refine lv_pop hx hb dL_law_703 rfl ?_
  refine lv_aload_n hx hb dL_law_704 rfl (lv_at hl 1 rfl) ?_
  refine lv_aload_n hx hb dL_law_705 rfl (lv_at hl 3 rfl) ?_
  refine lv_iload_n hx hb dL_law_706 rfl (lv_at hl 0 rfl) ?_
  refine lv_iconst (v := 1) hx hb dL_law_707 (by decide) ?_
  refine lv_iadd hx hb dL_law_708 ?_
  refine lv_topi (fun x16 ex16 => ?_)
  have tx16 : x16.toInt = i.toInt + 1 := z_tadd ex16 rfl z_l1 (by omega) (by omega)
  refine va_sld hx hb hX hbl hbA hS (z_ix rfl (by omega) (by omega)) dL_law_709 ?_
  refine lv_topi (fun x17 ex17 => ?_)
  refine lv_aload_n hx hb dL_law_710 rfl (lv_at hl 3 rfl) ?_
  refine lv_iload_n hx hb dL_law_711 rfl (lv_at hl 0 rfl) ?_
  refine lv_iconst (v := 2) hx hb dL_law_712 (by decide) ?_
  refine lv_iadd hx hb dL_law_713 ?_
  refine lv_topi (fun x18 ex18 => ?_)
  have tx18 : x18.toInt = i.toInt + 2 := z_tadd ex18 rfl z_l2 (by omega) (by omega)
  refine va_sld hx hb hX hbl hbA hS (z_ix rfl (by omega) (by omega)) dL_law_714 ?_
  refine lv_topi (fun x19 ex19 => ?_)
  refine lv_aload_n hx hb dL_law_715 rfl (lv_at hl 3 rfl) ?_
  refine lv_iload_n hx hb dL_law_716 rfl (lv_at hl 0 rfl) ?_
  refine lv_iconst (v := 3) hx hb dL_law_717 (by decide) ?_
  refine lv_iadd hx hb dL_law_718 ?_
  refine lv_topi (fun x20 ex20 => ?_)
  have tx20 : x20.toInt = i.toInt + 3 := z_tadd ex20 rfl z_l3 (by omega) (by omega)
  refine va_sld hx hb hX hbl hbA hS (z_ix rfl (by omega) (by omega)) dL_law_719 ?_
  refine lv_topi (fun x21 ex21 => ?_)
  refine z_ciD hWM hWX (fun i j hi hj e => hap j i hj hi e.symm) hS hA (va_runV (As := [.int x17, .int x19, .int x21]) (rest := []) ⟨hx, hb, hml, hown, hts0⟩ (sx_X12_pour l G adM Im Jm hLM.1 hLM.2.2.2.2.2.2.2.1 hLM.2.2.2.2.2.2.2.2.2.2.1 hLM.2.1 hLM.2.2.2.2.2.2.2.2.2.2.2.2.2.2.2.1 hLM.2.2.2.2.2.2.2.2.2.2.2.2.2.2.2.2.1 x17 x19 x21 _) (cwV 3 hts0 gV_X12_pour rfl rfl rfl (by decide +kernel) ⟨(Nat.le_of_ble_eq_true rfl), (Nat.le_of_ble_eq_true rfl)⟩) (z_preV (i := 0) hK hWM rfl rfl) rfl rfl hl.1 rfl (lv_room (Nat.le_of_ble_eq_true rfl)) dL_law_720 ⟨(by show cells + 0 + 0 ≤ 600000; omega), (by show slots + 0 + 0 ≤ 7302250; omega)⟩) (fun r u1 H locs hp hWM hWX hapn hS => ?_)
  obtain ⟨I22, J23, rfl, p24, p25, p26, p27, p28, p29, p30⟩ := hp
  have hLMI22 : z_LM I22 := ⟨p24, p27, (by show 0 ≤ (I22 0 15).toInt ∧ (I22 0 15).toInt ≤ 6100; rw [p30 0 15 (by decide)]; exact hLM.2.2.1), ⟨(by show 0 ≤ (I22 0 31).toInt ∧ (I22 0 31).toInt ≤ 500; rw [p30 0 31 (by decide)]; exact hLM.2.2.2.1.1), (by show 0 ≤ (I22 0 33).toInt ∧ (I22 0 33).toInt ≤ 500; rw [p30 0 33 (by decide)]; exact hLM.2.2.2.1.2.1), (by show 0 ≤ (I22 0 34).toInt ∧ (I22 0 34).toInt ≤ 500; rw [p30 0 34 (by decide)]; exact hLM.2.2.2.1.2.2.1), (by show 0 ≤ (I22 0 35).toInt ∧ (I22 0 35).toInt ≤ 500; rw [p30 0 35 (by decide)]; exact hLM.2.2.2.1.2.2.2)⟩, ⟨(by show 0 ≤ (I22 0 36).toInt ∧ (I22 0 36).toInt ≤ 4; rw [p30 0 36 (by decide)]; exact hLM.2.2.2.2.1.1), (by show 0 ≤ (I22 0 42).toInt ∧ (I22 0 42).toInt ≤ 1; rw [p30 0 42 (by decide)]; exact hLM.2.2.2.2.1.2)⟩, ⟨(by show 0 ≤ (I22 0 47).toInt ∧ (I22 0 47).toInt ≤ 119; rw [p30 0 47 (by decide)]; exact hLM.2.2.2.2.2.1.1), (by show 0 ≤ (I22 0 39).toInt ∧ (I22 0 39).toInt ≤ 100; rw [p30 0 39 (by decide)]; exact hLM.2.2.2.2.2.1.2)⟩, (by show 0 ≤ (I22 0 40).toInt ∧ (I22 0 40).toInt ≤ 6199; rw [p30 0 40 (by decide)]; exact hLM.2.2.2.2.2.2.1), p25, (by show 0 ≤ (I22 0 75).toInt ∧ (I22 0 75).toInt ≤ 4; rw [p30 0 75 (by decide)]; exact hLM.2.2.2.2.2.2.2.2.1), (by show 0 ≤ (I22 0 83).toInt ∧ (I22 0 83).toInt ≤ 60; rw [p30 0 83 (by decide)]; exact hLM.2.2.2.2.2.2.2.2.2.1), p26, (z_rg_fr hLM.2.2.2.2.2.2.2.2.2.2.2.1 p30 (by decide)), (z_rg_fr hLM.2.2.2.2.2.2.2.2.2.2.2.2.1 p30 (by decide)), (z_rg_fr hLM.2.2.2.2.2.2.2.2.2.2.2.2.2.1 p30 (by decide)), (z_rg_fr hLM.2.2.2.2.2.2.2.2.2.2.2.2.2.2.1 p30 (by decide)), p28, p29, (z_rg_fr hLM.2.2.2.2.2.2.2.2.2.2.2.2.2.2.2.2.2.1 p30 (by decide)), (z_rg_fr hLM.2.2.2.2.2.2.2.2.2.2.2.2.2.2.2.2.2.2.1 p30 (by decide)), (z_rg_fr hLM.2.2.2.2.2.2.2.2.2.2.2.2.2.2.2.2.2.2.2.1 p30 (by decide)), (z_Nd_fr hLM.2.2.2.2.2.2.2.2.2.2.2.2.2.2.2.2.2.2.2.2.1 p30 (by decide)), (z_Ex_fr hLM.2.2.2.2.2.2.2.2.2.2.2.2.2.2.2.2.2.2.2.2.2.1 p30 (by decide)), (z_rg_fr hLM.2.2.2.2.2.2.2.2.2.2.2.2.2.2.2.2.2.2.2.2.2.2.1 p30 (by decide)), (z_rg_fr hLM.2.2.2.2.2.2.2.2.2.2.2.2.2.2.2.2.2.2.2.2.2.2.2.1 p30 (by decide)), (z_rg_fr hLM.2.2.2.2.2.2.2.2.2.2.2.2.2.2.2.2.2.2.2.2.2.2.2.2.1 p30 (by decide)), (z_rg_fr hLM.2.2.2.2.2.2.2.2.2.2.2.2.2.2.2.2.2.2.2.2.2.2.2.2.2.1 p30 (by decide)), (z_rg_fr hLM.2.2.2.2.2.2.2.2.2.2.2.2.2.2.2.2.2.2.2.2.2.2.2.2.2.2.1 p30 (by decide)), (z_rg_fr hLM.2.2.2.2.2.2.2.2.2.2.2.2.2.2.2.2.2.2.2.2.2.2.2.2.2.2.2.1 p30 (by decide)), (z_rg_fr hLM.2.2.2.2.2.2.2.2.2.2.2.2.2.2.2.2.2.2.2.2.2.2.2.2.2.2.2.2.1 p30 (by decide)), (by unfold z_iro; rw [p30 0 13 (by decide), p30 0 14 (by decide), p30 0 15 (by decide)]; exact hLM.2.2.2.2.2.2.2.2.2.2.2.2.2.2.2.2.2.2.2.2.2.2.2.2.2.2.2.2.2)⟩
  have hap := fun i j hi hj e => hapn j i hj hi (Eq.symm e)
  refine lv_topi (fun x31 ex31 => ?_)
  refine lv_pop hx hb dL_law_723 rfl ?_
  refine lv_goto (tgt := 1508) hx hb dL_law_724 (by decide) ?_
  have hEQ9 : z_EQ I7 I22 := ⟨(by rw [p14 0 0 (by decide), p30 0 0 (by decide)]; exact htd.1), (by rw [p14 1 5 (by decide), p30 0 1 (by decide)]; exact htd.2.1), (by rw [p14 60 9 (by decide), p30 0 83 (by decide)]; exact htd.2.2)⟩
  refine W.widen (k := cells + 8) (n := slots + 2006) (by omega) (by omega) ?_
  exact kk c ad I7 I22 J23 _ _ _ hLXI7 hLMI22 hEQ9 hWX hWM hap hS (lv_sub hl [0, 1, 2, 3] rfl)
set_option maxHeartbeats 8000000 in
set_option maxRecDepth 100000 in
theorem lc_15 {p : Program} {e : Env} {s : State} {m : MethodId} {below : List Frame} {meth : Method} {c0 : Code} {b L : Nat} {xs : Nat → Int32} (l : Launch) {G : z_G} {A : Nat → Prop} {adK adV : Nat → Nat} (hK : z_K G s) (hA : ∀ q : Nat, s.heap.size ≤ q → A q) (hAi : ∀ q : Nat, A q → s.heap.size ≤ q) (hSt : z_St A s s.heap) (hKn : z_Cq adK adV A s s.heap) (hL : L ≤ 3584) (C0 : lw_At p s m meth c0 b L xs) {c : z_C} {ad adM : Nat → Nat} {Ix Im : z_I} {Jm : z_J} (hLX : z_LX c Ix) (hLM : z_LM Im) (htd : z_EQ Ix Im) {H : Heap} {locs : List Loc} {ls : Array Slot} (hWX : z_W G A (shC c, ad, Ix, JX, PC c ad) H) (hWM : z_W G A (shM, adM, Im, Jm, PM adM) H) (hap : ∀ i j, shC c i ≠ none → shM j ≠ none → ad i ≠ adM j) (hS : va_S A s.heap H locs) {i : Int32} (hi0 : 0 ≤ i.toInt) (hiL : i.toInt + 7 ≤ (L : Int)) (hl : lv_has ls 4 [(3, .int i), (2, .ref (adM 0)), (1, .ref (ad 0)), (0, .ref b)]) {cells slots : Nat} (hce : cells + 8 ≤ 600000) (hsl : slots + 2006 ≤ 7302250) (kk : ∀ (c : z_C) (ad : Nat → Nat) (Ix Im : z_I) (Jm : z_J) (H : Heap) (locs : List Loc) (ls : Array Slot), z_LX c Ix → z_LM Im → z_EQ Ix Im → z_W G A (shC c, ad, Ix, JX, PC c ad) H → z_W G A (shM, adM, Im, Jm, PM adM) H → (∀ i j, shC c i ≠ none → shM j ≠ none → ad i ≠ adM j) → va_S A s.heap H locs → lv_has ls 4 [(3, .int i), (2, .ref (adM 0)), (1, .ref (ad 0)), (0, .ref b)] → W p l e room_1 s m #[Value.ref b] below meth c0 H locs (cells + 8) (slots + 2006) (lw_Z below #[Value.ref b] s) (F0 m 1508 ls [])) : W p l e room_1 s m #[Value.ref b] below meth c0 H locs (cells) (slots) (lw_Z below #[Value.ref b] s) (F0 m 727 ls []) := by
  obtain ⟨hx, hb, hr, hml, hown, hts0, hX, hbl, hlocks, hgv⟩ := id C0
  have hown : s.vm.findClass RL = some m.cls := hown
  have hts : ∀ w ∈ wsL_law, w.before #[Value.ref b] s = true := fun w hw => hts0 w (wsL_law_in w hw)
  have hbA : ¬ A b := fun h => absurd (hAi b h) (Nat.not_le.mpr hbl)
  have hLi : (L : Int) ≤ 3584 := by omega
  refine lv_aload_n hx hb dL_law_727 rfl (lv_at hl 2 rfl) ?_
  refine lv_aload_n hx hb dL_law_728 rfl (lv_at hl 3 rfl) ?_
  refine lv_iload_n hx hb dL_law_729 rfl (lv_at hl 0 rfl) ?_
  refine lv_iconst (v := 1) hx hb dL_law_730 (by decide) ?_
  refine lv_iadd hx hb dL_law_731 ?_
  refine lv_topi (fun x1 ex1 => ?_)
  have tx1 : x1.toInt = i.toInt + 1 := z_tadd ex1 rfl z_l1 (by omega) (by omega)
  refine va_sld hx hb hX hbl hbA hS (z_ix rfl (by omega) (by omega)) dL_law_732 ?_
  refine lv_topi (fun x2 ex2 => ?_)
  refine z_ciD hWX hWM hap hS hA (va_runV (As := [.int x2]) (rest := []) ⟨hx, hb, hml, hown, hts0⟩ (sx_X11_handIn l G ad c Ix hLX.2.2.2.2.1 hLX.2.2.1 hLX.2.2.2.2.2.2.2.2.1 x2 hLX.2.2.2.2.2.2.2.2.2.1 hLX.2.2.2.2.2.2.2.2.2.2.1 _) (cwV 1 hts0 gV_X11_handIn rfl rfl rfl (by decide +kernel) ⟨(Nat.le_of_ble_eq_true rfl), (Nat.le_of_ble_eq_true rfl)⟩) (z_preVS (i := 0) hK hWX hS hA hSt rfl rfl) rfl rfl hl.1 rfl (lv_room (Nat.le_of_ble_eq_true rfl)) dL_law_733 ⟨(by show cells + 0 ≤ 600000; omega), (by show slots + 0 ≤ 7302250; omega)⟩) (fun r u1 H locs hp hWX hWM hap hS => ?_)
  obtain ⟨I3, rfl, p5, p6, p7, p8⟩ := hp
  have hLXI3 : z_LX c I3 := ⟨⟨(by show 0 ≤ (I3 1 5).toInt ∧ (I3 1 5).toInt ≤ 30; rw [p8 1 5 (by decide)]; exact hLX.1.1), (by show 0 ≤ (I3 1 11).toInt ∧ (I3 1 11).toInt ≤ 200; rw [p8 1 11 (by decide)]; exact hLX.1.2)⟩, ⟨(by show 0 ≤ (I3 12 1).toInt ∧ (I3 12 1).toInt ≤ 500; rw [p8 12 1 (by decide)]; exact hLX.2.1.1), (by show 0 ≤ (I3 12 5).toInt ∧ (I3 12 5).toInt ≤ 501; rw [p8 12 5 (by decide)]; exact hLX.2.1.2.1), (by show (-1) ≤ (I3 12 6).toInt ∧ (I3 12 6).toInt ≤ 1000000; rw [p8 12 6 (by decide)]; exact hLX.2.1.2.2.1), (by show 0 ≤ (I3 12 9).toInt ∧ (I3 12 9).toInt ≤ 500; rw [p8 12 9 (by decide)]; exact hLX.2.1.2.2.2.1), (by show 0 ≤ (I3 12 13).toInt ∧ (I3 12 13).toInt ≤ 24; rw [p8 12 13 (by decide)]; exact hLX.2.1.2.2.2.2)⟩, p6, (by show 0 ≤ (I3 26 4).toInt ∧ (I3 26 4).toInt ≤ 512; rw [p8 26 4 (by decide)]; exact hLX.2.2.2.1), p5, (by show 0 ≤ (I3 41 10).toInt ∧ (I3 41 10).toInt ≤ 4; rw [p8 41 10 (by decide)]; exact hLX.2.2.2.2.2.1), ⟨(by show 0 ≤ (I3 60 9).toInt ∧ (I3 60 9).toInt ≤ 60; rw [p8 60 9 (by decide)]; exact hLX.2.2.2.2.2.2.1.1), (by show 0 ≤ (I3 60 12).toInt ∧ (I3 60 12).toInt ≤ 12; rw [p8 60 12 (by decide)]; exact hLX.2.2.2.2.2.2.1.2)⟩, (by show 0 ≤ (I3 72 2).toInt ∧ (I3 72 2).toInt ≤ 30; rw [p8 72 2 (by decide)]; exact hLX.2.2.2.2.2.2.2.1), p7, hLX.2.2.2.2.2.2.2.2.2.1, hLX.2.2.2.2.2.2.2.2.2.2.1, (z_iS_fr hLX.2.2.2.2.2.2.2.2.2.2.2.1 p8 (by decide)), (by rw [p8 0 8 (by decide)]; exact hLX.2.2.2.2.2.2.2.2.2.2.2.2.1), (by rw [p8 21 2 (by decide)]; exact hLX.2.2.2.2.2.2.2.2.2.2.2.2.2)⟩
  refine lv_topi (fun x9 ex9 => ?_)
  refine lv_pop hx hb dL_law_736 rfl ?_
  refine lv_aload_n hx hb dL_law_737 rfl (lv_at hl 1 rfl) ?_
  refine lv_aload_n hx hb dL_law_738 rfl (lv_at hl 3 rfl) ?_
  refine lv_iload_n hx hb dL_law_739 rfl (lv_at hl 0 rfl) ?_
  refine lv_iconst (v := 1) hx hb dL_law_740 (by decide) ?_
  refine lv_iadd hx hb dL_law_741 ?_
  refine lv_topi (fun x10 ex10 => ?_)
  have tx10 : x10.toInt = i.toInt + 1 := z_tadd ex10 rfl z_l1 (by omega) (by omega)
  refine va_sld hx hb hX hbl hbA hS (z_ix rfl (by omega) (by omega)) dL_law_742 ?_
  refine lv_topi (fun x11 ex11 => ?_)
  refine z_ciD hWM hWX (fun i j hi hj e => hap j i hj hi e.symm) hS hA (va_runV (As := [.int x11]) (rest := []) ⟨hx, hb, hml, hown, hts0⟩ (sx_X12_handIn l G adM Im Jm hLM.2.2.2.2.2.2.2.1 hLM.2.2.2.2.2.2.2.2.2.2.1 hLM.2.1 hLM.2.2.2.2.2.2.2.2.2.2.2.2.2.2.2.1 hLM.2.2.2.2.2.2.2.2.2.2.2.2.2.2.2.2.1 x11 _) (cwV 1 hts0 gV_X12_handIn rfl rfl rfl (by decide +kernel) ⟨(Nat.le_of_ble_eq_true rfl), (Nat.le_of_ble_eq_true rfl)⟩) (z_preV (i := 0) hK hWM rfl rfl) rfl rfl hl.1 rfl (lv_room (Nat.le_of_ble_eq_true rfl)) dL_law_743 ⟨(by show cells + 0 + 0 ≤ 600000; omega), (by show slots + 0 + 0 ≤ 7302250; omega)⟩) (fun r u1 H locs hp hWM hWX hapn hS => ?_)
  obtain ⟨I12, J13, rfl, p14, p15, p16, p17, p18, p19⟩ := hp
  have hLMI12 : z_LM I12 := ⟨⟨(by show 0 ≤ (I12 0 0).toInt ∧ (I12 0 0).toInt ≤ 719; rw [p19 0 0 (by decide)]; exact hLM.1.1), (by show 0 ≤ (I12 0 1).toInt ∧ (I12 0 1).toInt ≤ 30; rw [p19 0 1 (by decide)]; exact hLM.1.2.1), (by show 0 ≤ (I12 0 2).toInt ∧ (I12 0 2).toInt ≤ 200; rw [p19 0 2 (by decide)]; exact hLM.1.2.2)⟩, p16, (by show 0 ≤ (I12 0 15).toInt ∧ (I12 0 15).toInt ≤ 6100; rw [p19 0 15 (by decide)]; exact hLM.2.2.1), ⟨(by show 0 ≤ (I12 0 31).toInt ∧ (I12 0 31).toInt ≤ 500; rw [p19 0 31 (by decide)]; exact hLM.2.2.2.1.1), (by show 0 ≤ (I12 0 33).toInt ∧ (I12 0 33).toInt ≤ 500; rw [p19 0 33 (by decide)]; exact hLM.2.2.2.1.2.1), (by show 0 ≤ (I12 0 34).toInt ∧ (I12 0 34).toInt ≤ 500; rw [p19 0 34 (by decide)]; exact hLM.2.2.2.1.2.2.1), (by show 0 ≤ (I12 0 35).toInt ∧ (I12 0 35).toInt ≤ 500; rw [p19 0 35 (by decide)]; exact hLM.2.2.2.1.2.2.2)⟩, ⟨(by show 0 ≤ (I12 0 36).toInt ∧ (I12 0 36).toInt ≤ 4; rw [p19 0 36 (by decide)]; exact hLM.2.2.2.2.1.1), (by show 0 ≤ (I12 0 42).toInt ∧ (I12 0 42).toInt ≤ 1; rw [p19 0 42 (by decide)]; exact hLM.2.2.2.2.1.2)⟩, ⟨(by show 0 ≤ (I12 0 47).toInt ∧ (I12 0 47).toInt ≤ 119; rw [p19 0 47 (by decide)]; exact hLM.2.2.2.2.2.1.1), (by show 0 ≤ (I12 0 39).toInt ∧ (I12 0 39).toInt ≤ 100; rw [p19 0 39 (by decide)]; exact hLM.2.2.2.2.2.1.2)⟩, (by show 0 ≤ (I12 0 40).toInt ∧ (I12 0 40).toInt ≤ 6199; rw [p19 0 40 (by decide)]; exact hLM.2.2.2.2.2.2.1), p14, (by show 0 ≤ (I12 0 75).toInt ∧ (I12 0 75).toInt ≤ 4; rw [p19 0 75 (by decide)]; exact hLM.2.2.2.2.2.2.2.2.1), (by show 0 ≤ (I12 0 83).toInt ∧ (I12 0 83).toInt ≤ 60; rw [p19 0 83 (by decide)]; exact hLM.2.2.2.2.2.2.2.2.2.1), p15, (z_rg_fr hLM.2.2.2.2.2.2.2.2.2.2.2.1 p19 (by decide)), (z_rg_fr hLM.2.2.2.2.2.2.2.2.2.2.2.2.1 p19 (by decide)), (z_rg_fr hLM.2.2.2.2.2.2.2.2.2.2.2.2.2.1 p19 (by decide)), (z_rg_fr hLM.2.2.2.2.2.2.2.2.2.2.2.2.2.2.1 p19 (by decide)), p17, p18, (z_rg_fr hLM.2.2.2.2.2.2.2.2.2.2.2.2.2.2.2.2.2.1 p19 (by decide)), (z_rg_fr hLM.2.2.2.2.2.2.2.2.2.2.2.2.2.2.2.2.2.2.1 p19 (by decide)), (z_rg_fr hLM.2.2.2.2.2.2.2.2.2.2.2.2.2.2.2.2.2.2.2.1 p19 (by decide)), (z_Nd_fr hLM.2.2.2.2.2.2.2.2.2.2.2.2.2.2.2.2.2.2.2.2.1 p19 (by decide)), (z_Ex_fr hLM.2.2.2.2.2.2.2.2.2.2.2.2.2.2.2.2.2.2.2.2.2.1 p19 (by decide)), (z_rg_fr hLM.2.2.2.2.2.2.2.2.2.2.2.2.2.2.2.2.2.2.2.2.2.2.1 p19 (by decide)), (z_rg_fr hLM.2.2.2.2.2.2.2.2.2.2.2.2.2.2.2.2.2.2.2.2.2.2.2.1 p19 (by decide)), (z_rg_fr hLM.2.2.2.2.2.2.2.2.2.2.2.2.2.2.2.2.2.2.2.2.2.2.2.2.1 p19 (by decide)), (z_rg_fr hLM.2.2.2.2.2.2.2.2.2.2.2.2.2.2.2.2.2.2.2.2.2.2.2.2.2.1 p19 (by decide)), (z_rg_fr hLM.2.2.2.2.2.2.2.2.2.2.2.2.2.2.2.2.2.2.2.2.2.2.2.2.2.2.1 p19 (by decide)), (z_rg_fr hLM.2.2.2.2.2.2.2.2.2.2.2.2.2.2.2.2.2.2.2.2.2.2.2.2.2.2.2.1 p19 (by decide)), (z_rg_fr hLM.2.2.2.2.2.2.2.2.2.2.2.2.2.2.2.2.2.2.2.2.2.2.2.2.2.2.2.2.1 p19 (by decide)), (by unfold z_iro; rw [p19 0 13 (by decide), p19 0 14 (by decide), p19 0 15 (by decide)]; exact hLM.2.2.2.2.2.2.2.2.2.2.2.2.2.2.2.2.2.2.2.2.2.2.2.2.2.2.2.2.2)⟩
  have hap := fun i j hi hj e => hapn j i hj hi (Eq.symm e)
  refine lv_topi (fun x20 ex20 => ?_)
  refine lv_pop hx hb dL_law_746 rfl ?_
  refine lv_goto (tgt := 1508) hx hb dL_law_747 (by decide) ?_
  have hEQ9 : z_EQ I3 I12 := ⟨(by rw [p8 0 0 (by decide), p19 0 0 (by decide)]; exact htd.1), (by rw [p8 1 5 (by decide), p19 0 1 (by decide)]; exact htd.2.1), (by rw [p8 60 9 (by decide), p19 0 83 (by decide)]; exact htd.2.2)⟩
  refine W.widen (k := cells + 8) (n := slots + 2006) (by omega) (by omega) ?_
  exact kk c ad I3 I12 J13 _ _ _ hLXI3 hLMI12 hEQ9 hWX hWM hap hS (lv_sub hl [0, 1, 2, 3] rfl)
set_option maxHeartbeats 8000000 in
set_option maxRecDepth 100000 in
theorem lc_16 {p : Program} {e : Env} {s : State} {m : MethodId} {below : List Frame} {meth : Method} {c0 : Code} {b L : Nat} {xs : Nat → Int32} (l : Launch) {G : z_G} {A : Nat → Prop} {adK adV : Nat → Nat} (hK : z_K G s) (hA : ∀ q : Nat, s.heap.size ≤ q → A q) (hAi : ∀ q : Nat, A q → s.heap.size ≤ q) (hSt : z_St A s s.heap) (hKn : z_Cq adK adV A s s.heap) (hL : L ≤ 3584) (C0 : lw_At p s m meth c0 b L xs) {c : z_C} {ad adM : Nat → Nat} {Ix Im : z_I} {Jm : z_J} (hLX : z_LX c Ix) (hLM : z_LM Im) (htd : z_EQ Ix Im) {H : Heap} {locs : List Loc} {ls : Array Slot} (hWX : z_W G A (shC c, ad, Ix, JX, PC c ad) H) (hWM : z_W G A (shM, adM, Im, Jm, PM adM) H) (hap : ∀ i j, shC c i ≠ none → shM j ≠ none → ad i ≠ adM j) (hS : va_S A s.heap H locs) {i : Int32} (hi0 : 0 ≤ i.toInt) (hiL : i.toInt + 7 ≤ (L : Int)) (hl : lv_has ls 4 [(3, .int i), (2, .ref (adM 0)), (1, .ref (ad 0)), (0, .ref b)]) {cells slots : Nat} (hce : cells + 8 ≤ 600000) (hsl : slots + 2006 ≤ 7302250) (kk : ∀ (c : z_C) (ad : Nat → Nat) (Ix Im : z_I) (Jm : z_J) (H : Heap) (locs : List Loc) (ls : Array Slot), z_LX c Ix → z_LM Im → z_EQ Ix Im → z_W G A (shC c, ad, Ix, JX, PC c ad) H → z_W G A (shM, adM, Im, Jm, PM adM) H → (∀ i j, shC c i ≠ none → shM j ≠ none → ad i ≠ adM j) → va_S A s.heap H locs → lv_has ls 4 [(3, .int i), (2, .ref (adM 0)), (1, .ref (ad 0)), (0, .ref b)] → W p l e room_1 s m #[Value.ref b] below meth c0 H locs (cells + 8) (slots + 2006) (lw_Z below #[Value.ref b] s) (F0 m 1508 ls [])) : W p l e room_1 s m #[Value.ref b] below meth c0 H locs (cells) (slots) (lw_Z below #[Value.ref b] s) (F0 m 750 ls []) := by
  obtain ⟨hx, hb, hr, hml, hown, hts0, hX, hbl, hlocks, hgv⟩ := id C0
  have hown : s.vm.findClass RL = some m.cls := hown
  have hts : ∀ w ∈ wsL_law, w.before #[Value.ref b] s = true := fun w hw => hts0 w (wsL_law_in w hw)
  have hbA : ¬ A b := fun h => absurd (hAi b h) (Nat.not_le.mpr hbl)
  have hLi : (L : Int) ≤ 3584 := by omega
  refine lv_aload_n hx hb dL_law_750 rfl (lv_at hl 2 rfl) ?_
  refine lv_aload_n hx hb dL_law_751 rfl (lv_at hl 3 rfl) ?_
  refine lv_iload_n hx hb dL_law_752 rfl (lv_at hl 0 rfl) ?_
  refine lv_iconst (v := 1) hx hb dL_law_753 (by decide) ?_
  refine lv_iadd hx hb dL_law_754 ?_
  refine lv_topi (fun x1 ex1 => ?_)
  have tx1 : x1.toInt = i.toInt + 1 := z_tadd ex1 rfl z_l1 (by omega) (by omega)
  refine va_sld hx hb hX hbl hbA hS (z_ix rfl (by omega) (by omega)) dL_law_755 ?_
  refine lv_topi (fun x2 ex2 => ?_)
  refine lv_aload_n hx hb dL_law_756 rfl (lv_at hl 3 rfl) ?_
  refine lv_iload_n hx hb dL_law_757 rfl (lv_at hl 0 rfl) ?_
  refine lv_iconst (v := 2) hx hb dL_law_758 (by decide) ?_
  refine lv_iadd hx hb dL_law_759 ?_
  refine lv_topi (fun x3 ex3 => ?_)
  have tx3 : x3.toInt = i.toInt + 2 := z_tadd ex3 rfl z_l2 (by omega) (by omega)
  refine va_sld hx hb hX hbl hbA hS (z_ix rfl (by omega) (by omega)) dL_law_760 ?_
  refine lv_topi (fun x4 ex4 => ?_)
  refine z_ciD hWX hWM hap hS hA (va_runV (As := [.int x2, .int x4]) (rest := []) ⟨hx, hb, hml, hown, hts0⟩ (sx_X11_poured l G ad c Ix hLX.2.2.2.2.1 x2 x4 hLX.2.2.2.2.2.2.2.2.2.1 hLX.2.2.2.2.2.2.2.2.2.2.1 _) (cwV 2 hts0 gV_X11_poured rfl rfl rfl (by decide +kernel) ⟨(Nat.le_of_ble_eq_true rfl), (Nat.le_of_ble_eq_true rfl)⟩) (z_preV (i := 0) hK hWX rfl rfl) rfl rfl hl.1 rfl (lv_room (Nat.le_of_ble_eq_true rfl)) dL_law_761 ⟨(by show cells + 0 ≤ 600000; omega), (by show slots + 0 ≤ 7302250; omega)⟩) (fun r u1 H locs hp hWX hWM hap hS => ?_)
  subst hp
  refine lv_topi (fun x5 ex5 => ?_)
  refine lv_pop hx hb dL_law_764 rfl ?_
  refine lv_aload_n hx hb dL_law_765 rfl (lv_at hl 1 rfl) ?_
  refine lv_aload_n hx hb dL_law_766 rfl (lv_at hl 3 rfl) ?_
  refine lv_iload_n hx hb dL_law_767 rfl (lv_at hl 0 rfl) ?_
  refine lv_iconst (v := 1) hx hb dL_law_768 (by decide) ?_
  refine lv_iadd hx hb dL_law_769 ?_
  refine lv_topi (fun x6 ex6 => ?_)
  have tx6 : x6.toInt = i.toInt + 1 := z_tadd ex6 rfl z_l1 (by omega) (by omega)
  refine va_sld hx hb hX hbl hbA hS (z_ix rfl (by omega) (by omega)) dL_law_770 ?_
  refine lv_topi (fun x7 ex7 => ?_)
  refine lv_aload_n hx hb dL_law_771 rfl (lv_at hl 3 rfl) ?_
  refine lv_iload_n hx hb dL_law_772 rfl (lv_at hl 0 rfl) ?_
  refine lv_iconst (v := 2) hx hb dL_law_773 (by decide) ?_
  refine lv_iadd hx hb dL_law_774 ?_
  refine lv_topi (fun x8 ex8 => ?_)
  have tx8 : x8.toInt = i.toInt + 2 := z_tadd ex8 rfl z_l2 (by omega) (by omega)
  refine va_sld hx hb hX hbl hbA hS (z_ix rfl (by omega) (by omega)) dL_law_775 ?_
  refine lv_topi (fun x9 ex9 => ?_)
  refine z_ciD hWM hWX (fun i j hi hj e => hap j i hj hi e.symm) hS hA (va_runV (As := [.int x7, .int x9]) (rest := []) ⟨hx, hb, hml, hown, hts0⟩ (sx_X12_poured l G adM Im Jm hLM.2.2.2.2.2.2.2.1 x7 x9 _) (cwV 2 hts0 gV_X12_poured rfl rfl rfl (by decide +kernel) ⟨(Nat.le_of_ble_eq_true rfl), (Nat.le_of_ble_eq_true rfl)⟩) (z_preV (i := 0) hK hWM rfl rfl) rfl rfl hl.1 rfl (lv_room (Nat.le_of_ble_eq_true rfl)) dL_law_776 ⟨(by show cells + 0 + 0 ≤ 600000; omega), (by show slots + 0 + 0 ≤ 7302250; omega)⟩) (fun r u1 H locs hp hWM hWX hapn hS => ?_)
  subst hp
  have hap := fun i j hi hj e => hapn j i hj hi (Eq.symm e)
  refine lv_topi (fun x10 ex10 => ?_)
  refine lv_pop hx hb dL_law_779 rfl ?_
  refine lv_goto (tgt := 1508) hx hb dL_law_780 (by decide) ?_
  have hEQ9 : z_EQ Ix Im := ⟨htd.1, htd.2.1, htd.2.2⟩
  refine W.widen (k := cells + 8) (n := slots + 2006) (by omega) (by omega) ?_
  exact kk c ad Ix Im Jm _ _ _ hLX hLM hEQ9 hWX hWM hap hS (lv_sub hl [0, 1, 2, 3] rfl)
set_option maxHeartbeats 8000000 in
set_option maxRecDepth 100000 in
theorem lc_17 {p : Program} {e : Env} {s : State} {m : MethodId} {below : List Frame} {meth : Method} {c0 : Code} {b L : Nat} {xs : Nat → Int32} (l : Launch) {G : z_G} {A : Nat → Prop} {adK adV : Nat → Nat} (hK : z_K G s) (hA : ∀ q : Nat, s.heap.size ≤ q → A q) (hAi : ∀ q : Nat, A q → s.heap.size ≤ q) (hSt : z_St A s s.heap) (hKn : z_Cq adK adV A s s.heap) (hL : L ≤ 3584) (C0 : lw_At p s m meth c0 b L xs) {c : z_C} {ad adM : Nat → Nat} {Ix Im : z_I} {Jm : z_J} (hLX : z_LX c Ix) (hLM : z_LM Im) (htd : z_EQ Ix Im) {H : Heap} {locs : List Loc} {ls : Array Slot} (hWX : z_W G A (shC c, ad, Ix, JX, PC c ad) H) (hWM : z_W G A (shM, adM, Im, Jm, PM adM) H) (hap : ∀ i j, shC c i ≠ none → shM j ≠ none → ad i ≠ adM j) (hS : va_S A s.heap H locs) {i : Int32} (hi0 : 0 ≤ i.toInt) (hiL : i.toInt + 7 ≤ (L : Int)) (hl : lv_has ls 4 [(3, .int i), (2, .ref (adM 0)), (1, .ref (ad 0)), (0, .ref b)]) {cells slots : Nat} (hce : cells + 8 ≤ 600000) (hsl : slots + 2006 ≤ 7302250) (kk : ∀ (c : z_C) (ad : Nat → Nat) (Ix Im : z_I) (Jm : z_J) (H : Heap) (locs : List Loc) (ls : Array Slot), z_LX c Ix → z_LM Im → z_EQ Ix Im → z_W G A (shC c, ad, Ix, JX, PC c ad) H → z_W G A (shM, adM, Im, Jm, PM adM) H → (∀ i j, shC c i ≠ none → shM j ≠ none → ad i ≠ adM j) → va_S A s.heap H locs → lv_has ls 4 [(3, .int i), (2, .ref (adM 0)), (1, .ref (ad 0)), (0, .ref b)] → W p l e room_1 s m #[Value.ref b] below meth c0 H locs (cells + 8) (slots + 2006) (lw_Z below #[Value.ref b] s) (F0 m 1508 ls [])) : W p l e room_1 s m #[Value.ref b] below meth c0 H locs (cells) (slots) (lw_Z below #[Value.ref b] s) (F0 m 783 ls []) := by
  obtain ⟨hx, hb, hr, hml, hown, hts0, hX, hbl, hlocks, hgv⟩ := id C0
  have hown : s.vm.findClass RL = some m.cls := hown
  have hts : ∀ w ∈ wsL_law, w.before #[Value.ref b] s = true := fun w hw => hts0 w (wsL_law_in w hw)
  have hbA : ¬ A b := fun h => absurd (hAi b h) (Nat.not_le.mpr hbl)
  have hLi : (L : Int) ≤ 3584 := by omega
  refine lv_aload_n hx hb dL_law_783 rfl (lv_at hl 2 rfl) ?_
  refine lv_aload_n hx hb dL_law_784 rfl (lv_at hl 3 rfl) ?_
  refine lv_iload_n hx hb dL_law_785 rfl (lv_at hl 0 rfl) ?_
  refine lv_iconst (v := 1) hx hb dL_law_786 (by decide) ?_
  refine lv_iadd hx hb dL_law_787 ?_
  refine lv_topi (fun x1 ex1 => ?_)
  have tx1 : x1.toInt = i.toInt + 1 := z_tadd ex1 rfl z_l1 (by omega) (by omega)
  refine va_sld hx hb hX hbl hbA hS (z_ix rfl (by omega) (by omega)) dL_law_788 ?_
  refine lv_topi (fun x2 ex2 => ?_)
  refine z_ciD hWX hWM hap hS hA (va_runV (As := [.int x2]) (rest := []) ⟨hx, hb, hml, hown, hts0⟩ (sx_X11_found l G ad c Ix hLX.2.2.2.2.1 hLX.1 hLX.2.2.2.2.2.2.2.2.1 x2 hLX.2.2.2.2.2.2.2.2.2.1 hLX.2.2.2.2.2.2.2.2.2.2.1 _) (cwV 1 hts0 gV_X11_found rfl rfl rfl (by decide +kernel) ⟨(Nat.le_of_ble_eq_true rfl), (Nat.le_of_ble_eq_true rfl)⟩) (z_preV (i := 0) hK hWX rfl rfl) rfl rfl hl.1 rfl (lv_room (Nat.le_of_ble_eq_true rfl)) dL_law_789 ⟨(by show cells + 0 ≤ 600000; omega), (by show slots + 0 ≤ 7302250; omega)⟩) (fun r u1 H locs hp hWX hWM hap hS => ?_)
  subst hp
  refine lv_topi (fun x3 ex3 => ?_)
  refine lv_pop hx hb dL_law_792 rfl ?_
  refine lv_aload_n hx hb dL_law_793 rfl (lv_at hl 1 rfl) ?_
  refine lv_aload_n hx hb dL_law_794 rfl (lv_at hl 3 rfl) ?_
  refine lv_iload_n hx hb dL_law_795 rfl (lv_at hl 0 rfl) ?_
  refine lv_iconst (v := 1) hx hb dL_law_796 (by decide) ?_
  refine lv_iadd hx hb dL_law_797 ?_
  refine lv_topi (fun x4 ex4 => ?_)
  have tx4 : x4.toInt = i.toInt + 1 := z_tadd ex4 rfl z_l1 (by omega) (by omega)
  refine va_sld hx hb hX hbl hbA hS (z_ix rfl (by omega) (by omega)) dL_law_798 ?_
  refine lv_topi (fun x5 ex5 => ?_)
  refine z_ciD hWM hWX (fun i j hi hj e => hap j i hj hi e.symm) hS hA (va_runV (As := [.int x5]) (rest := []) ⟨hx, hb, hml, hown, hts0⟩ (sx_X12_found l G adM Im Jm hLM.1 hLM.2.2.2.2.2.2.2.1 x5 _) (cwV 1 hts0 gV_X12_found rfl rfl rfl (by decide +kernel) ⟨(Nat.le_of_ble_eq_true rfl), (Nat.le_of_ble_eq_true rfl)⟩) (z_preV (i := 0) hK hWM rfl rfl) rfl rfl hl.1 rfl (lv_room (Nat.le_of_ble_eq_true rfl)) dL_law_799 ⟨(by show cells + 0 + 0 ≤ 600000; omega), (by show slots + 0 + 0 ≤ 7302250; omega)⟩) (fun r u1 H locs hp hWM hWX hapn hS => ?_)
  subst hp
  have hap := fun i j hi hj e => hapn j i hj hi (Eq.symm e)
  refine lv_topi (fun x6 ex6 => ?_)
  refine lv_pop hx hb dL_law_802 rfl ?_
  refine lv_goto (tgt := 1508) hx hb dL_law_803 (by decide) ?_
  have hEQ9 : z_EQ Ix Im := ⟨htd.1, htd.2.1, htd.2.2⟩
  refine W.widen (k := cells + 8) (n := slots + 2006) (by omega) (by omega) ?_
  exact kk c ad Ix Im Jm _ _ _ hLX hLM hEQ9 hWX hWM hap hS (lv_sub hl [0, 1, 2, 3] rfl)
set_option maxHeartbeats 8000000 in
set_option maxRecDepth 100000 in
theorem lc_18 {p : Program} {e : Env} {s : State} {m : MethodId} {below : List Frame} {meth : Method} {c0 : Code} {b L : Nat} {xs : Nat → Int32} (l : Launch) {G : z_G} {A : Nat → Prop} {adK adV : Nat → Nat} (hK : z_K G s) (hA : ∀ q : Nat, s.heap.size ≤ q → A q) (hAi : ∀ q : Nat, A q → s.heap.size ≤ q) (hSt : z_St A s s.heap) (hKn : z_Cq adK adV A s s.heap) (hL : L ≤ 3584) (C0 : lw_At p s m meth c0 b L xs) {c : z_C} {ad adM : Nat → Nat} {Ix Im : z_I} {Jm : z_J} (hLX : z_LX c Ix) (hLM : z_LM Im) (htd : z_EQ Ix Im) {H : Heap} {locs : List Loc} {ls : Array Slot} (hWX : z_W G A (shC c, ad, Ix, JX, PC c ad) H) (hWM : z_W G A (shM, adM, Im, Jm, PM adM) H) (hap : ∀ i j, shC c i ≠ none → shM j ≠ none → ad i ≠ adM j) (hS : va_S A s.heap H locs) {i : Int32} (hi0 : 0 ≤ i.toInt) (hiL : i.toInt + 7 ≤ (L : Int)) (hl : lv_has ls 4 [(3, .int i), (2, .ref (adM 0)), (1, .ref (ad 0)), (0, .ref b)]) {cells slots : Nat} (hce : cells + 8 ≤ 600000) (hsl : slots + 2006 ≤ 7302250) (kk : ∀ (c : z_C) (ad : Nat → Nat) (Ix Im : z_I) (Jm : z_J) (H : Heap) (locs : List Loc) (ls : Array Slot), z_LX c Ix → z_LM Im → z_EQ Ix Im → z_W G A (shC c, ad, Ix, JX, PC c ad) H → z_W G A (shM, adM, Im, Jm, PM adM) H → (∀ i j, shC c i ≠ none → shM j ≠ none → ad i ≠ adM j) → va_S A s.heap H locs → lv_has ls 4 [(3, .int i), (2, .ref (adM 0)), (1, .ref (ad 0)), (0, .ref b)] → W p l e room_1 s m #[Value.ref b] below meth c0 H locs (cells + 8) (slots + 2006) (lw_Z below #[Value.ref b] s) (F0 m 1508 ls [])) : W p l e room_1 s m #[Value.ref b] below meth c0 H locs (cells) (slots) (lw_Z below #[Value.ref b] s) (F0 m 806 ls []) := by
  obtain ⟨hx, hb, hr, hml, hown, hts0, hX, hbl, hlocks, hgv⟩ := id C0
  have hown : s.vm.findClass RL = some m.cls := hown
  have hts : ∀ w ∈ wsL_law, w.before #[Value.ref b] s = true := fun w hw => hts0 w (wsL_law_in w hw)
  have hbA : ¬ A b := fun h => absurd (hAi b h) (Nat.not_le.mpr hbl)
  have hLi : (L : Int) ≤ 3584 := by omega
  refine lv_aload_n hx hb dL_law_806 rfl (lv_at hl 2 rfl) ?_
  refine lv_aload_n hx hb dL_law_807 rfl (lv_at hl 3 rfl) ?_
  refine lv_iload_n hx hb dL_law_808 rfl (lv_at hl 0 rfl) ?_
  refine lv_iconst (v := 1) hx hb dL_law_809 (by decide) ?_
  refine lv_iadd hx hb dL_law_810 ?_
  refine lv_topi (fun x1 ex1 => ?_)
  have tx1 : x1.toInt = i.toInt + 1 := z_tadd ex1 rfl z_l1 (by omega) (by omega)
  refine va_sld hx hb hX hbl hbA hS (z_ix rfl (by omega) (by omega)) dL_law_811 ?_
  refine lv_topi (fun x2 ex2 => ?_)
  refine lv_aload_n hx hb dL_law_812 rfl (lv_at hl 3 rfl) ?_
  refine lv_iload_n hx hb dL_law_813 rfl (lv_at hl 0 rfl) ?_
  refine lv_iconst (v := 2) hx hb dL_law_814 (by decide) ?_
  refine lv_iadd hx hb dL_law_815 ?_
  refine lv_topi (fun x3 ex3 => ?_)
  have tx3 : x3.toInt = i.toInt + 2 := z_tadd ex3 rfl z_l2 (by omega) (by omega)
  refine va_sld hx hb hX hbl hbA hS (z_ix rfl (by omega) (by omega)) dL_law_816 ?_
  refine lv_topi (fun x4 ex4 => ?_)
  refine z_ciD hWX hWM hap hS hA (va_runV (As := [.int x2, .int x4]) (rest := []) ⟨hx, hb, hml, hown, hts0⟩ (sx_X11_deliver l G ad c Ix hLX.2.2.2.2.2.2.2.2.1 x2 x4 hLX.2.2.2.2.2.2.2.2.2.1 hLX.2.2.2.2.2.2.2.2.2.2.1 hLX.2.2.2.2.2.2.2.2.2.2.2.1 _) (cwV 2 hts0 gV_X11_deliver rfl rfl rfl (by decide +kernel) ⟨(Nat.le_of_ble_eq_true rfl), (Nat.le_of_ble_eq_true rfl)⟩) (z_preV (i := 0) hK hWX rfl rfl) rfl rfl hl.1 rfl (lv_room (Nat.le_of_ble_eq_true rfl)) dL_law_817 ⟨(by show cells + 0 ≤ 600000; omega), (by show slots + 0 ≤ 7302250; omega)⟩) (fun r u1 H locs hp hWX hWM hap hS => ?_)
  obtain ⟨I5, rfl, p7, p8, p9⟩ := hp
  have hLXI5 : z_LX c I5 := ⟨⟨(by show 0 ≤ (I5 1 5).toInt ∧ (I5 1 5).toInt ≤ 30; rw [p8 1 5 (by decide)]; exact hLX.1.1), (by show 0 ≤ (I5 1 11).toInt ∧ (I5 1 11).toInt ≤ 200; rw [p8 1 11 (by decide)]; exact hLX.1.2)⟩, ⟨(by show 0 ≤ (I5 12 1).toInt ∧ (I5 12 1).toInt ≤ 500; rw [p8 12 1 (by decide)]; exact hLX.2.1.1), (by show 0 ≤ (I5 12 5).toInt ∧ (I5 12 5).toInt ≤ 501; rw [p8 12 5 (by decide)]; exact hLX.2.1.2.1), (by show (-1) ≤ (I5 12 6).toInt ∧ (I5 12 6).toInt ≤ 1000000; rw [p8 12 6 (by decide)]; exact hLX.2.1.2.2.1), (by show 0 ≤ (I5 12 9).toInt ∧ (I5 12 9).toInt ≤ 500; rw [p8 12 9 (by decide)]; exact hLX.2.1.2.2.2.1), (by show 0 ≤ (I5 12 13).toInt ∧ (I5 12 13).toInt ≤ 24; rw [p8 12 13 (by decide)]; exact hLX.2.1.2.2.2.2)⟩, (by show 0 ≤ (I5 21 2).toInt ∧ (I5 21 2).toInt ≤ 12; rw [p8 21 2 (by decide)]; exact hLX.2.2.1), (by show 0 ≤ (I5 26 4).toInt ∧ (I5 26 4).toInt ≤ 512; rw [p8 26 4 (by decide)]; exact hLX.2.2.2.1), (by show 0 ≤ (I5 30 8).toInt ∧ (I5 30 8).toInt ≤ 300; rw [p8 30 8 (by decide)]; exact hLX.2.2.2.2.1), (by show 0 ≤ (I5 41 10).toInt ∧ (I5 41 10).toInt ≤ 4; rw [p8 41 10 (by decide)]; exact hLX.2.2.2.2.2.1), ⟨(by show 0 ≤ (I5 60 9).toInt ∧ (I5 60 9).toInt ≤ 60; rw [p8 60 9 (by decide)]; exact hLX.2.2.2.2.2.2.1.1), (by show 0 ≤ (I5 60 12).toInt ∧ (I5 60 12).toInt ≤ 12; rw [p8 60 12 (by decide)]; exact hLX.2.2.2.2.2.2.1.2)⟩, (by show 0 ≤ (I5 72 2).toInt ∧ (I5 72 2).toInt ≤ 30; rw [p8 72 2 (by decide)]; exact hLX.2.2.2.2.2.2.2.1), p7, hLX.2.2.2.2.2.2.2.2.2.1, hLX.2.2.2.2.2.2.2.2.2.2.1, p9, (by rw [p8 0 8 (by decide)]; exact hLX.2.2.2.2.2.2.2.2.2.2.2.2.1), (by rw [p8 21 2 (by decide)]; exact hLX.2.2.2.2.2.2.2.2.2.2.2.2.2)⟩
  refine lv_topi (fun x10 ex10 => ?_)
  refine lv_pop hx hb dL_law_820 rfl ?_
  refine lv_aload_n hx hb dL_law_821 rfl (lv_at hl 1 rfl) ?_
  refine lv_aload_n hx hb dL_law_822 rfl (lv_at hl 3 rfl) ?_
  refine lv_iload_n hx hb dL_law_823 rfl (lv_at hl 0 rfl) ?_
  refine lv_iconst (v := 1) hx hb dL_law_824 (by decide) ?_
  refine lv_iadd hx hb dL_law_825 ?_
  refine lv_topi (fun x11 ex11 => ?_)
  have tx11 : x11.toInt = i.toInt + 1 := z_tadd ex11 rfl z_l1 (by omega) (by omega)
  refine va_sld hx hb hX hbl hbA hS (z_ix rfl (by omega) (by omega)) dL_law_826 ?_
  refine lv_topi (fun x12 ex12 => ?_)
  refine lv_aload_n hx hb dL_law_827 rfl (lv_at hl 3 rfl) ?_
  refine lv_iload_n hx hb dL_law_828 rfl (lv_at hl 0 rfl) ?_
  refine lv_iconst (v := 2) hx hb dL_law_829 (by decide) ?_
  refine lv_iadd hx hb dL_law_830 ?_
  refine lv_topi (fun x13 ex13 => ?_)
  have tx13 : x13.toInt = i.toInt + 2 := z_tadd ex13 rfl z_l2 (by omega) (by omega)
  refine va_sld hx hb hX hbl hbA hS (z_ix rfl (by omega) (by omega)) dL_law_831 ?_
  refine lv_topi (fun x14 ex14 => ?_)
  refine z_ciD hWM hWX (fun i j hi hj e => hap j i hj hi e.symm) hS hA (va_runV (As := [.int x12, .int x14]) (rest := []) ⟨hx, hb, hml, hown, hts0⟩ (sx_X12_deliver l G adM Im Jm hLM.2.2.2.2.2.2.2.1 hLM.2.2.2.2.2.2.2.2.2.2.2.2.2.2.1 x12 x14 _) (cwV 2 hts0 gV_X12_deliver rfl rfl rfl (by decide +kernel) ⟨(Nat.le_of_ble_eq_true rfl), (Nat.le_of_ble_eq_true rfl)⟩) (z_preV (i := 0) hK hWM rfl rfl) rfl rfl hl.1 rfl (lv_room (Nat.le_of_ble_eq_true rfl)) dL_law_832 ⟨(by show cells + 0 + 0 ≤ 600000; omega), (by show slots + 0 + 0 ≤ 7302250; omega)⟩) (fun r u1 H locs hp hWM hWX hapn hS => ?_)
  obtain ⟨I15, J16, rfl, p17, p18, p19⟩ := hp
  have hLMI15 : z_LM I15 := ⟨⟨(by show 0 ≤ (I15 0 0).toInt ∧ (I15 0 0).toInt ≤ 719; rw [p19 0 0 (by decide)]; exact hLM.1.1), (by show 0 ≤ (I15 0 1).toInt ∧ (I15 0 1).toInt ≤ 30; rw [p19 0 1 (by decide)]; exact hLM.1.2.1), (by show 0 ≤ (I15 0 2).toInt ∧ (I15 0 2).toInt ≤ 200; rw [p19 0 2 (by decide)]; exact hLM.1.2.2)⟩, ⟨(by show 0 ≤ (I15 0 13).toInt ∧ (I15 0 13).toInt ≤ 12; rw [p19 0 13 (by decide)]; exact hLM.2.1.1), (by show 0 ≤ (I15 0 14).toInt ∧ (I15 0 14).toInt ≤ 288; rw [p19 0 14 (by decide)]; exact hLM.2.1.2)⟩, (by show 0 ≤ (I15 0 15).toInt ∧ (I15 0 15).toInt ≤ 6100; rw [p19 0 15 (by decide)]; exact hLM.2.2.1), ⟨(by show 0 ≤ (I15 0 31).toInt ∧ (I15 0 31).toInt ≤ 500; rw [p19 0 31 (by decide)]; exact hLM.2.2.2.1.1), (by show 0 ≤ (I15 0 33).toInt ∧ (I15 0 33).toInt ≤ 500; rw [p19 0 33 (by decide)]; exact hLM.2.2.2.1.2.1), (by show 0 ≤ (I15 0 34).toInt ∧ (I15 0 34).toInt ≤ 500; rw [p19 0 34 (by decide)]; exact hLM.2.2.2.1.2.2.1), (by show 0 ≤ (I15 0 35).toInt ∧ (I15 0 35).toInt ≤ 500; rw [p19 0 35 (by decide)]; exact hLM.2.2.2.1.2.2.2)⟩, ⟨(by show 0 ≤ (I15 0 36).toInt ∧ (I15 0 36).toInt ≤ 4; rw [p19 0 36 (by decide)]; exact hLM.2.2.2.2.1.1), (by show 0 ≤ (I15 0 42).toInt ∧ (I15 0 42).toInt ≤ 1; rw [p19 0 42 (by decide)]; exact hLM.2.2.2.2.1.2)⟩, ⟨(by show 0 ≤ (I15 0 47).toInt ∧ (I15 0 47).toInt ≤ 119; rw [p19 0 47 (by decide)]; exact hLM.2.2.2.2.2.1.1), (by show 0 ≤ (I15 0 39).toInt ∧ (I15 0 39).toInt ≤ 100; rw [p19 0 39 (by decide)]; exact hLM.2.2.2.2.2.1.2)⟩, (by show 0 ≤ (I15 0 40).toInt ∧ (I15 0 40).toInt ≤ 6199; rw [p19 0 40 (by decide)]; exact hLM.2.2.2.2.2.2.1), p17, (by show 0 ≤ (I15 0 75).toInt ∧ (I15 0 75).toInt ≤ 4; rw [p19 0 75 (by decide)]; exact hLM.2.2.2.2.2.2.2.2.1), (by show 0 ≤ (I15 0 83).toInt ∧ (I15 0 83).toInt ≤ 60; rw [p19 0 83 (by decide)]; exact hLM.2.2.2.2.2.2.2.2.2.1), (z_rg_fr hLM.2.2.2.2.2.2.2.2.2.2.1 p19 (by decide)), (z_rg_fr hLM.2.2.2.2.2.2.2.2.2.2.2.1 p19 (by decide)), (z_rg_fr hLM.2.2.2.2.2.2.2.2.2.2.2.2.1 p19 (by decide)), (z_rg_fr hLM.2.2.2.2.2.2.2.2.2.2.2.2.2.1 p19 (by decide)), p18, (z_rg_fr hLM.2.2.2.2.2.2.2.2.2.2.2.2.2.2.2.1 p19 (by decide)), (z_rg_fr hLM.2.2.2.2.2.2.2.2.2.2.2.2.2.2.2.2.1 p19 (by decide)), (z_rg_fr hLM.2.2.2.2.2.2.2.2.2.2.2.2.2.2.2.2.2.1 p19 (by decide)), (z_rg_fr hLM.2.2.2.2.2.2.2.2.2.2.2.2.2.2.2.2.2.2.1 p19 (by decide)), (z_rg_fr hLM.2.2.2.2.2.2.2.2.2.2.2.2.2.2.2.2.2.2.2.1 p19 (by decide)), (z_Nd_fr hLM.2.2.2.2.2.2.2.2.2.2.2.2.2.2.2.2.2.2.2.2.1 p19 (by decide)), (z_Ex_fr hLM.2.2.2.2.2.2.2.2.2.2.2.2.2.2.2.2.2.2.2.2.2.1 p19 (by decide)), (z_rg_fr hLM.2.2.2.2.2.2.2.2.2.2.2.2.2.2.2.2.2.2.2.2.2.2.1 p19 (by decide)), (z_rg_fr hLM.2.2.2.2.2.2.2.2.2.2.2.2.2.2.2.2.2.2.2.2.2.2.2.1 p19 (by decide)), (z_rg_fr hLM.2.2.2.2.2.2.2.2.2.2.2.2.2.2.2.2.2.2.2.2.2.2.2.2.1 p19 (by decide)), (z_rg_fr hLM.2.2.2.2.2.2.2.2.2.2.2.2.2.2.2.2.2.2.2.2.2.2.2.2.2.1 p19 (by decide)), (z_rg_fr hLM.2.2.2.2.2.2.2.2.2.2.2.2.2.2.2.2.2.2.2.2.2.2.2.2.2.2.1 p19 (by decide)), (z_rg_fr hLM.2.2.2.2.2.2.2.2.2.2.2.2.2.2.2.2.2.2.2.2.2.2.2.2.2.2.2.1 p19 (by decide)), (z_rg_fr hLM.2.2.2.2.2.2.2.2.2.2.2.2.2.2.2.2.2.2.2.2.2.2.2.2.2.2.2.2.1 p19 (by decide)), (by unfold z_iro; rw [p19 0 13 (by decide), p19 0 14 (by decide), p19 0 15 (by decide)]; exact hLM.2.2.2.2.2.2.2.2.2.2.2.2.2.2.2.2.2.2.2.2.2.2.2.2.2.2.2.2.2)⟩
  have hap := fun i j hi hj e => hapn j i hj hi (Eq.symm e)
  refine lv_topi (fun x20 ex20 => ?_)
  refine lv_pop hx hb dL_law_835 rfl ?_
  refine lv_goto (tgt := 1508) hx hb dL_law_836 (by decide) ?_
  have hEQ9 : z_EQ I5 I15 := ⟨(by rw [p8 0 0 (by decide), p19 0 0 (by decide)]; exact htd.1), (by rw [p8 1 5 (by decide), p19 0 1 (by decide)]; exact htd.2.1), (by rw [p8 60 9 (by decide), p19 0 83 (by decide)]; exact htd.2.2)⟩
  refine W.widen (k := cells + 8) (n := slots + 2006) (by omega) (by omega) ?_
  exact kk c ad I5 I15 J16 _ _ _ hLXI5 hLMI15 hEQ9 hWX hWM hap hS (lv_sub hl [0, 1, 2, 3] rfl)
set_option maxHeartbeats 8000000 in
set_option maxRecDepth 100000 in
theorem lc_19 {p : Program} {e : Env} {s : State} {m : MethodId} {below : List Frame} {meth : Method} {c0 : Code} {b L : Nat} {xs : Nat → Int32} (l : Launch) {G : z_G} {A : Nat → Prop} {adK adV : Nat → Nat} (hK : z_K G s) (hA : ∀ q : Nat, s.heap.size ≤ q → A q) (hAi : ∀ q : Nat, A q → s.heap.size ≤ q) (hSt : z_St A s s.heap) (hKn : z_Cq adK adV A s s.heap) (hL : L ≤ 3584) (C0 : lw_At p s m meth c0 b L xs) {c : z_C} {ad adM : Nat → Nat} {Ix Im : z_I} {Jm : z_J} (hLX : z_LX c Ix) (hLM : z_LM Im) (htd : z_EQ Ix Im) {H : Heap} {locs : List Loc} {ls : Array Slot} (hWX : z_W G A (shC c, ad, Ix, JX, PC c ad) H) (hWM : z_W G A (shM, adM, Im, Jm, PM adM) H) (hap : ∀ i j, shC c i ≠ none → shM j ≠ none → ad i ≠ adM j) (hS : va_S A s.heap H locs) {i : Int32} (hi0 : 0 ≤ i.toInt) (hiL : i.toInt + 7 ≤ (L : Int)) (hl : lv_has ls 4 [(3, .int i), (2, .ref (adM 0)), (1, .ref (ad 0)), (0, .ref b)]) {cells slots : Nat} (hce : cells + 8 ≤ 600000) (hsl : slots + 2006 ≤ 7302250) (kk : ∀ (c : z_C) (ad : Nat → Nat) (Ix Im : z_I) (Jm : z_J) (H : Heap) (locs : List Loc) (ls : Array Slot), z_LX c Ix → z_LM Im → z_EQ Ix Im → z_W G A (shC c, ad, Ix, JX, PC c ad) H → z_W G A (shM, adM, Im, Jm, PM adM) H → (∀ i j, shC c i ≠ none → shM j ≠ none → ad i ≠ adM j) → va_S A s.heap H locs → lv_has ls 4 [(3, .int i), (2, .ref (adM 0)), (1, .ref (ad 0)), (0, .ref b)] → W p l e room_1 s m #[Value.ref b] below meth c0 H locs (cells + 8) (slots + 2006) (lw_Z below #[Value.ref b] s) (F0 m 1508 ls [])) : W p l e room_1 s m #[Value.ref b] below meth c0 H locs (cells) (slots) (lw_Z below #[Value.ref b] s) (F0 m 839 ls []) := by
  obtain ⟨hx, hb, hr, hml, hown, hts0, hX, hbl, hlocks, hgv⟩ := id C0
  have hown : s.vm.findClass RL = some m.cls := hown
  have hts : ∀ w ∈ wsL_law, w.before #[Value.ref b] s = true := fun w hw => hts0 w (wsL_law_in w hw)
  have hbA : ¬ A b := fun h => absurd (hAi b h) (Nat.not_le.mpr hbl)
  have hLi : (L : Int) ≤ 3584 := by omega
  refine lv_aload_n hx hb dL_law_839 rfl (lv_at hl 2 rfl) ?_
  refine lv_aload_n hx hb dL_law_840 rfl (lv_at hl 3 rfl) ?_
  refine lv_iload_n hx hb dL_law_841 rfl (lv_at hl 0 rfl) ?_
  refine lv_iconst (v := 1) hx hb dL_law_842 (by decide) ?_
  refine lv_iadd hx hb dL_law_843 ?_
  refine lv_topi (fun x1 ex1 => ?_)
  have tx1 : x1.toInt = i.toInt + 1 := z_tadd ex1 rfl z_l1 (by omega) (by omega)
  refine va_sld hx hb hX hbl hbA hS (z_ix rfl (by omega) (by omega)) dL_law_844 ?_
  refine lv_topi (fun x2 ex2 => ?_)
  refine lv_aload_n hx hb dL_law_845 rfl (lv_at hl 3 rfl) ?_
  refine lv_iload_n hx hb dL_law_846 rfl (lv_at hl 0 rfl) ?_
  refine lv_iconst (v := 2) hx hb dL_law_847 (by decide) ?_
  refine lv_iadd hx hb dL_law_848 ?_
  refine lv_topi (fun x3 ex3 => ?_)
  have tx3 : x3.toInt = i.toInt + 2 := z_tadd ex3 rfl z_l2 (by omega) (by omega)
  refine va_sld hx hb hX hbl hbA hS (z_ix rfl (by omega) (by omega)) dL_law_849 ?_
  refine lv_topi (fun x4 ex4 => ?_)
  refine z_ciD hWX hWM hap hS hA (va_runV (As := [.int x2, .int x4]) (rest := []) ⟨hx, hb, hml, hown, hts0⟩ (sx_X11_dip l G ad c Ix hLX.2.2.2.2.2.2.2.2.1 hLX.2.2.2.2.1 x2 x4 hLX.2.2.2.2.2.2.2.2.2.1 hLX.2.2.2.2.2.2.2.2.2.2.1 hLX.2.2.2.2.2.2.2.2.2.2.2.1 _) (cwV 2 hts0 gV_X11_dip rfl rfl rfl (by decide +kernel) ⟨(Nat.le_of_ble_eq_true rfl), (Nat.le_of_ble_eq_true rfl)⟩) (z_preV (i := 0) hK hWX rfl rfl) rfl rfl hl.1 rfl (lv_room (Nat.le_of_ble_eq_true rfl)) dL_law_850 ⟨(by show cells + 0 ≤ 600000; omega), (by show slots + 0 ≤ 7302250; omega)⟩) (fun r u1 H locs hp hWX hWM hap hS => ?_)
  obtain ⟨I5, rfl, p7, p8, p9, p10⟩ := hp
  have hLXI5 : z_LX c I5 := ⟨⟨(by show 0 ≤ (I5 1 5).toInt ∧ (I5 1 5).toInt ≤ 30; rw [p9 1 5 (by decide)]; exact hLX.1.1), (by show 0 ≤ (I5 1 11).toInt ∧ (I5 1 11).toInt ≤ 200; rw [p9 1 11 (by decide)]; exact hLX.1.2)⟩, ⟨(by show 0 ≤ (I5 12 1).toInt ∧ (I5 12 1).toInt ≤ 500; rw [p9 12 1 (by decide)]; exact hLX.2.1.1), (by show 0 ≤ (I5 12 5).toInt ∧ (I5 12 5).toInt ≤ 501; rw [p9 12 5 (by decide)]; exact hLX.2.1.2.1), (by show (-1) ≤ (I5 12 6).toInt ∧ (I5 12 6).toInt ≤ 1000000; rw [p9 12 6 (by decide)]; exact hLX.2.1.2.2.1), (by show 0 ≤ (I5 12 9).toInt ∧ (I5 12 9).toInt ≤ 500; rw [p9 12 9 (by decide)]; exact hLX.2.1.2.2.2.1), (by show 0 ≤ (I5 12 13).toInt ∧ (I5 12 13).toInt ≤ 24; rw [p9 12 13 (by decide)]; exact hLX.2.1.2.2.2.2)⟩, (by show 0 ≤ (I5 21 2).toInt ∧ (I5 21 2).toInt ≤ 12; rw [p9 21 2 (by decide)]; exact hLX.2.2.1), (by show 0 ≤ (I5 26 4).toInt ∧ (I5 26 4).toInt ≤ 512; rw [p9 26 4 (by decide)]; exact hLX.2.2.2.1), p8, (by show 0 ≤ (I5 41 10).toInt ∧ (I5 41 10).toInt ≤ 4; rw [p9 41 10 (by decide)]; exact hLX.2.2.2.2.2.1), ⟨(by show 0 ≤ (I5 60 9).toInt ∧ (I5 60 9).toInt ≤ 60; rw [p9 60 9 (by decide)]; exact hLX.2.2.2.2.2.2.1.1), (by show 0 ≤ (I5 60 12).toInt ∧ (I5 60 12).toInt ≤ 12; rw [p9 60 12 (by decide)]; exact hLX.2.2.2.2.2.2.1.2)⟩, (by show 0 ≤ (I5 72 2).toInt ∧ (I5 72 2).toInt ≤ 30; rw [p9 72 2 (by decide)]; exact hLX.2.2.2.2.2.2.2.1), p7, hLX.2.2.2.2.2.2.2.2.2.1, hLX.2.2.2.2.2.2.2.2.2.2.1, p10, (by rw [p9 0 8 (by decide)]; exact hLX.2.2.2.2.2.2.2.2.2.2.2.2.1), (by rw [p9 21 2 (by decide)]; exact hLX.2.2.2.2.2.2.2.2.2.2.2.2.2)⟩
  refine lv_topi (fun x11 ex11 => ?_)
  refine lv_pop hx hb dL_law_853 rfl ?_
  refine lv_aload_n hx hb dL_law_854 rfl (lv_at hl 1 rfl) ?_
  refine lv_aload_n hx hb dL_law_855 rfl (lv_at hl 3 rfl) ?_
  refine lv_iload_n hx hb dL_law_856 rfl (lv_at hl 0 rfl) ?_
  refine lv_iconst (v := 1) hx hb dL_law_857 (by decide) ?_
  refine lv_iadd hx hb dL_law_858 ?_
  refine lv_topi (fun x12 ex12 => ?_)
  have tx12 : x12.toInt = i.toInt + 1 := z_tadd ex12 rfl z_l1 (by omega) (by omega)
  refine va_sld hx hb hX hbl hbA hS (z_ix rfl (by omega) (by omega)) dL_law_859 ?_
  refine lv_topi (fun x13 ex13 => ?_)
  refine lv_aload_n hx hb dL_law_860 rfl (lv_at hl 3 rfl) ?_
  refine lv_iload_n hx hb dL_law_861 rfl (lv_at hl 0 rfl) ?_
  refine lv_iconst (v := 2) hx hb dL_law_862 (by decide) ?_
  refine lv_iadd hx hb dL_law_863 ?_
  refine lv_topi (fun x14 ex14 => ?_)
  have tx14 : x14.toInt = i.toInt + 2 := z_tadd ex14 rfl z_l2 (by omega) (by omega)
  refine va_sld hx hb hX hbl hbA hS (z_ix rfl (by omega) (by omega)) dL_law_864 ?_
  refine lv_topi (fun x15 ex15 => ?_)
  refine z_ciD hWM hWX (fun i j hi hj e => hap j i hj hi e.symm) hS hA (va_runV (As := [.int x13, .int x15]) (rest := []) ⟨hx, hb, hml, hown, hts0⟩ (sx_X12_dip l G adM Im Jm hLM.2.2.2.2.2.2.2.1 hLM.2.2.2.2.2.2.2.2.2.2.2.2.2.1 hLM.1 x13 x15 _) (cwV 2 hts0 gV_X12_dip rfl rfl rfl (by decide +kernel) ⟨(Nat.le_of_ble_eq_true rfl), (Nat.le_of_ble_eq_true rfl)⟩) (z_preV (i := 0) hK hWM rfl rfl) rfl rfl hl.1 rfl (lv_room (Nat.le_of_ble_eq_true rfl)) dL_law_865 ⟨(by show cells + 0 + 0 ≤ 600000; omega), (by show slots + 0 + 0 ≤ 7302250; omega)⟩) (fun r u1 H locs hp hWM hWX hapn hS => ?_)
  obtain ⟨I16, J17, rfl, p18, p19, p20, p21⟩ := hp
  have hLMI16 : z_LM I16 := ⟨p20, ⟨(by show 0 ≤ (I16 0 13).toInt ∧ (I16 0 13).toInt ≤ 12; rw [p21 0 13 (by decide)]; exact hLM.2.1.1), (by show 0 ≤ (I16 0 14).toInt ∧ (I16 0 14).toInt ≤ 288; rw [p21 0 14 (by decide)]; exact hLM.2.1.2)⟩, (by show 0 ≤ (I16 0 15).toInt ∧ (I16 0 15).toInt ≤ 6100; rw [p21 0 15 (by decide)]; exact hLM.2.2.1), ⟨(by show 0 ≤ (I16 0 31).toInt ∧ (I16 0 31).toInt ≤ 500; rw [p21 0 31 (by decide)]; exact hLM.2.2.2.1.1), (by show 0 ≤ (I16 0 33).toInt ∧ (I16 0 33).toInt ≤ 500; rw [p21 0 33 (by decide)]; exact hLM.2.2.2.1.2.1), (by show 0 ≤ (I16 0 34).toInt ∧ (I16 0 34).toInt ≤ 500; rw [p21 0 34 (by decide)]; exact hLM.2.2.2.1.2.2.1), (by show 0 ≤ (I16 0 35).toInt ∧ (I16 0 35).toInt ≤ 500; rw [p21 0 35 (by decide)]; exact hLM.2.2.2.1.2.2.2)⟩, ⟨(by show 0 ≤ (I16 0 36).toInt ∧ (I16 0 36).toInt ≤ 4; rw [p21 0 36 (by decide)]; exact hLM.2.2.2.2.1.1), (by show 0 ≤ (I16 0 42).toInt ∧ (I16 0 42).toInt ≤ 1; rw [p21 0 42 (by decide)]; exact hLM.2.2.2.2.1.2)⟩, ⟨(by show 0 ≤ (I16 0 47).toInt ∧ (I16 0 47).toInt ≤ 119; rw [p21 0 47 (by decide)]; exact hLM.2.2.2.2.2.1.1), (by show 0 ≤ (I16 0 39).toInt ∧ (I16 0 39).toInt ≤ 100; rw [p21 0 39 (by decide)]; exact hLM.2.2.2.2.2.1.2)⟩, (by show 0 ≤ (I16 0 40).toInt ∧ (I16 0 40).toInt ≤ 6199; rw [p21 0 40 (by decide)]; exact hLM.2.2.2.2.2.2.1), p18, (by show 0 ≤ (I16 0 75).toInt ∧ (I16 0 75).toInt ≤ 4; rw [p21 0 75 (by decide)]; exact hLM.2.2.2.2.2.2.2.2.1), (by show 0 ≤ (I16 0 83).toInt ∧ (I16 0 83).toInt ≤ 60; rw [p21 0 83 (by decide)]; exact hLM.2.2.2.2.2.2.2.2.2.1), (z_rg_fr hLM.2.2.2.2.2.2.2.2.2.2.1 p21 (by decide)), (z_rg_fr hLM.2.2.2.2.2.2.2.2.2.2.2.1 p21 (by decide)), (z_rg_fr hLM.2.2.2.2.2.2.2.2.2.2.2.2.1 p21 (by decide)), p19, (z_rg_fr hLM.2.2.2.2.2.2.2.2.2.2.2.2.2.2.1 p21 (by decide)), (z_rg_fr hLM.2.2.2.2.2.2.2.2.2.2.2.2.2.2.2.1 p21 (by decide)), (z_rg_fr hLM.2.2.2.2.2.2.2.2.2.2.2.2.2.2.2.2.1 p21 (by decide)), (z_rg_fr hLM.2.2.2.2.2.2.2.2.2.2.2.2.2.2.2.2.2.1 p21 (by decide)), (z_rg_fr hLM.2.2.2.2.2.2.2.2.2.2.2.2.2.2.2.2.2.2.1 p21 (by decide)), (z_rg_fr hLM.2.2.2.2.2.2.2.2.2.2.2.2.2.2.2.2.2.2.2.1 p21 (by decide)), (z_Nd_fr hLM.2.2.2.2.2.2.2.2.2.2.2.2.2.2.2.2.2.2.2.2.1 p21 (by decide)), (z_Ex_fr hLM.2.2.2.2.2.2.2.2.2.2.2.2.2.2.2.2.2.2.2.2.2.1 p21 (by decide)), (z_rg_fr hLM.2.2.2.2.2.2.2.2.2.2.2.2.2.2.2.2.2.2.2.2.2.2.1 p21 (by decide)), (z_rg_fr hLM.2.2.2.2.2.2.2.2.2.2.2.2.2.2.2.2.2.2.2.2.2.2.2.1 p21 (by decide)), (z_rg_fr hLM.2.2.2.2.2.2.2.2.2.2.2.2.2.2.2.2.2.2.2.2.2.2.2.2.1 p21 (by decide)), (z_rg_fr hLM.2.2.2.2.2.2.2.2.2.2.2.2.2.2.2.2.2.2.2.2.2.2.2.2.2.1 p21 (by decide)), (z_rg_fr hLM.2.2.2.2.2.2.2.2.2.2.2.2.2.2.2.2.2.2.2.2.2.2.2.2.2.2.1 p21 (by decide)), (z_rg_fr hLM.2.2.2.2.2.2.2.2.2.2.2.2.2.2.2.2.2.2.2.2.2.2.2.2.2.2.2.1 p21 (by decide)), (z_rg_fr hLM.2.2.2.2.2.2.2.2.2.2.2.2.2.2.2.2.2.2.2.2.2.2.2.2.2.2.2.2.1 p21 (by decide)), (by unfold z_iro; rw [p21 0 13 (by decide), p21 0 14 (by decide), p21 0 15 (by decide)]; exact hLM.2.2.2.2.2.2.2.2.2.2.2.2.2.2.2.2.2.2.2.2.2.2.2.2.2.2.2.2.2)⟩
  have hap := fun i j hi hj e => hapn j i hj hi (Eq.symm e)
  refine lv_topi (fun x22 ex22 => ?_)
  refine lv_pop hx hb dL_law_868 rfl ?_
  refine lv_goto (tgt := 1508) hx hb dL_law_869 (by decide) ?_
  have hEQ9 : z_EQ I5 I16 := ⟨(by rw [p9 0 0 (by decide), p21 0 0 (by decide)]; exact htd.1), (by rw [p9 1 5 (by decide), p21 0 1 (by decide)]; exact htd.2.1), (by rw [p9 60 9 (by decide), p21 0 83 (by decide)]; exact htd.2.2)⟩
  refine W.widen (k := cells + 8) (n := slots + 2006) (by omega) (by omega) ?_
  exact kk c ad I5 I16 J17 _ _ _ hLXI5 hLMI16 hEQ9 hWX hWM hap hS (lv_sub hl [0, 1, 2, 3] rfl)
set_option maxHeartbeats 8000000 in
set_option maxRecDepth 100000 in
theorem lc_20 {p : Program} {e : Env} {s : State} {m : MethodId} {below : List Frame} {meth : Method} {c0 : Code} {b L : Nat} {xs : Nat → Int32} (l : Launch) {G : z_G} {A : Nat → Prop} {adK adV : Nat → Nat} (hK : z_K G s) (hA : ∀ q : Nat, s.heap.size ≤ q → A q) (hAi : ∀ q : Nat, A q → s.heap.size ≤ q) (hSt : z_St A s s.heap) (hKn : z_Cq adK adV A s s.heap) (hL : L ≤ 3584) (C0 : lw_At p s m meth c0 b L xs) {c : z_C} {ad adM : Nat → Nat} {Ix Im : z_I} {Jm : z_J} (hLX : z_LX c Ix) (hLM : z_LM Im) (htd : z_EQ Ix Im) {H : Heap} {locs : List Loc} {ls : Array Slot} (hWX : z_W G A (shC c, ad, Ix, JX, PC c ad) H) (hWM : z_W G A (shM, adM, Im, Jm, PM adM) H) (hap : ∀ i j, shC c i ≠ none → shM j ≠ none → ad i ≠ adM j) (hS : va_S A s.heap H locs) {i : Int32} (hi0 : 0 ≤ i.toInt) (hiL : i.toInt + 7 ≤ (L : Int)) (hl : lv_has ls 4 [(3, .int i), (2, .ref (adM 0)), (1, .ref (ad 0)), (0, .ref b)]) {cells slots : Nat} (hce : cells + 8 ≤ 600000) (hsl : slots + 2006 ≤ 7302250) (kk : ∀ (c : z_C) (ad : Nat → Nat) (Ix Im : z_I) (Jm : z_J) (H : Heap) (locs : List Loc) (ls : Array Slot), z_LX c Ix → z_LM Im → z_EQ Ix Im → z_W G A (shC c, ad, Ix, JX, PC c ad) H → z_W G A (shM, adM, Im, Jm, PM adM) H → (∀ i j, shC c i ≠ none → shM j ≠ none → ad i ≠ adM j) → va_S A s.heap H locs → lv_has ls 4 [(3, .int i), (2, .ref (adM 0)), (1, .ref (ad 0)), (0, .ref b)] → W p l e room_1 s m #[Value.ref b] below meth c0 H locs (cells + 8) (slots + 2006) (lw_Z below #[Value.ref b] s) (F0 m 1508 ls [])) : W p l e room_1 s m #[Value.ref b] below meth c0 H locs (cells) (slots) (lw_Z below #[Value.ref b] s) (F0 m 872 ls []) := by
  obtain ⟨hx, hb, hr, hml, hown, hts0, hX, hbl, hlocks, hgv⟩ := id C0
  have hown : s.vm.findClass RL = some m.cls := hown
  have hts : ∀ w ∈ wsL_law, w.before #[Value.ref b] s = true := fun w hw => hts0 w (wsL_law_in w hw)
  have hbA : ¬ A b := fun h => absurd (hAi b h) (Nat.not_le.mpr hbl)
  have hLi : (L : Int) ≤ 3584 := by omega
  refine lv_aload_n hx hb dL_law_872 rfl (lv_at hl 2 rfl) ?_
  refine lv_aload_n hx hb dL_law_873 rfl (lv_at hl 3 rfl) ?_
  refine lv_iload_n hx hb dL_law_874 rfl (lv_at hl 0 rfl) ?_
  refine lv_iconst (v := 1) hx hb dL_law_875 (by decide) ?_
  refine lv_iadd hx hb dL_law_876 ?_
  refine lv_topi (fun x1 ex1 => ?_)
  have tx1 : x1.toInt = i.toInt + 1 := z_tadd ex1 rfl z_l1 (by omega) (by omega)
  refine va_sld hx hb hX hbl hbA hS (z_ix rfl (by omega) (by omega)) dL_law_877 ?_
  refine lv_topi (fun x2 ex2 => ?_)
  refine lv_aload_n hx hb dL_law_878 rfl (lv_at hl 3 rfl) ?_
  refine lv_iload_n hx hb dL_law_879 rfl (lv_at hl 0 rfl) ?_
  refine lv_iconst (v := 2) hx hb dL_law_880 (by decide) ?_
  refine lv_iadd hx hb dL_law_881 ?_
  refine lv_topi (fun x3 ex3 => ?_)
  have tx3 : x3.toInt = i.toInt + 2 := z_tadd ex3 rfl z_l2 (by omega) (by omega)
  refine va_sld hx hb hX hbl hbA hS (z_ix rfl (by omega) (by omega)) dL_law_882 ?_
  refine lv_topi (fun x4 ex4 => ?_)
  refine z_ciD hWX hWM hap hS hA (va_runV (As := [.int x2, .int x4]) (rest := []) ⟨hx, hb, hml, hown, hts0⟩ (sx_X11_in l G ad c Ix hLX.2.2.1 hLX.2.2.2.2.2.2.2.2.1 x2 x4 hLX.2.2.2.2.2.2.2.2.2.1 hLX.2.2.2.2.2.2.2.2.2.2.1 hLX.2.2.2.2.2.2.2.2.2.2.2.1 _) (cwV 2 hts0 gV_X11_in rfl rfl rfl (by decide +kernel) ⟨(Nat.le_of_ble_eq_true rfl), (Nat.le_of_ble_eq_true rfl)⟩) (z_preVS (i := 0) hK hWX hS hA hSt rfl rfl) rfl rfl hl.1 rfl (lv_room (Nat.le_of_ble_eq_true rfl)) dL_law_883 ⟨(by show cells + 0 ≤ 600000; omega), (by show slots + 0 ≤ 7302250; omega)⟩) (fun r u1 H locs hp hWX hWM hap hS => ?_)
  subst hp
  refine lv_topi (fun x5 ex5 => ?_)
  refine lv_pop hx hb dL_law_886 rfl ?_
  refine lv_aload_n hx hb dL_law_887 rfl (lv_at hl 1 rfl) ?_
  refine lv_aload_n hx hb dL_law_888 rfl (lv_at hl 3 rfl) ?_
  refine lv_iload_n hx hb dL_law_889 rfl (lv_at hl 0 rfl) ?_
  refine lv_iconst (v := 1) hx hb dL_law_890 (by decide) ?_
  refine lv_iadd hx hb dL_law_891 ?_
  refine lv_topi (fun x6 ex6 => ?_)
  have tx6 : x6.toInt = i.toInt + 1 := z_tadd ex6 rfl z_l1 (by omega) (by omega)
  refine va_sld hx hb hX hbl hbA hS (z_ix rfl (by omega) (by omega)) dL_law_892 ?_
  refine lv_topi (fun x7 ex7 => ?_)
  refine lv_aload_n hx hb dL_law_893 rfl (lv_at hl 3 rfl) ?_
  refine lv_iload_n hx hb dL_law_894 rfl (lv_at hl 0 rfl) ?_
  refine lv_iconst (v := 2) hx hb dL_law_895 (by decide) ?_
  refine lv_iadd hx hb dL_law_896 ?_
  refine lv_topi (fun x8 ex8 => ?_)
  have tx8 : x8.toInt = i.toInt + 2 := z_tadd ex8 rfl z_l2 (by omega) (by omega)
  refine va_sld hx hb hX hbl hbA hS (z_ix rfl (by omega) (by omega)) dL_law_897 ?_
  refine lv_topi (fun x9 ex9 => ?_)
  refine z_ciD hWM hWX (fun i j hi hj e => hap j i hj hi e.symm) hS hA (va_runV (As := [.int x7, .int x9]) (rest := []) ⟨hx, hb, hml, hown, hts0⟩ (sx_X12_in l G adM Im Jm hLM.2.2.2.2.2.2.2.1 hLM.1 hLM.2.2.2.2.2.2.2.2.2.2.2.2.2.2.1 hLM.2.2.2.2.2.2.2.2.2.2.2.2.2.1 hLM.2.1 hLM.2.2.2.2.2.2.2.2.2.2.2.2.2.2.2.1 hLM.2.2.2.2.2.2.2.2.2.2.2.2.2.2.2.2.1 x7 x9 _) (cwV 2 hts0 gV_X12_in rfl rfl rfl (by decide +kernel) ⟨(Nat.le_of_ble_eq_true rfl), (Nat.le_of_ble_eq_true rfl)⟩) (z_preV (i := 0) hK hWM rfl rfl) rfl rfl hl.1 rfl (lv_room (Nat.le_of_ble_eq_true rfl)) dL_law_898 ⟨(by show cells + 0 + 0 ≤ 600000; omega), (by show slots + 0 + 0 ≤ 7302250; omega)⟩) (fun r u1 H locs hp hWM hWX hapn hS => ?_)
  subst hp
  have hap := fun i j hi hj e => hapn j i hj hi (Eq.symm e)
  refine lv_topi (fun x10 ex10 => ?_)
  refine lv_pop hx hb dL_law_901 rfl ?_
  refine lv_goto (tgt := 1508) hx hb dL_law_902 (by decide) ?_
  have hEQ9 : z_EQ Ix Im := ⟨htd.1, htd.2.1, htd.2.2⟩
  refine W.widen (k := cells + 8) (n := slots + 2006) (by omega) (by omega) ?_
  exact kk c ad Ix Im Jm _ _ _ hLX hLM hEQ9 hWX hWM hap hS (lv_sub hl [0, 1, 2, 3] rfl)
set_option maxHeartbeats 8000000 in
set_option maxRecDepth 100000 in
theorem lc_21 {p : Program} {e : Env} {s : State} {m : MethodId} {below : List Frame} {meth : Method} {c0 : Code} {b L : Nat} {xs : Nat → Int32} (l : Launch) {G : z_G} {A : Nat → Prop} {adK adV : Nat → Nat} (hK : z_K G s) (hA : ∀ q : Nat, s.heap.size ≤ q → A q) (hAi : ∀ q : Nat, A q → s.heap.size ≤ q) (hSt : z_St A s s.heap) (hKn : z_Cq adK adV A s s.heap) (hL : L ≤ 3584) (C0 : lw_At p s m meth c0 b L xs) {c : z_C} {ad adM : Nat → Nat} {Ix Im : z_I} {Jm : z_J} (hLX : z_LX c Ix) (hLM : z_LM Im) (htd : z_EQ Ix Im) {H : Heap} {locs : List Loc} {ls : Array Slot} (hWX : z_W G A (shC c, ad, Ix, JX, PC c ad) H) (hWM : z_W G A (shM, adM, Im, Jm, PM adM) H) (hap : ∀ i j, shC c i ≠ none → shM j ≠ none → ad i ≠ adM j) (hS : va_S A s.heap H locs) {i : Int32} (hi0 : 0 ≤ i.toInt) (hiL : i.toInt + 7 ≤ (L : Int)) (hl : lv_has ls 4 [(3, .int i), (2, .ref (adM 0)), (1, .ref (ad 0)), (0, .ref b)]) {cells slots : Nat} (hce : cells + 8 ≤ 600000) (hsl : slots + 2006 ≤ 7302250) (kk : ∀ (c : z_C) (ad : Nat → Nat) (Ix Im : z_I) (Jm : z_J) (H : Heap) (locs : List Loc) (ls : Array Slot), z_LX c Ix → z_LM Im → z_EQ Ix Im → z_W G A (shC c, ad, Ix, JX, PC c ad) H → z_W G A (shM, adM, Im, Jm, PM adM) H → (∀ i j, shC c i ≠ none → shM j ≠ none → ad i ≠ adM j) → va_S A s.heap H locs → lv_has ls 4 [(3, .int i), (2, .ref (adM 0)), (1, .ref (ad 0)), (0, .ref b)] → W p l e room_1 s m #[Value.ref b] below meth c0 H locs (cells + 8) (slots + 2006) (lw_Z below #[Value.ref b] s) (F0 m 1508 ls [])) : W p l e room_1 s m #[Value.ref b] below meth c0 H locs (cells) (slots) (lw_Z below #[Value.ref b] s) (F0 m 905 ls []) := by
  obtain ⟨hx, hb, hr, hml, hown, hts0, hX, hbl, hlocks, hgv⟩ := id C0
  have hown : s.vm.findClass RL = some m.cls := hown
  have hts : ∀ w ∈ wsL_law, w.before #[Value.ref b] s = true := fun w hw => hts0 w (wsL_law_in w hw)
  have hbA : ¬ A b := fun h => absurd (hAi b h) (Nat.not_le.mpr hbl)
  have hLi : (L : Int) ≤ 3584 := by omega
  refine lv_aload_n hx hb dL_law_905 rfl (lv_at hl 2 rfl) ?_
  refine lv_aload_n hx hb dL_law_906 rfl (lv_at hl 3 rfl) ?_
  refine lv_iload_n hx hb dL_law_907 rfl (lv_at hl 0 rfl) ?_
  refine lv_iconst (v := 1) hx hb dL_law_908 (by decide) ?_
  refine lv_iadd hx hb dL_law_909 ?_
  refine lv_topi (fun x1 ex1 => ?_)
  have tx1 : x1.toInt = i.toInt + 1 := z_tadd ex1 rfl z_l1 (by omega) (by omega)
  refine va_sld hx hb hX hbl hbA hS (z_ix rfl (by omega) (by omega)) dL_law_910 ?_
  refine lv_topi (fun x2 ex2 => ?_)
  refine lv_aload_n hx hb dL_law_911 rfl (lv_at hl 3 rfl) ?_
  refine lv_iload_n hx hb dL_law_912 rfl (lv_at hl 0 rfl) ?_
  refine lv_iconst (v := 2) hx hb dL_law_913 (by decide) ?_
  refine lv_iadd hx hb dL_law_914 ?_
  refine lv_topi (fun x3 ex3 => ?_)
  have tx3 : x3.toInt = i.toInt + 2 := z_tadd ex3 rfl z_l2 (by omega) (by omega)
  refine va_sld hx hb hX hbl hbA hS (z_ix rfl (by omega) (by omega)) dL_law_915 ?_
  refine lv_topi (fun x4 ex4 => ?_)
  refine lv_aload_n hx hb dL_law_916 rfl (lv_at hl 3 rfl) ?_
  refine lv_iload_n hx hb dL_law_917 rfl (lv_at hl 0 rfl) ?_
  refine lv_iconst (v := 3) hx hb dL_law_918 (by decide) ?_
  refine lv_iadd hx hb dL_law_919 ?_
  refine lv_topi (fun x5 ex5 => ?_)
  have tx5 : x5.toInt = i.toInt + 3 := z_tadd ex5 rfl z_l3 (by omega) (by omega)
  refine va_sld hx hb hX hbl hbA hS (z_ix rfl (by omega) (by omega)) dL_law_920 ?_
  refine lv_topi (fun x6 ex6 => ?_)
  refine lv_aload_n hx hb dL_law_921 rfl (lv_at hl 3 rfl) ?_
  refine lv_iload_n hx hb dL_law_922 rfl (lv_at hl 0 rfl) ?_
  refine lv_iconst (v := 4) hx hb dL_law_923 (by decide) ?_
  refine lv_iadd hx hb dL_law_924 ?_
  refine lv_topi (fun x7 ex7 => ?_)
  have tx7 : x7.toInt = i.toInt + 4 := z_tadd ex7 rfl z_l4 (by omega) (by omega)
  refine va_sld hx hb hX hbl hbA hS (z_ix rfl (by omega) (by omega)) dL_law_925 ?_
  refine lv_topi (fun x8 ex8 => ?_)
  refine z_clD hWX hWM hap hS hA (va_runV (As := [.int x2, .int x4, .int x6, .int x8]) (rest := []) ⟨hx, hb, hml, hown, hts0⟩ (sx_X11_sums l G ad c Ix hLX.2.2.1 hLX.2.2.2.2.2.2.2.2.1 x2 x4 x6 x8 hLX.2.2.2.2.2.2.2.2.2.1 hLX.2.2.2.2.2.2.2.2.2.2.1 hLX.2.2.2.2.2.2.2.2.2.2.2.1 _) (cwV 4 hts0 gV_X11_sums rfl rfl rfl (by decide +kernel) ⟨(Nat.le_of_ble_eq_true rfl), (Nat.le_of_ble_eq_true rfl)⟩) (z_preVS (i := 0) hK hWX hS hA hSt rfl rfl) rfl rfl hl.1 rfl (lv_room (Nat.le_of_ble_eq_true rfl)) dL_law_926 ⟨(by show cells + 0 ≤ 600000; omega), (by show slots + 0 ≤ 7302250; omega)⟩) (fun r u1 H locs hp hWX hWM hap hS => ?_)
  obtain ⟨I9, rfl, p11, p12, p13, p14⟩ := hp
  have hLXI9 : z_LX c I9 := ⟨⟨(by show 0 ≤ (I9 1 5).toInt ∧ (I9 1 5).toInt ≤ 30; rw [p13 1 5 (by decide)]; exact hLX.1.1), (by show 0 ≤ (I9 1 11).toInt ∧ (I9 1 11).toInt ≤ 200; rw [p13 1 11 (by decide)]; exact hLX.1.2)⟩, ⟨(by show 0 ≤ (I9 12 1).toInt ∧ (I9 12 1).toInt ≤ 500; rw [p13 12 1 (by decide)]; exact hLX.2.1.1), (by show 0 ≤ (I9 12 5).toInt ∧ (I9 12 5).toInt ≤ 501; rw [p13 12 5 (by decide)]; exact hLX.2.1.2.1), (by show (-1) ≤ (I9 12 6).toInt ∧ (I9 12 6).toInt ≤ 1000000; rw [p13 12 6 (by decide)]; exact hLX.2.1.2.2.1), (by show 0 ≤ (I9 12 9).toInt ∧ (I9 12 9).toInt ≤ 500; rw [p13 12 9 (by decide)]; exact hLX.2.1.2.2.2.1), (by show 0 ≤ (I9 12 13).toInt ∧ (I9 12 13).toInt ≤ 24; rw [p13 12 13 (by decide)]; exact hLX.2.1.2.2.2.2)⟩, p11, (by show 0 ≤ (I9 26 4).toInt ∧ (I9 26 4).toInt ≤ 512; rw [p13 26 4 (by decide)]; exact hLX.2.2.2.1), (by show 0 ≤ (I9 30 8).toInt ∧ (I9 30 8).toInt ≤ 300; rw [p13 30 8 (by decide)]; exact hLX.2.2.2.2.1), (by show 0 ≤ (I9 41 10).toInt ∧ (I9 41 10).toInt ≤ 4; rw [p13 41 10 (by decide)]; exact hLX.2.2.2.2.2.1), ⟨(by show 0 ≤ (I9 60 9).toInt ∧ (I9 60 9).toInt ≤ 60; rw [p13 60 9 (by decide)]; exact hLX.2.2.2.2.2.2.1.1), (by show 0 ≤ (I9 60 12).toInt ∧ (I9 60 12).toInt ≤ 12; rw [p13 60 12 (by decide)]; exact hLX.2.2.2.2.2.2.1.2)⟩, (by show 0 ≤ (I9 72 2).toInt ∧ (I9 72 2).toInt ≤ 30; rw [p13 72 2 (by decide)]; exact hLX.2.2.2.2.2.2.2.1), p12, hLX.2.2.2.2.2.2.2.2.2.1, hLX.2.2.2.2.2.2.2.2.2.2.1, p14, (by rw [p13 0 8 (by decide)]; exact hLX.2.2.2.2.2.2.2.2.2.2.2.2.1), (by rw [p13 21 2 (by decide)]; exact hLX.2.2.2.2.2.2.2.2.2.2.2.2.2)⟩
  refine lv_topl (fun x15 ex15 => ?_)
  refine lv_pop2_2 hx hb dL_law_929 rfl ?_
  refine lv_aload_n hx hb dL_law_930 rfl (lv_at hl 1 rfl) ?_
  refine lv_aload_n hx hb dL_law_931 rfl (lv_at hl 3 rfl) ?_
  refine lv_iload_n hx hb dL_law_932 rfl (lv_at hl 0 rfl) ?_
  refine lv_iconst (v := 1) hx hb dL_law_933 (by decide) ?_
  refine lv_iadd hx hb dL_law_934 ?_
  refine lv_topi (fun x16 ex16 => ?_)
  have tx16 : x16.toInt = i.toInt + 1 := z_tadd ex16 rfl z_l1 (by omega) (by omega)
  refine va_sld hx hb hX hbl hbA hS (z_ix rfl (by omega) (by omega)) dL_law_935 ?_
  refine lv_topi (fun x17 ex17 => ?_)
  refine lv_aload_n hx hb dL_law_936 rfl (lv_at hl 3 rfl) ?_
  refine lv_iload_n hx hb dL_law_937 rfl (lv_at hl 0 rfl) ?_
  refine lv_iconst (v := 2) hx hb dL_law_938 (by decide) ?_
  refine lv_iadd hx hb dL_law_939 ?_
  refine lv_topi (fun x18 ex18 => ?_)
  have tx18 : x18.toInt = i.toInt + 2 := z_tadd ex18 rfl z_l2 (by omega) (by omega)
  refine va_sld hx hb hX hbl hbA hS (z_ix rfl (by omega) (by omega)) dL_law_940 ?_
  refine lv_topi (fun x19 ex19 => ?_)
  refine lv_aload_n hx hb dL_law_941 rfl (lv_at hl 3 rfl) ?_
  refine lv_iload_n hx hb dL_law_942 rfl (lv_at hl 0 rfl) ?_
  refine lv_iconst (v := 3) hx hb dL_law_943 (by decide) ?_
  refine lv_iadd hx hb dL_law_944 ?_
  refine lv_topi (fun x20 ex20 => ?_)
  have tx20 : x20.toInt = i.toInt + 3 := z_tadd ex20 rfl z_l3 (by omega) (by omega)
  refine va_sld hx hb hX hbl hbA hS (z_ix rfl (by omega) (by omega)) dL_law_945 ?_
  refine lv_topi (fun x21 ex21 => ?_)
  refine lv_aload_n hx hb dL_law_946 rfl (lv_at hl 3 rfl) ?_
  refine lv_iload_n hx hb dL_law_947 rfl (lv_at hl 0 rfl) ?_
  refine lv_iconst (v := 4) hx hb dL_law_948 (by decide) ?_
  refine lv_iadd hx hb dL_law_949 ?_
  refine lv_topi (fun x22 ex22 => ?_)
  have tx22 : x22.toInt = i.toInt + 4 := z_tadd ex22 rfl z_l4 (by omega) (by omega)
  refine va_sld hx hb hX hbl hbA hS (z_ix rfl (by omega) (by omega)) dL_law_950 ?_
  refine lv_topi (fun x23 ex23 => ?_)
  refine z_clD hWM hWX (fun i j hi hj e => hap j i hj hi e.symm) hS hA (va_runV (As := [.int x17, .int x19, .int x21, .int x23]) (rest := []) ⟨hx, hb, hml, hown, hts0⟩ (sx_X12_sums_ l G adM Im Jm hLM.2.2.2.2.2.2.2.1 hLM.1 hLM.2.2.2.2.2.2.2.2.2.2.2.2.2.2.1 hLM.2.2.2.2.2.2.2.2.2.2.2.2.2.1 hLM.2.1 hLM.2.2.2.2.2.2.2.2.2.2.2.2.2.2.2.1 hLM.2.2.2.2.2.2.2.2.2.2.2.2.2.2.2.2.1 x17 x19 x21 x23 _) (cwV 4 hts0 gV_X12_sums_ rfl rfl rfl (by decide +kernel) ⟨(Nat.le_of_ble_eq_true rfl), (Nat.le_of_ble_eq_true rfl)⟩) (z_preV (i := 0) hK hWM rfl rfl) rfl rfl hl.1 rfl (lv_room (Nat.le_of_ble_eq_true rfl)) dL_law_951 ⟨(by show cells + 0 + 0 ≤ 600000; omega), (by show slots + 0 + 0 ≤ 7302250; omega)⟩) (fun r u1 H locs hp hWM hWX hapn hS => ?_)
  subst hp
  have hap := fun i j hi hj e => hapn j i hj hi (Eq.symm e)
  refine lv_topl (fun x24 ex24 => ?_)
  refine lv_pop2_2 hx hb dL_law_954 rfl ?_
  refine lv_goto (tgt := 1508) hx hb dL_law_955 (by decide) ?_
  have hEQ9 : z_EQ I9 Im := ⟨(by rw [p13 0 0 (by decide)]; exact htd.1), (by rw [p13 1 5 (by decide)]; exact htd.2.1), (by rw [p13 60 9 (by decide)]; exact htd.2.2)⟩
  refine W.widen (k := cells + 8) (n := slots + 2006) (by omega) (by omega) ?_
  exact kk c ad I9 Im Jm _ _ _ hLXI9 hLM hEQ9 hWX hWM hap hS (lv_sub hl [0, 1, 2, 3] rfl)
set_option maxHeartbeats 8000000 in
set_option maxRecDepth 100000 in
theorem lc_22 {p : Program} {e : Env} {s : State} {m : MethodId} {below : List Frame} {meth : Method} {c0 : Code} {b L : Nat} {xs : Nat → Int32} (l : Launch) {G : z_G} {A : Nat → Prop} {adK adV : Nat → Nat} (hK : z_K G s) (hA : ∀ q : Nat, s.heap.size ≤ q → A q) (hAi : ∀ q : Nat, A q → s.heap.size ≤ q) (hSt : z_St A s s.heap) (hKn : z_Cq adK adV A s s.heap) (hL : L ≤ 3584) (C0 : lw_At p s m meth c0 b L xs) {c : z_C} {ad adM : Nat → Nat} {Ix Im : z_I} {Jm : z_J} (hLX : z_LX c Ix) (hLM : z_LM Im) (htd : z_EQ Ix Im) {H : Heap} {locs : List Loc} {ls : Array Slot} (hWX : z_W G A (shC c, ad, Ix, JX, PC c ad) H) (hWM : z_W G A (shM, adM, Im, Jm, PM adM) H) (hap : ∀ i j, shC c i ≠ none → shM j ≠ none → ad i ≠ adM j) (hS : va_S A s.heap H locs) {i : Int32} (hi0 : 0 ≤ i.toInt) (hiL : i.toInt + 7 ≤ (L : Int)) (hl : lv_has ls 4 [(3, .int i), (2, .ref (adM 0)), (1, .ref (ad 0)), (0, .ref b)]) {cells slots : Nat} (hce : cells + 8 ≤ 600000) (hsl : slots + 2006 ≤ 7302250) (kk : ∀ (c : z_C) (ad : Nat → Nat) (Ix Im : z_I) (Jm : z_J) (H : Heap) (locs : List Loc) (ls : Array Slot), z_LX c Ix → z_LM Im → z_EQ Ix Im → z_W G A (shC c, ad, Ix, JX, PC c ad) H → z_W G A (shM, adM, Im, Jm, PM adM) H → (∀ i j, shC c i ≠ none → shM j ≠ none → ad i ≠ adM j) → va_S A s.heap H locs → lv_has ls 4 [(3, .int i), (2, .ref (adM 0)), (1, .ref (ad 0)), (0, .ref b)] → W p l e room_1 s m #[Value.ref b] below meth c0 H locs (cells + 8) (slots + 2006) (lw_Z below #[Value.ref b] s) (F0 m 1508 ls [])) : W p l e room_1 s m #[Value.ref b] below meth c0 H locs (cells) (slots) (lw_Z below #[Value.ref b] s) (F0 m 958 ls []) := by
  obtain ⟨hx, hb, hr, hml, hown, hts0, hX, hbl, hlocks, hgv⟩ := id C0
  have hown : s.vm.findClass RL = some m.cls := hown
  have hts : ∀ w ∈ wsL_law, w.before #[Value.ref b] s = true := fun w hw => hts0 w (wsL_law_in w hw)
  have hbA : ¬ A b := fun h => absurd (hAi b h) (Nat.not_le.mpr hbl)
  have hLi : (L : Int) ≤ 3584 := by omega
  refine lv_aload_n hx hb dL_law_958 rfl (lv_at hl 2 rfl) ?_
  refine lv_aload_n hx hb dL_law_959 rfl (lv_at hl 3 rfl) ?_
  refine lv_iload_n hx hb dL_law_960 rfl (lv_at hl 0 rfl) ?_
  refine lv_iconst (v := 1) hx hb dL_law_961 (by decide) ?_
  refine lv_iadd hx hb dL_law_962 ?_
  refine lv_topi (fun x1 ex1 => ?_)
  have tx1 : x1.toInt = i.toInt + 1 := z_tadd ex1 rfl z_l1 (by omega) (by omega)
  refine va_sld hx hb hX hbl hbA hS (z_ix rfl (by omega) (by omega)) dL_law_963 ?_
  refine lv_topi (fun x2 ex2 => ?_)
  refine lv_aload_n hx hb dL_law_964 rfl (lv_at hl 3 rfl) ?_
  refine lv_iload_n hx hb dL_law_965 rfl (lv_at hl 0 rfl) ?_
  refine lv_iconst (v := 2) hx hb dL_law_966 (by decide) ?_
  refine lv_iadd hx hb dL_law_967 ?_
  refine lv_topi (fun x3 ex3 => ?_)
  have tx3 : x3.toInt = i.toInt + 2 := z_tadd ex3 rfl z_l2 (by omega) (by omega)
  refine va_sld hx hb hX hbl hbA hS (z_ix rfl (by omega) (by omega)) dL_law_968 ?_
  refine lv_topi (fun x4 ex4 => ?_)
  refine z_ciD hWX hWM hap hS hA (va_runV (As := [.int x2, .int x4]) (rest := []) ⟨hx, hb, hml, hown, hts0⟩ (sx_X11_level l G ad c Ix x2 x4 hLX.2.2.2.2.2.2.2.2.2.1 hLX.2.2.2.2.2.2.2.2.2.2.1 _) (cwV 2 hts0 gV_X11_level rfl rfl rfl (by decide +kernel) ⟨(Nat.le_of_ble_eq_true rfl), (Nat.le_of_ble_eq_true rfl)⟩) (z_preV (i := 0) hK hWX rfl rfl) rfl rfl hl.1 rfl (lv_room (Nat.le_of_ble_eq_true rfl)) dL_law_969 ⟨(by show cells + 0 ≤ 600000; omega), (by show slots + 0 ≤ 7302250; omega)⟩) (fun r u1 H locs hp hWX hWM hap hS => ?_)
  obtain ⟨I5, rfl, p7, p8⟩ := hp
  have hLXI5 : z_LX c I5 := ⟨⟨(by show 0 ≤ (I5 1 5).toInt ∧ (I5 1 5).toInt ≤ 30; rw [p7 1 5 (by decide)]; exact hLX.1.1), (by show 0 ≤ (I5 1 11).toInt ∧ (I5 1 11).toInt ≤ 200; rw [p7 1 11 (by decide)]; exact hLX.1.2)⟩, ⟨(by show 0 ≤ (I5 12 1).toInt ∧ (I5 12 1).toInt ≤ 500; rw [p7 12 1 (by decide)]; exact hLX.2.1.1), (by show 0 ≤ (I5 12 5).toInt ∧ (I5 12 5).toInt ≤ 501; rw [p7 12 5 (by decide)]; exact hLX.2.1.2.1), (by show (-1) ≤ (I5 12 6).toInt ∧ (I5 12 6).toInt ≤ 1000000; rw [p7 12 6 (by decide)]; exact hLX.2.1.2.2.1), (by show 0 ≤ (I5 12 9).toInt ∧ (I5 12 9).toInt ≤ 500; rw [p7 12 9 (by decide)]; exact hLX.2.1.2.2.2.1), (by show 0 ≤ (I5 12 13).toInt ∧ (I5 12 13).toInt ≤ 24; rw [p7 12 13 (by decide)]; exact hLX.2.1.2.2.2.2)⟩, (by show 0 ≤ (I5 21 2).toInt ∧ (I5 21 2).toInt ≤ 12; rw [p7 21 2 (by decide)]; exact hLX.2.2.1), (by show 0 ≤ (I5 26 4).toInt ∧ (I5 26 4).toInt ≤ 512; rw [p7 26 4 (by decide)]; exact hLX.2.2.2.1), (by show 0 ≤ (I5 30 8).toInt ∧ (I5 30 8).toInt ≤ 300; rw [p7 30 8 (by decide)]; exact hLX.2.2.2.2.1), (by show 0 ≤ (I5 41 10).toInt ∧ (I5 41 10).toInt ≤ 4; rw [p7 41 10 (by decide)]; exact hLX.2.2.2.2.2.1), ⟨(by show 0 ≤ (I5 60 9).toInt ∧ (I5 60 9).toInt ≤ 60; rw [p7 60 9 (by decide)]; exact hLX.2.2.2.2.2.2.1.1), (by show 0 ≤ (I5 60 12).toInt ∧ (I5 60 12).toInt ≤ 12; rw [p7 60 12 (by decide)]; exact hLX.2.2.2.2.2.2.1.2)⟩, (by show 0 ≤ (I5 72 2).toInt ∧ (I5 72 2).toInt ≤ 30; rw [p7 72 2 (by decide)]; exact hLX.2.2.2.2.2.2.2.1), ⟨(by show 0 ≤ (I5 0 0).toInt ∧ (I5 0 0).toInt ≤ 719; rw [p7 0 0 (by decide)]; exact hLX.2.2.2.2.2.2.2.2.1.1), (by show 0 ≤ (I5 0 8).toInt ∧ (I5 0 8).toInt ≤ 10; rw [p7 0 8 (by decide)]; exact hLX.2.2.2.2.2.2.2.2.1.2)⟩, hLX.2.2.2.2.2.2.2.2.2.1, hLX.2.2.2.2.2.2.2.2.2.2.1, (z_iS_fr hLX.2.2.2.2.2.2.2.2.2.2.2.1 p7 (by decide)), (by rw [p7 0 8 (by decide)]; exact hLX.2.2.2.2.2.2.2.2.2.2.2.2.1), (by rw [p7 21 2 (by decide)]; exact hLX.2.2.2.2.2.2.2.2.2.2.2.2.2)⟩
  refine lv_topi (fun x9 ex9 => ?_)
  refine lv_pop hx hb dL_law_972 rfl ?_
  refine lv_aload_n hx hb dL_law_973 rfl (lv_at hl 1 rfl) ?_
  refine lv_aload_n hx hb dL_law_974 rfl (lv_at hl 3 rfl) ?_
  refine lv_iload_n hx hb dL_law_975 rfl (lv_at hl 0 rfl) ?_
  refine lv_iconst (v := 1) hx hb dL_law_976 (by decide) ?_
  refine lv_iadd hx hb dL_law_977 ?_
  refine lv_topi (fun x10 ex10 => ?_)
  have tx10 : x10.toInt = i.toInt + 1 := z_tadd ex10 rfl z_l1 (by omega) (by omega)
  refine va_sld hx hb hX hbl hbA hS (z_ix rfl (by omega) (by omega)) dL_law_978 ?_
  refine lv_topi (fun x11 ex11 => ?_)
  refine lv_aload_n hx hb dL_law_979 rfl (lv_at hl 3 rfl) ?_
  refine lv_iload_n hx hb dL_law_980 rfl (lv_at hl 0 rfl) ?_
  refine lv_iconst (v := 2) hx hb dL_law_981 (by decide) ?_
  refine lv_iadd hx hb dL_law_982 ?_
  refine lv_topi (fun x12 ex12 => ?_)
  have tx12 : x12.toInt = i.toInt + 2 := z_tadd ex12 rfl z_l2 (by omega) (by omega)
  refine va_sld hx hb hX hbl hbA hS (z_ix rfl (by omega) (by omega)) dL_law_983 ?_
  refine lv_topi (fun x13 ex13 => ?_)
  refine z_ciD hWM hWX (fun i j hi hj e => hap j i hj hi e.symm) hS hA (va_runV (As := [.int x11, .int x13]) (rest := []) ⟨hx, hb, hml, hown, hts0⟩ (sx_X12_level l G adM Im Jm x11 x13 _) (cwV 2 hts0 gV_X12_level rfl rfl rfl (by decide +kernel) ⟨(Nat.le_of_ble_eq_true rfl), (Nat.le_of_ble_eq_true rfl)⟩) (z_preV (i := 0) hK hWM rfl rfl) rfl rfl hl.1 rfl (lv_room (Nat.le_of_ble_eq_true rfl)) dL_law_984 ⟨(by show cells + 0 + 0 ≤ 600000; omega), (by show slots + 0 + 0 ≤ 7302250; omega)⟩) (fun r u1 H locs hp hWM hWX hapn hS => ?_)
  obtain ⟨I14, J15, rfl, p16, p17⟩ := hp
  have hLMI14 : z_LM I14 := ⟨⟨(by show 0 ≤ (I14 0 0).toInt ∧ (I14 0 0).toInt ≤ 719; rw [p16 0 0 (by decide)]; exact hLM.1.1), (by show 0 ≤ (I14 0 1).toInt ∧ (I14 0 1).toInt ≤ 30; rw [p16 0 1 (by decide)]; exact hLM.1.2.1), (by show 0 ≤ (I14 0 2).toInt ∧ (I14 0 2).toInt ≤ 200; rw [p16 0 2 (by decide)]; exact hLM.1.2.2)⟩, ⟨(by show 0 ≤ (I14 0 13).toInt ∧ (I14 0 13).toInt ≤ 12; rw [p16 0 13 (by decide)]; exact hLM.2.1.1), (by show 0 ≤ (I14 0 14).toInt ∧ (I14 0 14).toInt ≤ 288; rw [p16 0 14 (by decide)]; exact hLM.2.1.2)⟩, (by show 0 ≤ (I14 0 15).toInt ∧ (I14 0 15).toInt ≤ 6100; rw [p16 0 15 (by decide)]; exact hLM.2.2.1), ⟨(by show 0 ≤ (I14 0 31).toInt ∧ (I14 0 31).toInt ≤ 500; rw [p16 0 31 (by decide)]; exact hLM.2.2.2.1.1), (by show 0 ≤ (I14 0 33).toInt ∧ (I14 0 33).toInt ≤ 500; rw [p16 0 33 (by decide)]; exact hLM.2.2.2.1.2.1), (by show 0 ≤ (I14 0 34).toInt ∧ (I14 0 34).toInt ≤ 500; rw [p16 0 34 (by decide)]; exact hLM.2.2.2.1.2.2.1), (by show 0 ≤ (I14 0 35).toInt ∧ (I14 0 35).toInt ≤ 500; rw [p16 0 35 (by decide)]; exact hLM.2.2.2.1.2.2.2)⟩, ⟨(by show 0 ≤ (I14 0 36).toInt ∧ (I14 0 36).toInt ≤ 4; rw [p16 0 36 (by decide)]; exact hLM.2.2.2.2.1.1), (by show 0 ≤ (I14 0 42).toInt ∧ (I14 0 42).toInt ≤ 1; rw [p16 0 42 (by decide)]; exact hLM.2.2.2.2.1.2)⟩, ⟨(by show 0 ≤ (I14 0 47).toInt ∧ (I14 0 47).toInt ≤ 119; rw [p16 0 47 (by decide)]; exact hLM.2.2.2.2.2.1.1), (by show 0 ≤ (I14 0 39).toInt ∧ (I14 0 39).toInt ≤ 100; rw [p16 0 39 (by decide)]; exact hLM.2.2.2.2.2.1.2)⟩, (by show 0 ≤ (I14 0 40).toInt ∧ (I14 0 40).toInt ≤ 6199; rw [p16 0 40 (by decide)]; exact hLM.2.2.2.2.2.2.1), ⟨(by show 0 ≤ (I14 0 54).toInt ∧ (I14 0 54).toInt ≤ 10; rw [p16 0 54 (by decide)]; exact hLM.2.2.2.2.2.2.2.1.1), (by show 0 ≤ (I14 0 55).toInt ∧ (I14 0 55).toInt ≤ 300; rw [p16 0 55 (by decide)]; exact hLM.2.2.2.2.2.2.2.1.2)⟩, (by show 0 ≤ (I14 0 75).toInt ∧ (I14 0 75).toInt ≤ 4; rw [p16 0 75 (by decide)]; exact hLM.2.2.2.2.2.2.2.2.1), (by show 0 ≤ (I14 0 83).toInt ∧ (I14 0 83).toInt ≤ 60; rw [p16 0 83 (by decide)]; exact hLM.2.2.2.2.2.2.2.2.2.1), (z_rg_fr hLM.2.2.2.2.2.2.2.2.2.2.1 p16 (by decide)), (z_rg_fr hLM.2.2.2.2.2.2.2.2.2.2.2.1 p16 (by decide)), (z_rg_fr hLM.2.2.2.2.2.2.2.2.2.2.2.2.1 p16 (by decide)), (z_rg_fr hLM.2.2.2.2.2.2.2.2.2.2.2.2.2.1 p16 (by decide)), (z_rg_fr hLM.2.2.2.2.2.2.2.2.2.2.2.2.2.2.1 p16 (by decide)), (z_rg_fr hLM.2.2.2.2.2.2.2.2.2.2.2.2.2.2.2.1 p16 (by decide)), (z_rg_fr hLM.2.2.2.2.2.2.2.2.2.2.2.2.2.2.2.2.1 p16 (by decide)), (z_rg_fr hLM.2.2.2.2.2.2.2.2.2.2.2.2.2.2.2.2.2.1 p16 (by decide)), (z_rg_fr hLM.2.2.2.2.2.2.2.2.2.2.2.2.2.2.2.2.2.2.1 p16 (by decide)), (z_rg_fr hLM.2.2.2.2.2.2.2.2.2.2.2.2.2.2.2.2.2.2.2.1 p16 (by decide)), (z_Nd_fr hLM.2.2.2.2.2.2.2.2.2.2.2.2.2.2.2.2.2.2.2.2.1 p16 (by decide)), (z_Ex_fr hLM.2.2.2.2.2.2.2.2.2.2.2.2.2.2.2.2.2.2.2.2.2.1 p16 (by decide)), (z_rg_fr hLM.2.2.2.2.2.2.2.2.2.2.2.2.2.2.2.2.2.2.2.2.2.2.1 p16 (by decide)), (z_rg_fr hLM.2.2.2.2.2.2.2.2.2.2.2.2.2.2.2.2.2.2.2.2.2.2.2.1 p16 (by decide)), (z_rg_fr hLM.2.2.2.2.2.2.2.2.2.2.2.2.2.2.2.2.2.2.2.2.2.2.2.2.1 p16 (by decide)), (z_rg_fr hLM.2.2.2.2.2.2.2.2.2.2.2.2.2.2.2.2.2.2.2.2.2.2.2.2.2.1 p16 (by decide)), (z_rg_fr hLM.2.2.2.2.2.2.2.2.2.2.2.2.2.2.2.2.2.2.2.2.2.2.2.2.2.2.1 p16 (by decide)), (z_rg_fr hLM.2.2.2.2.2.2.2.2.2.2.2.2.2.2.2.2.2.2.2.2.2.2.2.2.2.2.2.1 p16 (by decide)), (z_rg_fr hLM.2.2.2.2.2.2.2.2.2.2.2.2.2.2.2.2.2.2.2.2.2.2.2.2.2.2.2.2.1 p16 (by decide)), (by unfold z_iro; rw [p16 0 13 (by decide), p16 0 14 (by decide), p16 0 15 (by decide)]; exact hLM.2.2.2.2.2.2.2.2.2.2.2.2.2.2.2.2.2.2.2.2.2.2.2.2.2.2.2.2.2)⟩
  have hap := fun i j hi hj e => hapn j i hj hi (Eq.symm e)
  refine lv_topi (fun x18 ex18 => ?_)
  refine lv_pop hx hb dL_law_987 rfl ?_
  refine lv_goto (tgt := 1508) hx hb dL_law_988 (by decide) ?_
  have hEQ9 : z_EQ I5 I14 := ⟨(by rw [p7 0 0 (by decide), p16 0 0 (by decide)]; exact htd.1), (by rw [p7 1 5 (by decide), p16 0 1 (by decide)]; exact htd.2.1), (by rw [p7 60 9 (by decide), p16 0 83 (by decide)]; exact htd.2.2)⟩
  refine W.widen (k := cells + 8) (n := slots + 2006) (by omega) (by omega) ?_
  exact kk c ad I5 I14 J15 _ _ _ hLXI5 hLMI14 hEQ9 hWX hWM hap hS (lv_sub hl [0, 1, 2, 3] rfl)
set_option maxHeartbeats 8000000 in
set_option maxRecDepth 100000 in
theorem lc_23 {p : Program} {e : Env} {s : State} {m : MethodId} {below : List Frame} {meth : Method} {c0 : Code} {b L : Nat} {xs : Nat → Int32} (l : Launch) {G : z_G} {A : Nat → Prop} {adK adV : Nat → Nat} (hK : z_K G s) (hA : ∀ q : Nat, s.heap.size ≤ q → A q) (hAi : ∀ q : Nat, A q → s.heap.size ≤ q) (hSt : z_St A s s.heap) (hKn : z_Cq adK adV A s s.heap) (hL : L ≤ 3584) (C0 : lw_At p s m meth c0 b L xs) {c : z_C} {ad adM : Nat → Nat} {Ix Im : z_I} {Jm : z_J} (hLX : z_LX c Ix) (hLM : z_LM Im) (htd : z_EQ Ix Im) {H : Heap} {locs : List Loc} {ls : Array Slot} (hWX : z_W G A (shC c, ad, Ix, JX, PC c ad) H) (hWM : z_W G A (shM, adM, Im, Jm, PM adM) H) (hap : ∀ i j, shC c i ≠ none → shM j ≠ none → ad i ≠ adM j) (hS : va_S A s.heap H locs) {i : Int32} (hi0 : 0 ≤ i.toInt) (hiL : i.toInt + 7 ≤ (L : Int)) (hl : lv_has ls 4 [(3, .int i), (2, .ref (adM 0)), (1, .ref (ad 0)), (0, .ref b)]) {cells slots : Nat} (hce : cells + 8 ≤ 600000) (hsl : slots + 2006 ≤ 7302250) (kk : ∀ (c : z_C) (ad : Nat → Nat) (Ix Im : z_I) (Jm : z_J) (H : Heap) (locs : List Loc) (ls : Array Slot), z_LX c Ix → z_LM Im → z_EQ Ix Im → z_W G A (shC c, ad, Ix, JX, PC c ad) H → z_W G A (shM, adM, Im, Jm, PM adM) H → (∀ i j, shC c i ≠ none → shM j ≠ none → ad i ≠ adM j) → va_S A s.heap H locs → lv_has ls 4 [(3, .int i), (2, .ref (adM 0)), (1, .ref (ad 0)), (0, .ref b)] → W p l e room_1 s m #[Value.ref b] below meth c0 H locs (cells + 8) (slots + 2006) (lw_Z below #[Value.ref b] s) (F0 m 1508 ls [])) : W p l e room_1 s m #[Value.ref b] below meth c0 H locs (cells) (slots) (lw_Z below #[Value.ref b] s) (F0 m 991 ls []) := by
  obtain ⟨hx, hb, hr, hml, hown, hts0, hX, hbl, hlocks, hgv⟩ := id C0
  have hown : s.vm.findClass RL = some m.cls := hown
  have hts : ∀ w ∈ wsL_law, w.before #[Value.ref b] s = true := fun w hw => hts0 w (wsL_law_in w hw)
  have hbA : ¬ A b := fun h => absurd (hAi b h) (Nat.not_le.mpr hbl)
  have hLi : (L : Int) ≤ 3584 := by omega
  refine lv_aload_n hx hb dL_law_991 rfl (lv_at hl 2 rfl) ?_
  refine lv_aload_n hx hb dL_law_992 rfl (lv_at hl 3 rfl) ?_
  refine lv_iload_n hx hb dL_law_993 rfl (lv_at hl 0 rfl) ?_
  refine lv_iconst (v := 1) hx hb dL_law_994 (by decide) ?_
  refine lv_iadd hx hb dL_law_995 ?_
  refine lv_topi (fun x1 ex1 => ?_)
  have tx1 : x1.toInt = i.toInt + 1 := z_tadd ex1 rfl z_l1 (by omega) (by omega)
  refine va_sld hx hb hX hbl hbA hS (z_ix rfl (by omega) (by omega)) dL_law_996 ?_
  refine lv_topi (fun x2 ex2 => ?_)
  refine lv_aload_n hx hb dL_law_997 rfl (lv_at hl 3 rfl) ?_
  refine lv_iload_n hx hb dL_law_998 rfl (lv_at hl 0 rfl) ?_
  refine lv_iconst (v := 2) hx hb dL_law_999 (by decide) ?_
  refine lv_iadd hx hb dL_law_1000 ?_
  refine lv_topi (fun x3 ex3 => ?_)
  have tx3 : x3.toInt = i.toInt + 2 := z_tadd ex3 rfl z_l2 (by omega) (by omega)
  refine va_sld hx hb hX hbl hbA hS (z_ix rfl (by omega) (by omega)) dL_law_1001 ?_
  refine lv_topi (fun x4 ex4 => ?_)
  refine lv_aload_n hx hb dL_law_1002 rfl (lv_at hl 3 rfl) ?_
  refine lv_iload_n hx hb dL_law_1003 rfl (lv_at hl 0 rfl) ?_
  refine lv_iconst (v := 3) hx hb dL_law_1004 (by decide) ?_
  refine lv_iadd hx hb dL_law_1005 ?_
  refine lv_topi (fun x5 ex5 => ?_)
  have tx5 : x5.toInt = i.toInt + 3 := z_tadd ex5 rfl z_l3 (by omega) (by omega)
  refine va_sld hx hb hX hbl hbA hS (z_ix rfl (by omega) (by omega)) dL_law_1006 ?_
  refine lv_topi (fun x6 ex6 => ?_)
  refine z_clD hWX hWM hap hS hA (va_runV (As := [.int x2, .int x4, .int x6]) (rest := []) ⟨hx, hb, hml, hown, hts0⟩ (sx_X11_judged l G ad c Ix hLX.2.2.1 hLX.2.2.2.2.2.2.2.2.1 x2 x4 x6 hLX.2.2.2.2.2.2.2.2.2.1 hLX.2.2.2.2.2.2.2.2.2.2.1 hLX.2.2.2.2.2.2.2.2.2.2.2.1 _) (cwV 3 hts0 gV_X11_judged rfl rfl rfl (by decide +kernel) ⟨(Nat.le_of_ble_eq_true rfl), (Nat.le_of_ble_eq_true rfl)⟩) (z_preVS (i := 0) hK hWX hS hA hSt rfl rfl) rfl rfl hl.1 rfl (lv_room (Nat.le_of_ble_eq_true rfl)) dL_law_1007 ⟨(by show cells + 0 ≤ 600000; omega), (by show slots + 0 ≤ 7302250; omega)⟩) (fun r u1 H locs hp hWX hWM hap hS => ?_)
  obtain ⟨I7, rfl, p9, p10, p11, p12⟩ := hp
  have hLXI7 : z_LX c I7 := ⟨⟨(by show 0 ≤ (I7 1 5).toInt ∧ (I7 1 5).toInt ≤ 30; rw [p11 1 5 (by decide)]; exact hLX.1.1), (by show 0 ≤ (I7 1 11).toInt ∧ (I7 1 11).toInt ≤ 200; rw [p11 1 11 (by decide)]; exact hLX.1.2)⟩, ⟨(by show 0 ≤ (I7 12 1).toInt ∧ (I7 12 1).toInt ≤ 500; rw [p11 12 1 (by decide)]; exact hLX.2.1.1), (by show 0 ≤ (I7 12 5).toInt ∧ (I7 12 5).toInt ≤ 501; rw [p11 12 5 (by decide)]; exact hLX.2.1.2.1), (by show (-1) ≤ (I7 12 6).toInt ∧ (I7 12 6).toInt ≤ 1000000; rw [p11 12 6 (by decide)]; exact hLX.2.1.2.2.1), (by show 0 ≤ (I7 12 9).toInt ∧ (I7 12 9).toInt ≤ 500; rw [p11 12 9 (by decide)]; exact hLX.2.1.2.2.2.1), (by show 0 ≤ (I7 12 13).toInt ∧ (I7 12 13).toInt ≤ 24; rw [p11 12 13 (by decide)]; exact hLX.2.1.2.2.2.2)⟩, p9, (by show 0 ≤ (I7 26 4).toInt ∧ (I7 26 4).toInt ≤ 512; rw [p11 26 4 (by decide)]; exact hLX.2.2.2.1), (by show 0 ≤ (I7 30 8).toInt ∧ (I7 30 8).toInt ≤ 300; rw [p11 30 8 (by decide)]; exact hLX.2.2.2.2.1), (by show 0 ≤ (I7 41 10).toInt ∧ (I7 41 10).toInt ≤ 4; rw [p11 41 10 (by decide)]; exact hLX.2.2.2.2.2.1), ⟨(by show 0 ≤ (I7 60 9).toInt ∧ (I7 60 9).toInt ≤ 60; rw [p11 60 9 (by decide)]; exact hLX.2.2.2.2.2.2.1.1), (by show 0 ≤ (I7 60 12).toInt ∧ (I7 60 12).toInt ≤ 12; rw [p11 60 12 (by decide)]; exact hLX.2.2.2.2.2.2.1.2)⟩, (by show 0 ≤ (I7 72 2).toInt ∧ (I7 72 2).toInt ≤ 30; rw [p11 72 2 (by decide)]; exact hLX.2.2.2.2.2.2.2.1), p10, hLX.2.2.2.2.2.2.2.2.2.1, hLX.2.2.2.2.2.2.2.2.2.2.1, p12, (by rw [p11 0 8 (by decide)]; exact hLX.2.2.2.2.2.2.2.2.2.2.2.2.1), (by rw [p11 21 2 (by decide)]; exact hLX.2.2.2.2.2.2.2.2.2.2.2.2.2)⟩
  refine lv_topl (fun x13 ex13 => ?_)
  refine lv_pop2_2 hx hb dL_law_1010 rfl ?_
  refine lv_aload_n hx hb dL_law_1011 rfl (lv_at hl 1 rfl) ?_
  refine lv_aload_n hx hb dL_law_1012 rfl (lv_at hl 3 rfl) ?_
  refine lv_iload_n hx hb dL_law_1013 rfl (lv_at hl 0 rfl) ?_
  refine lv_iconst (v := 1) hx hb dL_law_1014 (by decide) ?_
  refine lv_iadd hx hb dL_law_1015 ?_
  refine lv_topi (fun x14 ex14 => ?_)
  have tx14 : x14.toInt = i.toInt + 1 := z_tadd ex14 rfl z_l1 (by omega) (by omega)
  refine va_sld hx hb hX hbl hbA hS (z_ix rfl (by omega) (by omega)) dL_law_1016 ?_
  refine lv_topi (fun x15 ex15 => ?_)
  refine lv_aload_n hx hb dL_law_1017 rfl (lv_at hl 3 rfl) ?_
  refine lv_iload_n hx hb dL_law_1018 rfl (lv_at hl 0 rfl) ?_
  refine lv_iconst (v := 2) hx hb dL_law_1019 (by decide) ?_
  refine lv_iadd hx hb dL_law_1020 ?_
  refine lv_topi (fun x16 ex16 => ?_)
  have tx16 : x16.toInt = i.toInt + 2 := z_tadd ex16 rfl z_l2 (by omega) (by omega)
  refine va_sld hx hb hX hbl hbA hS (z_ix rfl (by omega) (by omega)) dL_law_1021 ?_
  refine lv_topi (fun x17 ex17 => ?_)
  refine lv_aload_n hx hb dL_law_1022 rfl (lv_at hl 3 rfl) ?_
  refine lv_iload_n hx hb dL_law_1023 rfl (lv_at hl 0 rfl) ?_
  refine lv_iconst (v := 3) hx hb dL_law_1024 (by decide) ?_
  refine lv_iadd hx hb dL_law_1025 ?_
  refine lv_topi (fun x18 ex18 => ?_)
  have tx18 : x18.toInt = i.toInt + 3 := z_tadd ex18 rfl z_l3 (by omega) (by omega)
  refine va_sld hx hb hX hbl hbA hS (z_ix rfl (by omega) (by omega)) dL_law_1026 ?_
  refine lv_topi (fun x19 ex19 => ?_)
  refine z_clD hWM hWX (fun i j hi hj e => hap j i hj hi e.symm) hS hA (va_runV (As := [.int x15, .int x17, .int x19]) (rest := []) ⟨hx, hb, hml, hown, hts0⟩ (sx_X12_judged l G adM Im Jm hLM.2.2.2.2.2.2.2.1 hLM.1 hLM.2.2.2.2.2.2.2.2.2.2.2.2.2.2.1 hLM.2.2.2.2.2.2.2.2.2.2.2.2.2.1 hLM.2.1 hLM.2.2.2.2.2.2.2.2.2.2.2.2.2.2.2.1 hLM.2.2.2.2.2.2.2.2.2.2.2.2.2.2.2.2.1 x15 x17 x19 _) (cwV 3 hts0 gV_X12_judged rfl rfl rfl (by decide +kernel) ⟨(Nat.le_of_ble_eq_true rfl), (Nat.le_of_ble_eq_true rfl)⟩) (z_preV (i := 0) hK hWM rfl rfl) rfl rfl hl.1 rfl (lv_room (Nat.le_of_ble_eq_true rfl)) dL_law_1027 ⟨(by show cells + 0 + 0 ≤ 600000; omega), (by show slots + 0 + 0 ≤ 7302250; omega)⟩) (fun r u1 H locs hp hWM hWX hapn hS => ?_)
  subst hp
  have hap := fun i j hi hj e => hapn j i hj hi (Eq.symm e)
  refine lv_topl (fun x20 ex20 => ?_)
  refine lv_pop2_2 hx hb dL_law_1030 rfl ?_
  refine lv_goto (tgt := 1508) hx hb dL_law_1031 (by decide) ?_
  have hEQ9 : z_EQ I7 Im := ⟨(by rw [p11 0 0 (by decide)]; exact htd.1), (by rw [p11 1 5 (by decide)]; exact htd.2.1), (by rw [p11 60 9 (by decide)]; exact htd.2.2)⟩
  refine W.widen (k := cells + 8) (n := slots + 2006) (by omega) (by omega) ?_
  exact kk c ad I7 Im Jm _ _ _ hLXI7 hLM hEQ9 hWX hWM hap hS (lv_sub hl [0, 1, 2, 3] rfl)
