/-! decode rows of the law -/
theorem d_L_law_622 : decode code 622 = .ok (.iload 4, 2) := by decide +kernel
theorem d_L_law_624 : decode code 624 = .ok (.iconst 1, 1) := by decide +kernel
theorem d_L_law_625 : decode code 625 = .ok (.iadd, 1) := by decide +kernel
theorem d_L_law_626 : decode code 626 = .ok (.iaload, 1) := by decide +kernel
theorem d_L_law_627 : decode code 627 = .ok (.aload_n 0, 1) := by decide +kernel
theorem d_L_law_628 : decode code 628 = .ok (.iload 4, 2) := by decide +kernel
theorem d_L_law_630 : decode code 630 = .ok (.iconst 2, 1) := by decide +kernel
theorem d_L_law_631 : decode code 631 = .ok (.iadd, 1) := by decide +kernel
theorem d_L_law_632 : decode code 632 = .ok (.iaload, 1) := by decide +kernel
theorem d_L_law_633 : decode code 633 = .ok (.aload_n 3, 1) := by decide +kernel
theorem d_L_law_634 : decode code 634 = .ok (.invokestatic 128, 3) := by decide +kernel
theorem d_L_law_637 : decode code 637 = .ok (.istore 5, 2) := by decide +kernel
theorem d_L_law_639 : decode code 639 = .ok (.aload_n 2, 1) := by decide +kernel
theorem d_L_law_640 : decode code 640 = .ok (.aload_n 0, 1) := by decide +kernel
theorem d_L_law_641 : decode code 641 = .ok (.iload 4, 2) := by decide +kernel
theorem d_L_law_643 : decode code 643 = .ok (.iconst 1, 1) := by decide +kernel
theorem d_L_law_644 : decode code 644 = .ok (.iadd, 1) := by decide +kernel
theorem d_L_law_645 : decode code 645 = .ok (.iaload, 1) := by decide +kernel
theorem d_L_law_646 : decode code 646 = .ok (.aload_n 0, 1) := by decide +kernel
theorem d_L_law_647 : decode code 647 = .ok (.iload 4, 2) := by decide +kernel
theorem d_L_law_649 : decode code 649 = .ok (.iconst 2, 1) := by decide +kernel
theorem d_L_law_650 : decode code 650 = .ok (.iadd, 1) := by decide +kernel
theorem d_L_law_651 : decode code 651 = .ok (.iaload, 1) := by decide +kernel
theorem d_L_law_652 : decode code 652 = .ok (.invokevirtual 130, 3) := by decide +kernel
theorem d_L_law_655 : decode code 655 = .ok (.istore 6, 2) := by decide +kernel
theorem d_L_law_657 : decode code 657 = .ok (.aload_n 2, 1) := by decide +kernel
theorem d_L_law_658 : decode code 658 = .ok (.invokevirtual 109, 3) := by decide +kernel
theorem d_L_law_661 : decode code 661 = .ok (.iload 5, 2) := by decide +kernel
theorem d_L_law_663 : decode code 663 = .ok (.if_icmp .eq 5, 3) := by decide +kernel
theorem d_L_law_666 : decode code 666 = .ok (.iconst 0, 1) := by decide +kernel
theorem d_L_law_667 : decode code 667 = .ok (.ireturn, 1) := by decide +kernel
theorem d_L_law_668 : decode code 668 = .ok (.iload 5, 2) := by decide +kernel
theorem d_L_law_670 : decode code 670 = .ok (.ifCond .ne 15, 3) := by decide +kernel
theorem d_L_law_673 : decode code 673 = .ok (.aload_n 3, 1) := by decide +kernel
theorem d_L_law_674 : decode code 674 = .ok (.iconst 0, 1) := by decide +kernel
theorem d_L_law_675 : decode code 675 = .ok (.laload, 1) := by decide +kernel
theorem d_L_law_676 : decode code 676 = .ok (.iload 6, 2) := by decide +kernel
theorem d_L_law_678 : decode code 678 = .ok (.i2l, 1) := by decide +kernel
theorem d_L_law_679 : decode code 679 = .ok (.lcmp, 1) := by decide +kernel
theorem d_L_law_680 : decode code 680 = .ok (.ifCond .eq 5, 3) := by decide +kernel
theorem d_L_law_683 : decode code 683 = .ok (.iconst 0, 1) := by decide +kernel
theorem d_L_law_684 : decode code 684 = .ok (.ireturn, 1) := by decide +kernel
theorem d_L_law_685 : decode code 685 = .ok (.goto 1015, 3) := by decide +kernel
theorem d_L_law_688 : decode code 688 = .ok (.aload_n 1, 1) := by decide +kernel
theorem d_L_law_689 : decode code 689 = .ok (.aload_n 0, 1) := by decide +kernel
theorem d_L_law_690 : decode code 690 = .ok (.iload 4, 2) := by decide +kernel
theorem d_L_law_692 : decode code 692 = .ok (.iconst 1, 1) := by decide +kernel
theorem d_L_law_693 : decode code 693 = .ok (.iadd, 1) := by decide +kernel
theorem d_L_law_694 : decode code 694 = .ok (.iaload, 1) := by decide +kernel
theorem d_L_law_695 : decode code 695 = .ok (.aload_n 0, 1) := by decide +kernel
theorem d_L_law_696 : decode code 696 = .ok (.iload 4, 2) := by decide +kernel
theorem d_L_law_698 : decode code 698 = .ok (.iconst 2, 1) := by decide +kernel
theorem d_L_law_699 : decode code 699 = .ok (.iadd, 1) := by decide +kernel
theorem d_L_law_700 : decode code 700 = .ok (.iaload, 1) := by decide +kernel
theorem d_L_law_701 : decode code 701 = .ok (.aload_n 3, 1) := by decide +kernel
theorem d_L_law_702 : decode code 702 = .ok (.invokestatic 131, 3) := by decide +kernel
theorem d_L_law_705 : decode code 705 = .ok (.istore 5, 2) := by decide +kernel
theorem d_L_law_707 : decode code 707 = .ok (.aload_n 2, 1) := by decide +kernel
theorem d_L_law_708 : decode code 708 = .ok (.aload_n 0, 1) := by decide +kernel
theorem d_L_law_709 : decode code 709 = .ok (.iload 4, 2) := by decide +kernel
theorem d_L_law_711 : decode code 711 = .ok (.iconst 1, 1) := by decide +kernel
theorem d_L_law_712 : decode code 712 = .ok (.iadd, 1) := by decide +kernel
theorem d_L_law_713 : decode code 713 = .ok (.iaload, 1) := by decide +kernel
theorem d_L_law_714 : decode code 714 = .ok (.aload_n 0, 1) := by decide +kernel
theorem d_L_law_715 : decode code 715 = .ok (.iload 4, 2) := by decide +kernel
theorem d_L_law_717 : decode code 717 = .ok (.iconst 2, 1) := by decide +kernel
theorem d_L_law_718 : decode code 718 = .ok (.iadd, 1) := by decide +kernel
theorem d_L_law_719 : decode code 719 = .ok (.iaload, 1) := by decide +kernel
theorem d_L_law_720 : decode code 720 = .ok (.invokevirtual 133, 3) := by decide +kernel
theorem d_L_law_723 : decode code 723 = .ok (.istore 6, 2) := by decide +kernel
theorem d_L_law_725 : decode code 725 = .ok (.aload_n 2, 1) := by decide +kernel
theorem d_L_law_726 : decode code 726 = .ok (.invokevirtual 109, 3) := by decide +kernel
theorem d_L_law_729 : decode code 729 = .ok (.iload 5, 2) := by decide +kernel
theorem d_L_law_731 : decode code 731 = .ok (.if_icmp .eq 5, 3) := by decide +kernel
theorem d_L_law_734 : decode code 734 = .ok (.iconst 0, 1) := by decide +kernel
theorem d_L_law_735 : decode code 735 = .ok (.ireturn, 1) := by decide +kernel
theorem d_L_law_736 : decode code 736 = .ok (.iload 5, 2) := by decide +kernel
theorem d_L_law_738 : decode code 738 = .ok (.ifCond .ne 15, 3) := by decide +kernel
theorem d_L_law_741 : decode code 741 = .ok (.aload_n 3, 1) := by decide +kernel
theorem d_L_law_742 : decode code 742 = .ok (.iconst 0, 1) := by decide +kernel
theorem d_L_law_743 : decode code 743 = .ok (.laload, 1) := by decide +kernel
theorem d_L_law_744 : decode code 744 = .ok (.iload 6, 2) := by decide +kernel
theorem d_L_law_746 : decode code 746 = .ok (.i2l, 1) := by decide +kernel
theorem d_L_law_747 : decode code 747 = .ok (.lcmp, 1) := by decide +kernel
theorem d_L_law_748 : decode code 748 = .ok (.ifCond .eq 5, 3) := by decide +kernel
theorem d_L_law_751 : decode code 751 = .ok (.iconst 0, 1) := by decide +kernel
theorem d_L_law_752 : decode code 752 = .ok (.ireturn, 1) := by decide +kernel
theorem d_L_law_753 : decode code 753 = .ok (.goto 947, 3) := by decide +kernel
theorem d_L_law_756 : decode code 756 = .ok (.aload_n 1, 1) := by decide +kernel
theorem d_L_law_757 : decode code 757 = .ok (.aload_n 0, 1) := by decide +kernel
theorem d_L_law_758 : decode code 758 = .ok (.iload 4, 2) := by decide +kernel
theorem d_L_law_760 : decode code 760 = .ok (.iconst 1, 1) := by decide +kernel
theorem d_L_law_761 : decode code 761 = .ok (.iadd, 1) := by decide +kernel
theorem d_L_law_762 : decode code 762 = .ok (.iaload, 1) := by decide +kernel
theorem d_L_law_763 : decode code 763 = .ok (.aload_n 0, 1) := by decide +kernel
theorem d_L_law_764 : decode code 764 = .ok (.iload 4, 2) := by decide +kernel
theorem d_L_law_766 : decode code 766 = .ok (.iconst 2, 1) := by decide +kernel
theorem d_L_law_767 : decode code 767 = .ok (.iadd, 1) := by decide +kernel
theorem d_L_law_768 : decode code 768 = .ok (.iaload, 1) := by decide +kernel
theorem d_L_law_769 : decode code 769 = .ok (.aload_n 3, 1) := by decide +kernel
theorem d_L_law_770 : decode code 770 = .ok (.invokestatic 134, 3) := by decide +kernel
theorem d_L_law_773 : decode code 773 = .ok (.istore 5, 2) := by decide +kernel
theorem d_L_law_775 : decode code 775 = .ok (.aload_n 2, 1) := by decide +kernel
theorem d_L_law_776 : decode code 776 = .ok (.aload_n 0, 1) := by decide +kernel
theorem d_L_law_777 : decode code 777 = .ok (.iload 4, 2) := by decide +kernel
theorem d_L_law_779 : decode code 779 = .ok (.iconst 1, 1) := by decide +kernel
theorem d_L_law_780 : decode code 780 = .ok (.iadd, 1) := by decide +kernel
theorem d_L_law_781 : decode code 781 = .ok (.iaload, 1) := by decide +kernel
theorem d_L_law_782 : decode code 782 = .ok (.aload_n 0, 1) := by decide +kernel
theorem d_L_law_783 : decode code 783 = .ok (.iload 4, 2) := by decide +kernel
theorem d_L_law_785 : decode code 785 = .ok (.iconst 2, 1) := by decide +kernel
theorem d_L_law_786 : decode code 786 = .ok (.iadd, 1) := by decide +kernel
theorem d_L_law_787 : decode code 787 = .ok (.iaload, 1) := by decide +kernel
theorem d_L_law_788 : decode code 788 = .ok (.invokevirtual 136, 3) := by decide +kernel
theorem d_L_law_791 : decode code 791 = .ok (.istore 6, 2) := by decide +kernel
theorem d_L_law_793 : decode code 793 = .ok (.aload_n 2, 1) := by decide +kernel
theorem d_L_law_794 : decode code 794 = .ok (.invokevirtual 109, 3) := by decide +kernel
theorem d_L_law_797 : decode code 797 = .ok (.iload 5, 2) := by decide +kernel
theorem d_L_law_799 : decode code 799 = .ok (.if_icmp .eq 5, 3) := by decide +kernel
theorem d_L_law_802 : decode code 802 = .ok (.iconst 0, 1) := by decide +kernel
theorem d_L_law_803 : decode code 803 = .ok (.ireturn, 1) := by decide +kernel
theorem d_L_law_804 : decode code 804 = .ok (.iload 5, 2) := by decide +kernel
theorem d_L_law_806 : decode code 806 = .ok (.ifCond .ne 15, 3) := by decide +kernel
theorem d_L_law_809 : decode code 809 = .ok (.aload_n 3, 1) := by decide +kernel
theorem d_L_law_810 : decode code 810 = .ok (.iconst 0, 1) := by decide +kernel
theorem d_L_law_811 : decode code 811 = .ok (.laload, 1) := by decide +kernel
theorem d_L_law_812 : decode code 812 = .ok (.iload 6, 2) := by decide +kernel
theorem d_L_law_814 : decode code 814 = .ok (.i2l, 1) := by decide +kernel
theorem d_L_law_815 : decode code 815 = .ok (.lcmp, 1) := by decide +kernel
theorem d_L_law_816 : decode code 816 = .ok (.ifCond .eq 5, 3) := by decide +kernel
theorem d_L_law_819 : decode code 819 = .ok (.iconst 0, 1) := by decide +kernel
theorem d_L_law_820 : decode code 820 = .ok (.ireturn, 1) := by decide +kernel
theorem d_L_law_821 : decode code 821 = .ok (.goto 879, 3) := by decide +kernel
theorem d_L_law_824 : decode code 824 = .ok (.aload_n 1, 1) := by decide +kernel
theorem d_L_law_825 : decode code 825 = .ok (.aload_n 0, 1) := by decide +kernel
theorem d_L_law_826 : decode code 826 = .ok (.iload 4, 2) := by decide +kernel
theorem d_L_law_828 : decode code 828 = .ok (.iconst 1, 1) := by decide +kernel
theorem d_L_law_829 : decode code 829 = .ok (.iadd, 1) := by decide +kernel
theorem d_L_law_830 : decode code 830 = .ok (.iaload, 1) := by decide +kernel
theorem d_L_law_831 : decode code 831 = .ok (.aload_n 0, 1) := by decide +kernel
theorem d_L_law_832 : decode code 832 = .ok (.iload 4, 2) := by decide +kernel
theorem d_L_law_834 : decode code 834 = .ok (.iconst 2, 1) := by decide +kernel
theorem d_L_law_835 : decode code 835 = .ok (.iadd, 1) := by decide +kernel
theorem d_L_law_836 : decode code 836 = .ok (.iaload, 1) := by decide +kernel
theorem d_L_law_837 : decode code 837 = .ok (.aload_n 3, 1) := by decide +kernel
theorem d_L_law_838 : decode code 838 = .ok (.invokestatic 137, 3) := by decide +kernel
theorem d_L_law_841 : decode code 841 = .ok (.istore 5, 2) := by decide +kernel
theorem d_L_law_843 : decode code 843 = .ok (.aload_n 2, 1) := by decide +kernel
theorem d_L_law_844 : decode code 844 = .ok (.aload_n 0, 1) := by decide +kernel
theorem d_L_law_845 : decode code 845 = .ok (.iload 4, 2) := by decide +kernel
theorem d_L_law_847 : decode code 847 = .ok (.iconst 1, 1) := by decide +kernel
theorem d_L_law_848 : decode code 848 = .ok (.iadd, 1) := by decide +kernel
theorem d_L_law_849 : decode code 849 = .ok (.iaload, 1) := by decide +kernel
theorem d_L_law_850 : decode code 850 = .ok (.aload_n 0, 1) := by decide +kernel
theorem d_L_law_851 : decode code 851 = .ok (.iload 4, 2) := by decide +kernel
theorem d_L_law_853 : decode code 853 = .ok (.iconst 2, 1) := by decide +kernel
theorem d_L_law_854 : decode code 854 = .ok (.iadd, 1) := by decide +kernel
theorem d_L_law_855 : decode code 855 = .ok (.iaload, 1) := by decide +kernel
theorem d_L_law_856 : decode code 856 = .ok (.invokevirtual 139, 3) := by decide +kernel
theorem d_L_law_859 : decode code 859 = .ok (.istore 6, 2) := by decide +kernel
theorem d_L_law_861 : decode code 861 = .ok (.aload_n 2, 1) := by decide +kernel
theorem d_L_law_862 : decode code 862 = .ok (.invokevirtual 109, 3) := by decide +kernel
theorem d_L_law_865 : decode code 865 = .ok (.iload 5, 2) := by decide +kernel
theorem d_L_law_867 : decode code 867 = .ok (.if_icmp .eq 5, 3) := by decide +kernel
theorem d_L_law_870 : decode code 870 = .ok (.iconst 0, 1) := by decide +kernel
theorem d_L_law_871 : decode code 871 = .ok (.ireturn, 1) := by decide +kernel
theorem d_L_law_872 : decode code 872 = .ok (.iload 5, 2) := by decide +kernel
theorem d_L_law_874 : decode code 874 = .ok (.ifCond .ne 15, 3) := by decide +kernel
theorem d_L_law_877 : decode code 877 = .ok (.aload_n 3, 1) := by decide +kernel
theorem d_L_law_878 : decode code 878 = .ok (.iconst 0, 1) := by decide +kernel
theorem d_L_law_879 : decode code 879 = .ok (.laload, 1) := by decide +kernel
theorem d_L_law_880 : decode code 880 = .ok (.iload 6, 2) := by decide +kernel
theorem d_L_law_882 : decode code 882 = .ok (.i2l, 1) := by decide +kernel
theorem d_L_law_883 : decode code 883 = .ok (.lcmp, 1) := by decide +kernel
theorem d_L_law_884 : decode code 884 = .ok (.ifCond .eq 5, 3) := by decide +kernel
theorem d_L_law_887 : decode code 887 = .ok (.iconst 0, 1) := by decide +kernel
theorem d_L_law_888 : decode code 888 = .ok (.ireturn, 1) := by decide +kernel
theorem d_L_law_889 : decode code 889 = .ok (.goto 811, 3) := by decide +kernel
theorem d_L_law_892 : decode code 892 = .ok (.aload_n 1, 1) := by decide +kernel
theorem d_L_law_893 : decode code 893 = .ok (.aload_n 0, 1) := by decide +kernel
