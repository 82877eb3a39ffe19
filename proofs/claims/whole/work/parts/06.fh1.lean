theorem pf_201_605 : pd_fetch 201 605 = some (.iadd, 606) := by decide +kernel
theorem pf_201_606 : pd_fetch 201 606 = some (.iaload, 607) := by decide +kernel
theorem pf_201_607 : pd_fetch 201 607 = some (.aload 0, 608) := by decide +kernel
theorem pf_201_608 : pd_fetch 201 608 = some (.iload 4, 610) := by decide +kernel
theorem pf_201_610 : pd_fetch 201 610 = some (.iconst 3, 611) := by decide +kernel
theorem pf_201_611 : pd_fetch 201 611 = some (.iadd, 612) := by decide +kernel
theorem pf_201_612 : pd_fetch 201 612 = some (.iaload, 613) := by decide +kernel
theorem pf_201_613 : pd_fetch 201 613 = some (.aload 0, 614) := by decide +kernel
theorem pf_201_614 : pd_fetch 201 614 = some (.iload 4, 616) := by decide +kernel
theorem pf_201_616 : pd_fetch 201 616 = some (.iconst 4, 617) := by decide +kernel
theorem pf_201_617 : pd_fetch 201 617 = some (.iadd, 618) := by decide +kernel
theorem pf_201_618 : pd_fetch 201 618 = some (.iaload, 619) := by decide +kernel
theorem pf_201_619 : pd_fetch 201 619 = some (.invokevirtual 149, 622) := by decide +kernel
theorem pf_201_622 : pd_fetch 201 622 = some (.if_icmp .eq (Int.ofNat 1951), 625) := by decide +kernel
theorem pf_201_625 : pd_fetch 201 625 = some (.iconst 0, 626) := by decide +kernel
theorem pf_201_626 : pd_fetch 201 626 = some (.ireturn, 627) := by decide +kernel
theorem pf_201_627 : pd_fetch 201 627 = some (.aload 1, 628) := by decide +kernel
theorem pf_201_628 : pd_fetch 201 628 = some (.aload 0, 629) := by decide +kernel
theorem pf_201_629 : pd_fetch 201 629 = some (.iload 4, 631) := by decide +kernel
theorem pf_201_631 : pd_fetch 201 631 = some (.iconst 1, 632) := by decide +kernel
theorem pf_201_632 : pd_fetch 201 632 = some (.iadd, 633) := by decide +kernel
theorem pf_201_633 : pd_fetch 201 633 = some (.iaload, 634) := by decide +kernel
theorem pf_201_634 : pd_fetch 201 634 = some (.aload 3, 635) := by decide +kernel
theorem pf_201_635 : pd_fetch 201 635 = some (.invokestatic 184, 638) := by decide +kernel
theorem pf_201_638 : pd_fetch 201 638 = some (.istore 5, 640) := by decide +kernel
theorem pf_201_640 : pd_fetch 201 640 = some (.aload 2, 641) := by decide +kernel
theorem pf_201_641 : pd_fetch 201 641 = some (.aload 0, 642) := by decide +kernel
theorem pf_201_642 : pd_fetch 201 642 = some (.iload 4, 644) := by decide +kernel
theorem pf_201_644 : pd_fetch 201 644 = some (.iconst 1, 645) := by decide +kernel
theorem pf_201_645 : pd_fetch 201 645 = some (.iadd, 646) := by decide +kernel
theorem pf_201_646 : pd_fetch 201 646 = some (.iaload, 647) := by decide +kernel
theorem pf_201_647 : pd_fetch 201 647 = some (.invokevirtual 151, 650) := by decide +kernel
theorem pf_201_650 : pd_fetch 201 650 = some (.istore 6, 652) := by decide +kernel
theorem pf_201_652 : pd_fetch 201 652 = some (.aload 2, 653) := by decide +kernel
theorem pf_201_653 : pd_fetch 201 653 = some (.invokevirtual 107, 656) := by decide +kernel
theorem pf_201_656 : pd_fetch 201 656 = some (.iload 5, 658) := by decide +kernel
theorem pf_201_658 : pd_fetch 201 658 = some (.if_icmp .eq (Int.ofNat 663), 661) := by decide +kernel
theorem pf_201_661 : pd_fetch 201 661 = some (.iconst 0, 662) := by decide +kernel
theorem pf_201_662 : pd_fetch 201 662 = some (.ireturn, 663) := by decide +kernel
theorem pf_201_663 : pd_fetch 201 663 = some (.iload 5, 665) := by decide +kernel
theorem pf_201_665 : pd_fetch 201 665 = some (.ifCond .ne (Int.ofNat 680), 668) := by decide +kernel
theorem pf_201_668 : pd_fetch 201 668 = some (.aload 3, 669) := by decide +kernel
theorem pf_201_669 : pd_fetch 201 669 = some (.iconst 0, 670) := by decide +kernel
theorem pf_201_670 : pd_fetch 201 670 = some (.laload, 671) := by decide +kernel
theorem pf_201_671 : pd_fetch 201 671 = some (.iload 6, 673) := by decide +kernel
theorem pf_201_673 : pd_fetch 201 673 = some (.i2l, 674) := by decide +kernel
theorem pf_201_674 : pd_fetch 201 674 = some (.lcmp, 675) := by decide +kernel
theorem pf_201_675 : pd_fetch 201 675 = some (.ifCond .eq (Int.ofNat 680), 678) := by decide +kernel
theorem pf_201_678 : pd_fetch 201 678 = some (.iconst 0, 679) := by decide +kernel
theorem pf_201_679 : pd_fetch 201 679 = some (.ireturn, 680) := by decide +kernel
theorem pf_201_680 : pd_fetch 201 680 = some (.goto (Int.ofNat 1951), 683) := by decide +kernel
theorem pf_201_683 : pd_fetch 201 683 = some (.aload 1, 684) := by decide +kernel
theorem pf_201_684 : pd_fetch 201 684 = some (.aload 0, 685) := by decide +kernel
theorem pf_201_685 : pd_fetch 201 685 = some (.iload 4, 687) := by decide +kernel
theorem pf_201_687 : pd_fetch 201 687 = some (.iconst 1, 688) := by decide +kernel
theorem pf_201_688 : pd_fetch 201 688 = some (.iadd, 689) := by decide +kernel
theorem pf_201_689 : pd_fetch 201 689 = some (.iaload, 690) := by decide +kernel
theorem pf_201_690 : pd_fetch 201 690 = some (.aload 0, 691) := by decide +kernel
theorem pf_201_691 : pd_fetch 201 691 = some (.iload 4, 693) := by decide +kernel
theorem pf_201_693 : pd_fetch 201 693 = some (.iconst 2, 694) := by decide +kernel
theorem pf_201_694 : pd_fetch 201 694 = some (.iadd, 695) := by decide +kernel
theorem pf_201_695 : pd_fetch 201 695 = some (.iaload, 696) := by decide +kernel
theorem pf_201_696 : pd_fetch 201 696 = some (.aload 3, 697) := by decide +kernel
theorem pf_201_697 : pd_fetch 201 697 = some (.invokestatic 185, 700) := by decide +kernel
theorem pf_201_700 : pd_fetch 201 700 = some (.istore 5, 702) := by decide +kernel
theorem pf_201_702 : pd_fetch 201 702 = some (.aload 2, 703) := by decide +kernel
theorem pf_201_703 : pd_fetch 201 703 = some (.aload 0, 704) := by decide +kernel
theorem pf_201_704 : pd_fetch 201 704 = some (.iload 4, 706) := by decide +kernel
theorem pf_201_706 : pd_fetch 201 706 = some (.iconst 1, 707) := by decide +kernel
theorem pf_201_707 : pd_fetch 201 707 = some (.iadd, 708) := by decide +kernel
theorem pf_201_708 : pd_fetch 201 708 = some (.iaload, 709) := by decide +kernel
theorem pf_201_709 : pd_fetch 201 709 = some (.aload 0, 710) := by decide +kernel
theorem pf_201_710 : pd_fetch 201 710 = some (.iload 4, 712) := by decide +kernel
theorem pf_201_712 : pd_fetch 201 712 = some (.iconst 2, 713) := by decide +kernel
theorem pf_201_713 : pd_fetch 201 713 = some (.iadd, 714) := by decide +kernel
theorem pf_201_714 : pd_fetch 201 714 = some (.iaload, 715) := by decide +kernel
theorem pf_201_715 : pd_fetch 201 715 = some (.invokevirtual 152, 718) := by decide +kernel
theorem pf_201_718 : pd_fetch 201 718 = some (.istore 6, 720) := by decide +kernel
theorem pf_201_720 : pd_fetch 201 720 = some (.aload 2, 721) := by decide +kernel
theorem pf_201_721 : pd_fetch 201 721 = some (.invokevirtual 107, 724) := by decide +kernel
theorem pf_201_724 : pd_fetch 201 724 = some (.iload 5, 726) := by decide +kernel
theorem pf_201_726 : pd_fetch 201 726 = some (.if_icmp .eq (Int.ofNat 731), 729) := by decide +kernel
theorem pf_201_729 : pd_fetch 201 729 = some (.iconst 0, 730) := by decide +kernel
theorem pf_201_730 : pd_fetch 201 730 = some (.ireturn, 731) := by decide +kernel
theorem pf_201_731 : pd_fetch 201 731 = some (.iload 5, 733) := by decide +kernel
theorem pf_201_733 : pd_fetch 201 733 = some (.ifCond .ne (Int.ofNat 748), 736) := by decide +kernel
theorem pf_201_736 : pd_fetch 201 736 = some (.aload 3, 737) := by decide +kernel
theorem pf_201_737 : pd_fetch 201 737 = some (.iconst 0, 738) := by decide +kernel
theorem pf_201_738 : pd_fetch 201 738 = some (.laload, 739) := by decide +kernel
theorem pf_201_739 : pd_fetch 201 739 = some (.iload 6, 741) := by decide +kernel
theorem pf_201_741 : pd_fetch 201 741 = some (.i2l, 742) := by decide +kernel
theorem pf_201_742 : pd_fetch 201 742 = some (.lcmp, 743) := by decide +kernel
theorem pf_201_743 : pd_fetch 201 743 = some (.ifCond .eq (Int.ofNat 748), 746) := by decide +kernel
theorem pf_201_746 : pd_fetch 201 746 = some (.iconst 0, 747) := by decide +kernel
theorem pf_201_747 : pd_fetch 201 747 = some (.ireturn, 748) := by decide +kernel
theorem pf_201_748 : pd_fetch 201 748 = some (.goto (Int.ofNat 1951), 751) := by decide +kernel
theorem pf_201_751 : pd_fetch 201 751 = some (.aload 1, 752) := by decide +kernel
theorem pf_201_752 : pd_fetch 201 752 = some (.aload 0, 753) := by decide +kernel
theorem pf_201_753 : pd_fetch 201 753 = some (.iload 4, 755) := by decide +kernel
theorem pf_201_755 : pd_fetch 201 755 = some (.iconst 1, 756) := by decide +kernel
theorem pf_201_756 : pd_fetch 201 756 = some (.iadd, 757) := by decide +kernel
theorem pf_201_757 : pd_fetch 201 757 = some (.iaload, 758) := by decide +kernel
theorem pf_201_758 : pd_fetch 201 758 = some (.aload 0, 759) := by decide +kernel
theorem pf_201_759 : pd_fetch 201 759 = some (.iload 4, 761) := by decide +kernel
theorem pf_201_761 : pd_fetch 201 761 = some (.iconst 2, 762) := by decide +kernel
theorem pf_201_762 : pd_fetch 201 762 = some (.iadd, 763) := by decide +kernel
theorem pf_201_763 : pd_fetch 201 763 = some (.iaload, 764) := by decide +kernel
theorem pf_201_764 : pd_fetch 201 764 = some (.aload 0, 765) := by decide +kernel
theorem pf_201_765 : pd_fetch 201 765 = some (.iload 4, 767) := by decide +kernel
theorem pf_201_767 : pd_fetch 201 767 = some (.iconst 3, 768) := by decide +kernel
theorem pf_201_768 : pd_fetch 201 768 = some (.iadd, 769) := by decide +kernel
theorem pf_201_769 : pd_fetch 201 769 = some (.iaload, 770) := by decide +kernel
theorem pf_201_770 : pd_fetch 201 770 = some (.aload 3, 771) := by decide +kernel
theorem pf_201_771 : pd_fetch 201 771 = some (.invokestatic 186, 774) := by decide +kernel
theorem pf_201_774 : pd_fetch 201 774 = some (.istore 5, 776) := by decide +kernel
theorem pf_201_776 : pd_fetch 201 776 = some (.aload 2, 777) := by decide +kernel
theorem pf_201_777 : pd_fetch 201 777 = some (.aload 0, 778) := by decide +kernel
theorem pf_201_778 : pd_fetch 201 778 = some (.iload 4, 780) := by decide +kernel
theorem pf_201_780 : pd_fetch 201 780 = some (.iconst 1, 781) := by decide +kernel
theorem pf_201_781 : pd_fetch 201 781 = some (.iadd, 782) := by decide +kernel
theorem pf_201_782 : pd_fetch 201 782 = some (.iaload, 783) := by decide +kernel
theorem pf_201_783 : pd_fetch 201 783 = some (.aload 0, 784) := by decide +kernel
theorem pf_201_784 : pd_fetch 201 784 = some (.iload 4, 786) := by decide +kernel
theorem pf_201_786 : pd_fetch 201 786 = some (.iconst 2, 787) := by decide +kernel
theorem pf_201_787 : pd_fetch 201 787 = some (.iadd, 788) := by decide +kernel
theorem pf_201_788 : pd_fetch 201 788 = some (.iaload, 789) := by decide +kernel
theorem pf_201_789 : pd_fetch 201 789 = some (.aload 0, 790) := by decide +kernel
theorem pf_201_790 : pd_fetch 201 790 = some (.iload 4, 792) := by decide +kernel
theorem pf_201_792 : pd_fetch 201 792 = some (.iconst 3, 793) := by decide +kernel
theorem pf_201_793 : pd_fetch 201 793 = some (.iadd, 794) := by decide +kernel
theorem pf_201_794 : pd_fetch 201 794 = some (.iaload, 795) := by decide +kernel
theorem pf_201_795 : pd_fetch 201 795 = some (.invokevirtual 153, 798) := by decide +kernel
theorem pf_201_798 : pd_fetch 201 798 = some (.istore 6, 800) := by decide +kernel
theorem pf_201_800 : pd_fetch 201 800 = some (.aload 2, 801) := by decide +kernel
theorem pf_201_801 : pd_fetch 201 801 = some (.invokevirtual 107, 804) := by decide +kernel
theorem pf_201_804 : pd_fetch 201 804 = some (.iload 5, 806) := by decide +kernel
theorem pf_201_806 : pd_fetch 201 806 = some (.if_icmp .eq (Int.ofNat 811), 809) := by decide +kernel
theorem pf_201_809 : pd_fetch 201 809 = some (.iconst 0, 810) := by decide +kernel
theorem pf_201_810 : pd_fetch 201 810 = some (.ireturn, 811) := by decide +kernel
theorem pf_201_811 : pd_fetch 201 811 = some (.iload 5, 813) := by decide +kernel
theorem pf_201_813 : pd_fetch 201 813 = some (.ifCond .ne (Int.ofNat 828), 816) := by decide +kernel
theorem pf_201_816 : pd_fetch 201 816 = some (.aload 3, 817) := by decide +kernel
theorem pf_201_817 : pd_fetch 201 817 = some (.iconst 0, 818) := by decide +kernel
theorem pf_201_818 : pd_fetch 201 818 = some (.laload, 819) := by decide +kernel
theorem pf_201_819 : pd_fetch 201 819 = some (.iload 6, 821) := by decide +kernel
theorem pf_201_821 : pd_fetch 201 821 = some (.i2l, 822) := by decide +kernel
theorem pf_201_822 : pd_fetch 201 822 = some (.lcmp, 823) := by decide +kernel
theorem pf_201_823 : pd_fetch 201 823 = some (.ifCond .eq (Int.ofNat 828), 826) := by decide +kernel
theorem pf_201_826 : pd_fetch 201 826 = some (.iconst 0, 827) := by decide +kernel
theorem pf_201_827 : pd_fetch 201 827 = some (.ireturn, 828) := by decide +kernel
theorem pf_201_828 : pd_fetch 201 828 = some (.goto (Int.ofNat 1951), 831) := by decide +kernel
theorem pf_201_831 : pd_fetch 201 831 = some (.aload 1, 832) := by decide +kernel
theorem pf_201_832 : pd_fetch 201 832 = some (.aload 0, 833) := by decide +kernel
theorem pf_201_833 : pd_fetch 201 833 = some (.iload 4, 835) := by decide +kernel
theorem pf_201_835 : pd_fetch 201 835 = some (.iconst 1, 836) := by decide +kernel
theorem pf_201_836 : pd_fetch 201 836 = some (.iadd, 837) := by decide +kernel
theorem pf_201_837 : pd_fetch 201 837 = some (.iaload, 838) := by decide +kernel
theorem pf_201_838 : pd_fetch 201 838 = some (.aload 3, 839) := by decide +kernel
theorem pf_201_839 : pd_fetch 201 839 = some (.invokestatic 187, 842) := by decide +kernel
theorem pf_201_842 : pd_fetch 201 842 = some (.istore 5, 844) := by decide +kernel
theorem pf_201_844 : pd_fetch 201 844 = some (.aload 2, 845) := by decide +kernel
theorem pf_201_845 : pd_fetch 201 845 = some (.aload 0, 846) := by decide +kernel
theorem pf_201_846 : pd_fetch 201 846 = some (.iload 4, 848) := by decide +kernel
theorem pf_201_848 : pd_fetch 201 848 = some (.iconst 1, 849) := by decide +kernel
theorem pf_201_849 : pd_fetch 201 849 = some (.iadd, 850) := by decide +kernel
theorem pf_201_850 : pd_fetch 201 850 = some (.iaload, 851) := by decide +kernel
theorem pf_201_851 : pd_fetch 201 851 = some (.invokevirtual 154, 854) := by decide +kernel
theorem pf_201_854 : pd_fetch 201 854 = some (.istore 6, 856) := by decide +kernel
theorem pf_201_856 : pd_fetch 201 856 = some (.aload 2, 857) := by decide +kernel
theorem pf_201_857 : pd_fetch 201 857 = some (.invokevirtual 107, 860) := by decide +kernel
theorem pf_201_860 : pd_fetch 201 860 = some (.iload 5, 862) := by decide +kernel
theorem pf_201_862 : pd_fetch 201 862 = some (.if_icmp .eq (Int.ofNat 867), 865) := by decide +kernel
theorem pf_201_865 : pd_fetch 201 865 = some (.iconst 0, 866) := by decide +kernel
theorem pf_201_866 : pd_fetch 201 866 = some (.ireturn, 867) := by decide +kernel
theorem pf_201_867 : pd_fetch 201 867 = some (.iload 5, 869) := by decide +kernel
theorem pf_201_869 : pd_fetch 201 869 = some (.ifCond .ne (Int.ofNat 884), 872) := by decide +kernel
theorem pf_201_872 : pd_fetch 201 872 = some (.aload 3, 873) := by decide +kernel
theorem pf_201_873 : pd_fetch 201 873 = some (.iconst 0, 874) := by decide +kernel
theorem pf_201_874 : pd_fetch 201 874 = some (.laload, 875) := by decide +kernel
theorem pf_201_875 : pd_fetch 201 875 = some (.iload 6, 877) := by decide +kernel
theorem pf_201_877 : pd_fetch 201 877 = some (.i2l, 878) := by decide +kernel
theorem pf_201_878 : pd_fetch 201 878 = some (.lcmp, 879) := by decide +kernel
theorem pf_201_879 : pd_fetch 201 879 = some (.ifCond .eq (Int.ofNat 884), 882) := by decide +kernel
theorem pf_201_882 : pd_fetch 201 882 = some (.iconst 0, 883) := by decide +kernel
theorem pf_201_883 : pd_fetch 201 883 = some (.ireturn, 884) := by decide +kernel
theorem pf_201_884 : pd_fetch 201 884 = some (.goto (Int.ofNat 1951), 887) := by decide +kernel
theorem pf_201_887 : pd_fetch 201 887 = some (.aload 1, 888) := by decide +kernel
theorem pf_201_888 : pd_fetch 201 888 = some (.aload 0, 889) := by decide +kernel
theorem pf_201_889 : pd_fetch 201 889 = some (.iload 4, 891) := by decide +kernel
theorem pf_201_891 : pd_fetch 201 891 = some (.iconst 1, 892) := by decide +kernel
theorem pf_201_892 : pd_fetch 201 892 = some (.iadd, 893) := by decide +kernel
theorem pf_201_893 : pd_fetch 201 893 = some (.iaload, 894) := by decide +kernel
theorem pf_201_894 : pd_fetch 201 894 = some (.aload 0, 895) := by decide +kernel
theorem pf_201_895 : pd_fetch 201 895 = some (.iload 4, 897) := by decide +kernel
theorem pf_201_897 : pd_fetch 201 897 = some (.iconst 2, 898) := by decide +kernel
theorem pf_201_898 : pd_fetch 201 898 = some (.iadd, 899) := by decide +kernel
theorem pf_201_899 : pd_fetch 201 899 = some (.iaload, 900) := by decide +kernel
theorem pf_201_900 : pd_fetch 201 900 = some (.aload 0, 901) := by decide +kernel
theorem pf_201_901 : pd_fetch 201 901 = some (.iload 4, 903) := by decide +kernel
theorem pf_201_903 : pd_fetch 201 903 = some (.iconst 3, 904) := by decide +kernel
theorem pf_201_904 : pd_fetch 201 904 = some (.iadd, 905) := by decide +kernel
theorem pf_201_905 : pd_fetch 201 905 = some (.iaload, 906) := by decide +kernel
theorem pf_201_906 : pd_fetch 201 906 = some (.aload 3, 907) := by decide +kernel
theorem pf_201_907 : pd_fetch 201 907 = some (.invokestatic 188, 910) := by decide +kernel
theorem pf_201_910 : pd_fetch 201 910 = some (.istore 5, 912) := by decide +kernel
theorem pf_201_912 : pd_fetch 201 912 = some (.aload 2, 913) := by decide +kernel
theorem pf_201_913 : pd_fetch 201 913 = some (.aload 0, 914) := by decide +kernel
theorem pf_201_914 : pd_fetch 201 914 = some (.iload 4, 916) := by decide +kernel
theorem pf_201_916 : pd_fetch 201 916 = some (.iconst 1, 917) := by decide +kernel
theorem pf_201_917 : pd_fetch 201 917 = some (.iadd, 918) := by decide +kernel
theorem pf_201_918 : pd_fetch 201 918 = some (.iaload, 919) := by decide +kernel
theorem pf_201_919 : pd_fetch 201 919 = some (.aload 0, 920) := by decide +kernel
theorem pf_201_920 : pd_fetch 201 920 = some (.iload 4, 922) := by decide +kernel
theorem pf_201_922 : pd_fetch 201 922 = some (.iconst 2, 923) := by decide +kernel
theorem pf_201_923 : pd_fetch 201 923 = some (.iadd, 924) := by decide +kernel
theorem pf_201_924 : pd_fetch 201 924 = some (.iaload, 925) := by decide +kernel
theorem pf_201_925 : pd_fetch 201 925 = some (.aload 0, 926) := by decide +kernel
theorem pf_201_926 : pd_fetch 201 926 = some (.iload 4, 928) := by decide +kernel
theorem pf_201_928 : pd_fetch 201 928 = some (.iconst 3, 929) := by decide +kernel
theorem pf_201_929 : pd_fetch 201 929 = some (.iadd, 930) := by decide +kernel
theorem pf_201_930 : pd_fetch 201 930 = some (.iaload, 931) := by decide +kernel
theorem pf_201_931 : pd_fetch 201 931 = some (.invokevirtual 155, 934) := by decide +kernel
theorem pf_201_934 : pd_fetch 201 934 = some (.istore 6, 936) := by decide +kernel
theorem pf_201_936 : pd_fetch 201 936 = some (.aload 2, 937) := by decide +kernel
theorem pf_201_937 : pd_fetch 201 937 = some (.invokevirtual 107, 940) := by decide +kernel
theorem pf_201_940 : pd_fetch 201 940 = some (.iload 5, 942) := by decide +kernel
theorem pf_201_942 : pd_fetch 201 942 = some (.if_icmp .eq (Int.ofNat 947), 945) := by decide +kernel
theorem pf_201_945 : pd_fetch 201 945 = some (.iconst 0, 946) := by decide +kernel
theorem pf_201_946 : pd_fetch 201 946 = some (.ireturn, 947) := by decide +kernel
theorem pf_201_947 : pd_fetch 201 947 = some (.iload 5, 949) := by decide +kernel
theorem pf_201_949 : pd_fetch 201 949 = some (.ifCond .ne (Int.ofNat 964), 952) := by decide +kernel
theorem pf_201_952 : pd_fetch 201 952 = some (.aload 3, 953) := by decide +kernel
theorem pf_201_953 : pd_fetch 201 953 = some (.iconst 0, 954) := by decide +kernel
theorem pf_201_954 : pd_fetch 201 954 = some (.laload, 955) := by decide +kernel
theorem pf_201_955 : pd_fetch 201 955 = some (.iload 6, 957) := by decide +kernel
theorem pf_201_957 : pd_fetch 201 957 = some (.i2l, 958) := by decide +kernel
theorem pf_201_958 : pd_fetch 201 958 = some (.lcmp, 959) := by decide +kernel
theorem pf_201_959 : pd_fetch 201 959 = some (.ifCond .eq (Int.ofNat 964), 962) := by decide +kernel
theorem pf_201_962 : pd_fetch 201 962 = some (.iconst 0, 963) := by decide +kernel
theorem pf_201_963 : pd_fetch 201 963 = some (.ireturn, 964) := by decide +kernel
theorem pf_201_964 : pd_fetch 201 964 = some (.goto (Int.ofNat 1951), 967) := by decide +kernel
theorem pf_201_967 : pd_fetch 201 967 = some (.aload 1, 968) := by decide +kernel
theorem pf_201_968 : pd_fetch 201 968 = some (.aload 3, 969) := by decide +kernel
theorem pf_201_969 : pd_fetch 201 969 = some (.invokestatic 189, 972) := by decide +kernel
theorem pf_201_972 : pd_fetch 201 972 = some (.istore 5, 974) := by decide +kernel
theorem pf_201_974 : pd_fetch 201 974 = some (.aload 2, 975) := by decide +kernel
theorem pf_201_975 : pd_fetch 201 975 = some (.invokevirtual 156, 978) := by decide +kernel
theorem pf_201_978 : pd_fetch 201 978 = some (.istore 6, 980) := by decide +kernel
theorem pf_201_980 : pd_fetch 201 980 = some (.aload 2, 981) := by decide +kernel
theorem pf_201_981 : pd_fetch 201 981 = some (.invokevirtual 107, 984) := by decide +kernel
theorem pf_201_984 : pd_fetch 201 984 = some (.iload 5, 986) := by decide +kernel
theorem pf_201_986 : pd_fetch 201 986 = some (.if_icmp .eq (Int.ofNat 991), 989) := by decide +kernel
theorem pf_201_989 : pd_fetch 201 989 = some (.iconst 0, 990) := by decide +kernel
theorem pf_201_990 : pd_fetch 201 990 = some (.ireturn, 991) := by decide +kernel
theorem pf_201_991 : pd_fetch 201 991 = some (.iload 5, 993) := by decide +kernel
theorem pf_201_993 : pd_fetch 201 993 = some (.ifCond .ne (Int.ofNat 1008), 996) := by decide +kernel
theorem pf_201_996 : pd_fetch 201 996 = some (.aload 3, 997) := by decide +kernel
theorem pf_201_997 : pd_fetch 201 997 = some (.iconst 0, 998) := by decide +kernel
theorem pf_201_998 : pd_fetch 201 998 = some (.laload, 999) := by decide +kernel
theorem pf_201_999 : pd_fetch 201 999 = some (.iload 6, 1001) := by decide +kernel
theorem pf_201_1001 : pd_fetch 201 1001 = some (.i2l, 1002) := by decide +kernel
theorem pf_201_1002 : pd_fetch 201 1002 = some (.lcmp, 1003) := by decide +kernel
theorem pf_201_1003 : pd_fetch 201 1003 = some (.ifCond .eq (Int.ofNat 1008), 1006) := by decide +kernel
theorem pf_201_1006 : pd_fetch 201 1006 = some (.iconst 0, 1007) := by decide +kernel
theorem pf_201_1007 : pd_fetch 201 1007 = some (.ireturn, 1008) := by decide +kernel
theorem pf_201_1008 : pd_fetch 201 1008 = some (.goto (Int.ofNat 1951), 1011) := by decide +kernel
theorem pf_201_1011 : pd_fetch 201 1011 = some (.aload 1, 1012) := by decide +kernel
theorem pf_201_1012 : pd_fetch 201 1012 = some (.aload 0, 1013) := by decide +kernel
theorem pf_201_1013 : pd_fetch 201 1013 = some (.iload 4, 1015) := by decide +kernel
theorem pf_201_1015 : pd_fetch 201 1015 = some (.iconst 1, 1016) := by decide +kernel
theorem pf_201_1016 : pd_fetch 201 1016 = some (.iadd, 1017) := by decide +kernel
theorem pf_201_1017 : pd_fetch 201 1017 = some (.iaload, 1018) := by decide +kernel
theorem pf_201_1018 : pd_fetch 201 1018 = some (.aload 3, 1019) := by decide +kernel
theorem pf_201_1019 : pd_fetch 201 1019 = some (.invokestatic 190, 1022) := by decide +kernel
theorem pf_201_1022 : pd_fetch 201 1022 = some (.istore 5, 1024) := by decide +kernel
theorem pf_201_1024 : pd_fetch 201 1024 = some (.aload 2, 1025) := by decide +kernel
theorem pf_201_1025 : pd_fetch 201 1025 = some (.aload 0, 1026) := by decide +kernel
theorem pf_201_1026 : pd_fetch 201 1026 = some (.iload 4, 1028) := by decide +kernel
theorem pf_201_1028 : pd_fetch 201 1028 = some (.iconst 1, 1029) := by decide +kernel
theorem pf_201_1029 : pd_fetch 201 1029 = some (.iadd, 1030) := by decide +kernel
theorem pf_201_1030 : pd_fetch 201 1030 = some (.iaload, 1031) := by decide +kernel
theorem pf_201_1031 : pd_fetch 201 1031 = some (.invokevirtual 157, 1034) := by decide +kernel
theorem pf_201_1034 : pd_fetch 201 1034 = some (.istore 6, 1036) := by decide +kernel
theorem pf_201_1036 : pd_fetch 201 1036 = some (.aload 2, 1037) := by decide +kernel
theorem pf_201_1037 : pd_fetch 201 1037 = some (.invokevirtual 107, 1040) := by decide +kernel
theorem pf_201_1040 : pd_fetch 201 1040 = some (.iload 5, 1042) := by decide +kernel
theorem pf_201_1042 : pd_fetch 201 1042 = some (.if_icmp .eq (Int.ofNat 1047), 1045) := by decide +kernel
theorem pf_201_1045 : pd_fetch 201 1045 = some (.iconst 0, 1046) := by decide +kernel
theorem pf_201_1046 : pd_fetch 201 1046 = some (.ireturn, 1047) := by decide +kernel
theorem pf_201_1047 : pd_fetch 201 1047 = some (.iload 5, 1049) := by decide +kernel
theorem pf_201_1049 : pd_fetch 201 1049 = some (.ifCond .ne (Int.ofNat 1064), 1052) := by decide +kernel
theorem pf_201_1052 : pd_fetch 201 1052 = some (.aload 3, 1053) := by decide +kernel
theorem pf_201_1053 : pd_fetch 201 1053 = some (.iconst 0, 1054) := by decide +kernel
theorem pf_201_1054 : pd_fetch 201 1054 = some (.laload, 1055) := by decide +kernel
theorem pf_201_1055 : pd_fetch 201 1055 = some (.iload 6, 1057) := by decide +kernel
theorem pf_201_1057 : pd_fetch 201 1057 = some (.i2l, 1058) := by decide +kernel
theorem pf_201_1058 : pd_fetch 201 1058 = some (.lcmp, 1059) := by decide +kernel
theorem pf_201_1059 : pd_fetch 201 1059 = some (.ifCond .eq (Int.ofNat 1064), 1062) := by decide +kernel
theorem pf_201_1062 : pd_fetch 201 1062 = some (.iconst 0, 1063) := by decide +kernel
theorem pf_201_1063 : pd_fetch 201 1063 = some (.ireturn, 1064) := by decide +kernel
