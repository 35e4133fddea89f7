/-! the law: decoded -/
theorem d_Lw_law_750 : decode code 750 = .ok (.lshl, 1) := by decide +kernel
theorem d_Lw_law_751 : decode code 751 = .ok (.aload_n 0, 1) := by decide +kernel
theorem d_Lw_law_752 : decode code 752 = .ok (.iload_n 3, 1) := by decide +kernel
theorem d_Lw_law_753 : decode code 753 = .ok (.iconst 3, 1) := by decide +kernel
theorem d_Lw_law_754 : decode code 754 = .ok (.iadd, 1) := by decide +kernel
theorem d_Lw_law_755 : decode code 755 = .ok (.iaload, 1) := by decide +kernel
theorem d_Lw_law_756 : decode code 756 = .ok (.i2l, 1) := by decide +kernel
theorem d_Lw_law_757 : decode code 757 = .ok (.ldc2_w 18, 3) := by decide +kernel
theorem d_Lw_law_760 : decode code 760 = .ok (.land, 1) := by decide +kernel
theorem d_Lw_law_761 : decode code 761 = .ok (.lor, 1) := by decide +kernel
theorem d_Lw_law_762 : decode code 762 = .ok (.invokevirtual 83, 3) := by decide +kernel
theorem d_Lw_law_765 : decode code 765 = .ok (.aload_n 2, 1) := by decide +kernel
theorem d_Lw_law_766 : decode code 766 = .ok (.aload_n 0, 1) := by decide +kernel
theorem d_Lw_law_767 : decode code 767 = .ok (.iload_n 3, 1) := by decide +kernel
theorem d_Lw_law_768 : decode code 768 = .ok (.iconst 1, 1) := by decide +kernel
theorem d_Lw_law_769 : decode code 769 = .ok (.iadd, 1) := by decide +kernel
theorem d_Lw_law_770 : decode code 770 = .ok (.iaload, 1) := by decide +kernel
theorem d_Lw_law_771 : decode code 771 = .ok (.aload_n 0, 1) := by decide +kernel
theorem d_Lw_law_772 : decode code 772 = .ok (.iload_n 3, 1) := by decide +kernel
theorem d_Lw_law_773 : decode code 773 = .ok (.iconst 2, 1) := by decide +kernel
theorem d_Lw_law_774 : decode code 774 = .ok (.iadd, 1) := by decide +kernel
theorem d_Lw_law_775 : decode code 775 = .ok (.iaload, 1) := by decide +kernel
theorem d_Lw_law_776 : decode code 776 = .ok (.i2l, 1) := by decide +kernel
theorem d_Lw_law_777 : decode code 777 = .ok (.bipush 32, 2) := by decide +kernel
theorem d_Lw_law_779 : decode code 779 = .ok (.lshl, 1) := by decide +kernel
theorem d_Lw_law_780 : decode code 780 = .ok (.aload_n 0, 1) := by decide +kernel
theorem d_Lw_law_781 : decode code 781 = .ok (.iload_n 3, 1) := by decide +kernel
theorem d_Lw_law_782 : decode code 782 = .ok (.iconst 3, 1) := by decide +kernel
theorem d_Lw_law_783 : decode code 783 = .ok (.iadd, 1) := by decide +kernel
theorem d_Lw_law_784 : decode code 784 = .ok (.iaload, 1) := by decide +kernel
theorem d_Lw_law_785 : decode code 785 = .ok (.i2l, 1) := by decide +kernel
theorem d_Lw_law_786 : decode code 786 = .ok (.ldc2_w 18, 3) := by decide +kernel
theorem d_Lw_law_789 : decode code 789 = .ok (.land, 1) := by decide +kernel
theorem d_Lw_law_790 : decode code 790 = .ok (.lor, 1) := by decide +kernel
theorem d_Lw_law_791 : decode code 791 = .ok (.invokevirtual 87, 3) := by decide +kernel
theorem d_Lw_law_794 : decode code 794 = .ok (.if_icmp .eq 373, 3) := by decide +kernel
theorem d_Lw_law_797 : decode code 797 = .ok (.iconst 0, 1) := by decide +kernel
theorem d_Lw_law_798 : decode code 798 = .ok (.ireturn, 1) := by decide +kernel
theorem d_Lw_law_799 : decode code 799 = .ok (.aload_n 1, 1) := by decide +kernel
theorem d_Lw_law_800 : decode code 800 = .ok (.aload_n 0, 1) := by decide +kernel
theorem d_Lw_law_801 : decode code 801 = .ok (.iload_n 3, 1) := by decide +kernel
theorem d_Lw_law_802 : decode code 802 = .ok (.iconst 1, 1) := by decide +kernel
theorem d_Lw_law_803 : decode code 803 = .ok (.iadd, 1) := by decide +kernel
theorem d_Lw_law_804 : decode code 804 = .ok (.iaload, 1) := by decide +kernel
theorem d_Lw_law_805 : decode code 805 = .ok (.aload_n 0, 1) := by decide +kernel
theorem d_Lw_law_806 : decode code 806 = .ok (.iload_n 3, 1) := by decide +kernel
theorem d_Lw_law_807 : decode code 807 = .ok (.iconst 2, 1) := by decide +kernel
theorem d_Lw_law_808 : decode code 808 = .ok (.iadd, 1) := by decide +kernel
theorem d_Lw_law_809 : decode code 809 = .ok (.iaload, 1) := by decide +kernel
theorem d_Lw_law_810 : decode code 810 = .ok (.i2l, 1) := by decide +kernel
theorem d_Lw_law_811 : decode code 811 = .ok (.bipush 32, 2) := by decide +kernel
theorem d_Lw_law_813 : decode code 813 = .ok (.lshl, 1) := by decide +kernel
theorem d_Lw_law_814 : decode code 814 = .ok (.aload_n 0, 1) := by decide +kernel
theorem d_Lw_law_815 : decode code 815 = .ok (.iload_n 3, 1) := by decide +kernel
theorem d_Lw_law_816 : decode code 816 = .ok (.iconst 3, 1) := by decide +kernel
theorem d_Lw_law_817 : decode code 817 = .ok (.iadd, 1) := by decide +kernel
theorem d_Lw_law_818 : decode code 818 = .ok (.iaload, 1) := by decide +kernel
theorem d_Lw_law_819 : decode code 819 = .ok (.i2l, 1) := by decide +kernel
theorem d_Lw_law_820 : decode code 820 = .ok (.ldc2_w 18, 3) := by decide +kernel
theorem d_Lw_law_823 : decode code 823 = .ok (.land, 1) := by decide +kernel
theorem d_Lw_law_824 : decode code 824 = .ok (.lor, 1) := by decide +kernel
theorem d_Lw_law_825 : decode code 825 = .ok (.aload_n 0, 1) := by decide +kernel
theorem d_Lw_law_826 : decode code 826 = .ok (.iload_n 3, 1) := by decide +kernel
theorem d_Lw_law_827 : decode code 827 = .ok (.iconst 4, 1) := by decide +kernel
theorem d_Lw_law_828 : decode code 828 = .ok (.iadd, 1) := by decide +kernel
theorem d_Lw_law_829 : decode code 829 = .ok (.iaload, 1) := by decide +kernel
theorem d_Lw_law_830 : decode code 830 = .ok (.i2l, 1) := by decide +kernel
theorem d_Lw_law_831 : decode code 831 = .ok (.bipush 32, 2) := by decide +kernel
theorem d_Lw_law_833 : decode code 833 = .ok (.lshl, 1) := by decide +kernel
theorem d_Lw_law_834 : decode code 834 = .ok (.aload_n 0, 1) := by decide +kernel
theorem d_Lw_law_835 : decode code 835 = .ok (.iload_n 3, 1) := by decide +kernel
theorem d_Lw_law_836 : decode code 836 = .ok (.iconst 5, 1) := by decide +kernel
theorem d_Lw_law_837 : decode code 837 = .ok (.iadd, 1) := by decide +kernel
theorem d_Lw_law_838 : decode code 838 = .ok (.iaload, 1) := by decide +kernel
theorem d_Lw_law_839 : decode code 839 = .ok (.i2l, 1) := by decide +kernel
theorem d_Lw_law_840 : decode code 840 = .ok (.ldc2_w 18, 3) := by decide +kernel
theorem d_Lw_law_843 : decode code 843 = .ok (.land, 1) := by decide +kernel
theorem d_Lw_law_844 : decode code 844 = .ok (.lor, 1) := by decide +kernel
theorem d_Lw_law_845 : decode code 845 = .ok (.invokevirtual 88, 3) := by decide +kernel
theorem d_Lw_law_848 : decode code 848 = .ok (.aload_n 2, 1) := by decide +kernel
theorem d_Lw_law_849 : decode code 849 = .ok (.aload_n 0, 1) := by decide +kernel
theorem d_Lw_law_850 : decode code 850 = .ok (.iload_n 3, 1) := by decide +kernel
theorem d_Lw_law_851 : decode code 851 = .ok (.iconst 1, 1) := by decide +kernel
theorem d_Lw_law_852 : decode code 852 = .ok (.iadd, 1) := by decide +kernel
theorem d_Lw_law_853 : decode code 853 = .ok (.iaload, 1) := by decide +kernel
theorem d_Lw_law_854 : decode code 854 = .ok (.aload_n 0, 1) := by decide +kernel
theorem d_Lw_law_855 : decode code 855 = .ok (.iload_n 3, 1) := by decide +kernel
theorem d_Lw_law_856 : decode code 856 = .ok (.iconst 2, 1) := by decide +kernel
theorem d_Lw_law_857 : decode code 857 = .ok (.iadd, 1) := by decide +kernel
theorem d_Lw_law_858 : decode code 858 = .ok (.iaload, 1) := by decide +kernel
theorem d_Lw_law_859 : decode code 859 = .ok (.i2l, 1) := by decide +kernel
theorem d_Lw_law_860 : decode code 860 = .ok (.bipush 32, 2) := by decide +kernel
theorem d_Lw_law_862 : decode code 862 = .ok (.lshl, 1) := by decide +kernel
theorem d_Lw_law_863 : decode code 863 = .ok (.aload_n 0, 1) := by decide +kernel
theorem d_Lw_law_864 : decode code 864 = .ok (.iload_n 3, 1) := by decide +kernel
theorem d_Lw_law_865 : decode code 865 = .ok (.iconst 3, 1) := by decide +kernel
theorem d_Lw_law_866 : decode code 866 = .ok (.iadd, 1) := by decide +kernel
theorem d_Lw_law_867 : decode code 867 = .ok (.iaload, 1) := by decide +kernel
theorem d_Lw_law_868 : decode code 868 = .ok (.i2l, 1) := by decide +kernel
theorem d_Lw_law_869 : decode code 869 = .ok (.ldc2_w 18, 3) := by decide +kernel
theorem d_Lw_law_872 : decode code 872 = .ok (.land, 1) := by decide +kernel
theorem d_Lw_law_873 : decode code 873 = .ok (.lor, 1) := by decide +kernel
theorem d_Lw_law_874 : decode code 874 = .ok (.aload_n 0, 1) := by decide +kernel
theorem d_Lw_law_875 : decode code 875 = .ok (.iload_n 3, 1) := by decide +kernel
theorem d_Lw_law_876 : decode code 876 = .ok (.iconst 4, 1) := by decide +kernel
theorem d_Lw_law_877 : decode code 877 = .ok (.iadd, 1) := by decide +kernel
theorem d_Lw_law_878 : decode code 878 = .ok (.iaload, 1) := by decide +kernel
theorem d_Lw_law_879 : decode code 879 = .ok (.i2l, 1) := by decide +kernel
theorem d_Lw_law_880 : decode code 880 = .ok (.bipush 32, 2) := by decide +kernel
theorem d_Lw_law_882 : decode code 882 = .ok (.lshl, 1) := by decide +kernel
theorem d_Lw_law_883 : decode code 883 = .ok (.aload_n 0, 1) := by decide +kernel
theorem d_Lw_law_884 : decode code 884 = .ok (.iload_n 3, 1) := by decide +kernel
theorem d_Lw_law_885 : decode code 885 = .ok (.iconst 5, 1) := by decide +kernel
theorem d_Lw_law_886 : decode code 886 = .ok (.iadd, 1) := by decide +kernel
theorem d_Lw_law_887 : decode code 887 = .ok (.iaload, 1) := by decide +kernel
theorem d_Lw_law_888 : decode code 888 = .ok (.i2l, 1) := by decide +kernel
theorem d_Lw_law_889 : decode code 889 = .ok (.ldc2_w 18, 3) := by decide +kernel
theorem d_Lw_law_892 : decode code 892 = .ok (.land, 1) := by decide +kernel
theorem d_Lw_law_893 : decode code 893 = .ok (.lor, 1) := by decide +kernel
theorem d_Lw_law_894 : decode code 894 = .ok (.invokevirtual 92, 3) := by decide +kernel
theorem d_Lw_law_897 : decode code 897 = .ok (.lcmp, 1) := by decide +kernel
theorem d_Lw_law_898 : decode code 898 = .ok (.ifCond .eq 269, 3) := by decide +kernel

