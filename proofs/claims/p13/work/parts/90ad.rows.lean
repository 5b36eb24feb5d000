theorem d_law_766 : decode code 766 = .ok (.i2l, 1) := by decide +kernel
theorem d_law_767 : decode code 767 = .ok (.ldc2_w 98, 3) := by decide +kernel
theorem d_law_770 : decode code 770 = .ok (.land, 1) := by decide +kernel
theorem d_law_771 : decode code 771 = .ok (.lor, 1) := by decide +kernel
theorem d_law_772 : decode code 772 = .ok (.aload_n 0, 1) := by decide +kernel
theorem d_law_773 : decode code 773 = .ok (.iload 4, 2) := by decide +kernel
theorem d_law_775 : decode code 775 = .ok (.bipush 6, 2) := by decide +kernel
theorem d_law_777 : decode code 777 = .ok (.iadd, 1) := by decide +kernel
theorem d_law_778 : decode code 778 = .ok (.iaload, 1) := by decide +kernel
theorem d_law_779 : decode code 779 = .ok (.i2l, 1) := by decide +kernel
theorem d_law_780 : decode code 780 = .ok (.bipush 32, 2) := by decide +kernel
theorem d_law_782 : decode code 782 = .ok (.lshl, 1) := by decide +kernel
theorem d_law_783 : decode code 783 = .ok (.aload_n 0, 1) := by decide +kernel
theorem d_law_784 : decode code 784 = .ok (.iload 4, 2) := by decide +kernel
theorem d_law_786 : decode code 786 = .ok (.bipush 7, 2) := by decide +kernel
theorem d_law_788 : decode code 788 = .ok (.iadd, 1) := by decide +kernel
theorem d_law_789 : decode code 789 = .ok (.iaload, 1) := by decide +kernel
theorem d_law_790 : decode code 790 = .ok (.i2l, 1) := by decide +kernel
theorem d_law_791 : decode code 791 = .ok (.ldc2_w 98, 3) := by decide +kernel
theorem d_law_794 : decode code 794 = .ok (.land, 1) := by decide +kernel
theorem d_law_795 : decode code 795 = .ok (.lor, 1) := by decide +kernel
theorem d_law_796 : decode code 796 = .ok (.aload_n 0, 1) := by decide +kernel
theorem d_law_797 : decode code 797 = .ok (.iload 4, 2) := by decide +kernel
theorem d_law_799 : decode code 799 = .ok (.bipush 8, 2) := by decide +kernel
theorem d_law_801 : decode code 801 = .ok (.iadd, 1) := by decide +kernel
theorem d_law_802 : decode code 802 = .ok (.iaload, 1) := by decide +kernel
theorem d_law_803 : decode code 803 = .ok (.i2l, 1) := by decide +kernel
theorem d_law_804 : decode code 804 = .ok (.bipush 32, 2) := by decide +kernel
theorem d_law_806 : decode code 806 = .ok (.lshl, 1) := by decide +kernel
theorem d_law_807 : decode code 807 = .ok (.aload_n 0, 1) := by decide +kernel
theorem d_law_808 : decode code 808 = .ok (.iload 4, 2) := by decide +kernel
theorem d_law_810 : decode code 810 = .ok (.bipush 9, 2) := by decide +kernel
theorem d_law_812 : decode code 812 = .ok (.iadd, 1) := by decide +kernel
theorem d_law_813 : decode code 813 = .ok (.iaload, 1) := by decide +kernel
theorem d_law_814 : decode code 814 = .ok (.i2l, 1) := by decide +kernel
theorem d_law_815 : decode code 815 = .ok (.ldc2_w 98, 3) := by decide +kernel
theorem d_law_818 : decode code 818 = .ok (.land, 1) := by decide +kernel
theorem d_law_819 : decode code 819 = .ok (.lor, 1) := by decide +kernel
theorem d_law_820 : decode code 820 = .ok (.aload_n 3, 1) := by decide +kernel
theorem d_law_821 : decode code 821 = .ok (.invokestatic 113, 3) := by decide +kernel
theorem d_law_824 : decode code 824 = .ok (.istore 5, 2) := by decide +kernel
theorem d_law_826 : decode code 826 = .ok (.aload_n 2, 1) := by decide +kernel
theorem d_law_827 : decode code 827 = .ok (.aload_n 0, 1) := by decide +kernel
theorem d_law_828 : decode code 828 = .ok (.iload 4, 2) := by decide +kernel
theorem d_law_830 : decode code 830 = .ok (.iconst 1, 1) := by decide +kernel
theorem d_law_831 : decode code 831 = .ok (.iadd, 1) := by decide +kernel
theorem d_law_832 : decode code 832 = .ok (.iaload, 1) := by decide +kernel
theorem d_law_833 : decode code 833 = .ok (.aload_n 0, 1) := by decide +kernel
theorem d_law_834 : decode code 834 = .ok (.iload 4, 2) := by decide +kernel
theorem d_law_836 : decode code 836 = .ok (.iconst 2, 1) := by decide +kernel
theorem d_law_837 : decode code 837 = .ok (.iadd, 1) := by decide +kernel
theorem d_law_838 : decode code 838 = .ok (.iaload, 1) := by decide +kernel
theorem d_law_839 : decode code 839 = .ok (.i2l, 1) := by decide +kernel
theorem d_law_840 : decode code 840 = .ok (.bipush 32, 2) := by decide +kernel
theorem d_law_842 : decode code 842 = .ok (.lshl, 1) := by decide +kernel
theorem d_law_843 : decode code 843 = .ok (.aload_n 0, 1) := by decide +kernel
theorem d_law_844 : decode code 844 = .ok (.iload 4, 2) := by decide +kernel
theorem d_law_846 : decode code 846 = .ok (.iconst 3, 1) := by decide +kernel
theorem d_law_847 : decode code 847 = .ok (.iadd, 1) := by decide +kernel
theorem d_law_848 : decode code 848 = .ok (.iaload, 1) := by decide +kernel
theorem d_law_849 : decode code 849 = .ok (.i2l, 1) := by decide +kernel
theorem d_law_850 : decode code 850 = .ok (.ldc2_w 98, 3) := by decide +kernel
theorem d_law_853 : decode code 853 = .ok (.land, 1) := by decide +kernel
theorem d_law_854 : decode code 854 = .ok (.lor, 1) := by decide +kernel
theorem d_law_855 : decode code 855 = .ok (.aload_n 0, 1) := by decide +kernel
theorem d_law_856 : decode code 856 = .ok (.iload 4, 2) := by decide +kernel
theorem d_law_858 : decode code 858 = .ok (.iconst 4, 1) := by decide +kernel
theorem d_law_859 : decode code 859 = .ok (.iadd, 1) := by decide +kernel
theorem d_law_860 : decode code 860 = .ok (.iaload, 1) := by decide +kernel
theorem d_law_861 : decode code 861 = .ok (.i2l, 1) := by decide +kernel
theorem d_law_862 : decode code 862 = .ok (.bipush 32, 2) := by decide +kernel
theorem d_law_864 : decode code 864 = .ok (.lshl, 1) := by decide +kernel
theorem d_law_865 : decode code 865 = .ok (.aload_n 0, 1) := by decide +kernel
theorem d_law_866 : decode code 866 = .ok (.iload 4, 2) := by decide +kernel
theorem d_law_868 : decode code 868 = .ok (.iconst 5, 1) := by decide +kernel
theorem d_law_869 : decode code 869 = .ok (.iadd, 1) := by decide +kernel
theorem d_law_870 : decode code 870 = .ok (.iaload, 1) := by decide +kernel
theorem d_law_871 : decode code 871 = .ok (.i2l, 1) := by decide +kernel
theorem d_law_872 : decode code 872 = .ok (.ldc2_w 98, 3) := by decide +kernel
theorem d_law_875 : decode code 875 = .ok (.land, 1) := by decide +kernel
theorem d_law_876 : decode code 876 = .ok (.lor, 1) := by decide +kernel
theorem d_law_877 : decode code 877 = .ok (.aload_n 0, 1) := by decide +kernel
theorem d_law_878 : decode code 878 = .ok (.iload 4, 2) := by decide +kernel
theorem d_law_880 : decode code 880 = .ok (.bipush 6, 2) := by decide +kernel
theorem d_law_882 : decode code 882 = .ok (.iadd, 1) := by decide +kernel
theorem d_law_883 : decode code 883 = .ok (.iaload, 1) := by decide +kernel
theorem d_law_884 : decode code 884 = .ok (.i2l, 1) := by decide +kernel
theorem d_law_885 : decode code 885 = .ok (.bipush 32, 2) := by decide +kernel
theorem d_law_887 : decode code 887 = .ok (.lshl, 1) := by decide +kernel
theorem d_law_888 : decode code 888 = .ok (.aload_n 0, 1) := by decide +kernel
theorem d_law_889 : decode code 889 = .ok (.iload 4, 2) := by decide +kernel
theorem d_law_891 : decode code 891 = .ok (.bipush 7, 2) := by decide +kernel
theorem d_law_893 : decode code 893 = .ok (.iadd, 1) := by decide +kernel
theorem d_law_894 : decode code 894 = .ok (.iaload, 1) := by decide +kernel
theorem d_law_895 : decode code 895 = .ok (.i2l, 1) := by decide +kernel
theorem d_law_896 : decode code 896 = .ok (.ldc2_w 98, 3) := by decide +kernel
theorem d_law_899 : decode code 899 = .ok (.land, 1) := by decide +kernel
theorem d_law_900 : decode code 900 = .ok (.lor, 1) := by decide +kernel
theorem d_law_901 : decode code 901 = .ok (.aload_n 0, 1) := by decide +kernel
theorem d_law_902 : decode code 902 = .ok (.iload 4, 2) := by decide +kernel
theorem d_law_904 : decode code 904 = .ok (.bipush 8, 2) := by decide +kernel
theorem d_law_906 : decode code 906 = .ok (.iadd, 1) := by decide +kernel
theorem d_law_907 : decode code 907 = .ok (.iaload, 1) := by decide +kernel
theorem d_law_908 : decode code 908 = .ok (.i2l, 1) := by decide +kernel
theorem d_law_909 : decode code 909 = .ok (.bipush 32, 2) := by decide +kernel
theorem d_law_911 : decode code 911 = .ok (.lshl, 1) := by decide +kernel
theorem d_law_912 : decode code 912 = .ok (.aload_n 0, 1) := by decide +kernel
theorem d_law_913 : decode code 913 = .ok (.iload 4, 2) := by decide +kernel
theorem d_law_915 : decode code 915 = .ok (.bipush 9, 2) := by decide +kernel
theorem d_law_917 : decode code 917 = .ok (.iadd, 1) := by decide +kernel
theorem d_law_918 : decode code 918 = .ok (.iaload, 1) := by decide +kernel
theorem d_law_919 : decode code 919 = .ok (.i2l, 1) := by decide +kernel
theorem d_law_920 : decode code 920 = .ok (.ldc2_w 98, 3) := by decide +kernel
theorem d_law_923 : decode code 923 = .ok (.land, 1) := by decide +kernel
theorem d_law_924 : decode code 924 = .ok (.lor, 1) := by decide +kernel
theorem d_law_925 : decode code 925 = .ok (.invokevirtual 116, 3) := by decide +kernel
theorem d_law_928 : decode code 928 = .ok (.istore 6, 2) := by decide +kernel
theorem d_law_930 : decode code 930 = .ok (.goto 3, 3) := by decide +kernel
theorem d_law_933 : decode code 933 = .ok (.iinc 4 10, 3) := by decide +kernel
theorem d_law_936 : decode code 936 = .ok (.goto (-913), 3) := by decide +kernel
theorem d_law_939 : decode code 939 = .ok (.iconst 1, 1) := by decide +kernel
theorem d_law_940 : decode code 940 = .ok (.ireturn, 1) := by decide +kernel
