theorem d_law_770 : decode code 770 = .ok (.iconst 5, 1) := by decide +kernel
theorem d_law_771 : decode code 771 = .ok (.iadd, 1) := by decide +kernel
theorem d_law_772 : decode code 772 = .ok (.iaload, 1) := by decide +kernel
theorem d_law_773 : decode code 773 = .ok (.i2l, 1) := by decide +kernel
theorem d_law_774 : decode code 774 = .ok (.ldc2_w 101, 3) := by decide +kernel
theorem d_law_777 : decode code 777 = .ok (.land, 1) := by decide +kernel
theorem d_law_778 : decode code 778 = .ok (.lor, 1) := by decide +kernel
theorem d_law_779 : decode code 779 = .ok (.aload_n 0, 1) := by decide +kernel
theorem d_law_780 : decode code 780 = .ok (.iload 4, 2) := by decide +kernel
theorem d_law_782 : decode code 782 = .ok (.bipush 6, 2) := by decide +kernel
theorem d_law_784 : decode code 784 = .ok (.iadd, 1) := by decide +kernel
theorem d_law_785 : decode code 785 = .ok (.iaload, 1) := by decide +kernel
theorem d_law_786 : decode code 786 = .ok (.i2l, 1) := by decide +kernel
theorem d_law_787 : decode code 787 = .ok (.bipush 32, 2) := by decide +kernel
theorem d_law_789 : decode code 789 = .ok (.lshl, 1) := by decide +kernel
theorem d_law_790 : decode code 790 = .ok (.aload_n 0, 1) := by decide +kernel
theorem d_law_791 : decode code 791 = .ok (.iload 4, 2) := by decide +kernel
theorem d_law_793 : decode code 793 = .ok (.bipush 7, 2) := by decide +kernel
theorem d_law_795 : decode code 795 = .ok (.iadd, 1) := by decide +kernel
theorem d_law_796 : decode code 796 = .ok (.iaload, 1) := by decide +kernel
theorem d_law_797 : decode code 797 = .ok (.i2l, 1) := by decide +kernel
theorem d_law_798 : decode code 798 = .ok (.ldc2_w 101, 3) := by decide +kernel
theorem d_law_801 : decode code 801 = .ok (.land, 1) := by decide +kernel
theorem d_law_802 : decode code 802 = .ok (.lor, 1) := by decide +kernel
theorem d_law_803 : decode code 803 = .ok (.aload_n 0, 1) := by decide +kernel
theorem d_law_804 : decode code 804 = .ok (.iload 4, 2) := by decide +kernel
theorem d_law_806 : decode code 806 = .ok (.bipush 8, 2) := by decide +kernel
theorem d_law_808 : decode code 808 = .ok (.iadd, 1) := by decide +kernel
theorem d_law_809 : decode code 809 = .ok (.iaload, 1) := by decide +kernel
theorem d_law_810 : decode code 810 = .ok (.i2l, 1) := by decide +kernel
theorem d_law_811 : decode code 811 = .ok (.bipush 32, 2) := by decide +kernel
theorem d_law_813 : decode code 813 = .ok (.lshl, 1) := by decide +kernel
theorem d_law_814 : decode code 814 = .ok (.aload_n 0, 1) := by decide +kernel
theorem d_law_815 : decode code 815 = .ok (.iload 4, 2) := by decide +kernel
theorem d_law_817 : decode code 817 = .ok (.bipush 9, 2) := by decide +kernel
theorem d_law_819 : decode code 819 = .ok (.iadd, 1) := by decide +kernel
theorem d_law_820 : decode code 820 = .ok (.iaload, 1) := by decide +kernel
theorem d_law_821 : decode code 821 = .ok (.i2l, 1) := by decide +kernel
theorem d_law_822 : decode code 822 = .ok (.ldc2_w 101, 3) := by decide +kernel
theorem d_law_825 : decode code 825 = .ok (.land, 1) := by decide +kernel
theorem d_law_826 : decode code 826 = .ok (.lor, 1) := by decide +kernel
theorem d_law_827 : decode code 827 = .ok (.aload_n 3, 1) := by decide +kernel
theorem d_law_828 : decode code 828 = .ok (.invokestatic 113, 3) := by decide +kernel
theorem d_law_831 : decode code 831 = .ok (.istore 5, 2) := by decide +kernel
theorem d_law_833 : decode code 833 = .ok (.aload_n 2, 1) := by decide +kernel
theorem d_law_834 : decode code 834 = .ok (.aload_n 0, 1) := by decide +kernel
theorem d_law_835 : decode code 835 = .ok (.iload 4, 2) := by decide +kernel
theorem d_law_837 : decode code 837 = .ok (.iconst 1, 1) := by decide +kernel
theorem d_law_838 : decode code 838 = .ok (.iadd, 1) := by decide +kernel
theorem d_law_839 : decode code 839 = .ok (.iaload, 1) := by decide +kernel
theorem d_law_840 : decode code 840 = .ok (.aload_n 0, 1) := by decide +kernel
theorem d_law_841 : decode code 841 = .ok (.iload 4, 2) := by decide +kernel
theorem d_law_843 : decode code 843 = .ok (.iconst 2, 1) := by decide +kernel
theorem d_law_844 : decode code 844 = .ok (.iadd, 1) := by decide +kernel
theorem d_law_845 : decode code 845 = .ok (.iaload, 1) := by decide +kernel
theorem d_law_846 : decode code 846 = .ok (.i2l, 1) := by decide +kernel
theorem d_law_847 : decode code 847 = .ok (.bipush 32, 2) := by decide +kernel
theorem d_law_849 : decode code 849 = .ok (.lshl, 1) := by decide +kernel
theorem d_law_850 : decode code 850 = .ok (.aload_n 0, 1) := by decide +kernel
theorem d_law_851 : decode code 851 = .ok (.iload 4, 2) := by decide +kernel
theorem d_law_853 : decode code 853 = .ok (.iconst 3, 1) := by decide +kernel
theorem d_law_854 : decode code 854 = .ok (.iadd, 1) := by decide +kernel
theorem d_law_855 : decode code 855 = .ok (.iaload, 1) := by decide +kernel
theorem d_law_856 : decode code 856 = .ok (.i2l, 1) := by decide +kernel
theorem d_law_857 : decode code 857 = .ok (.ldc2_w 101, 3) := by decide +kernel
theorem d_law_860 : decode code 860 = .ok (.land, 1) := by decide +kernel
theorem d_law_861 : decode code 861 = .ok (.lor, 1) := by decide +kernel
theorem d_law_862 : decode code 862 = .ok (.aload_n 0, 1) := by decide +kernel
theorem d_law_863 : decode code 863 = .ok (.iload 4, 2) := by decide +kernel
theorem d_law_865 : decode code 865 = .ok (.iconst 4, 1) := by decide +kernel
theorem d_law_866 : decode code 866 = .ok (.iadd, 1) := by decide +kernel
theorem d_law_867 : decode code 867 = .ok (.iaload, 1) := by decide +kernel
theorem d_law_868 : decode code 868 = .ok (.i2l, 1) := by decide +kernel
theorem d_law_869 : decode code 869 = .ok (.bipush 32, 2) := by decide +kernel
theorem d_law_871 : decode code 871 = .ok (.lshl, 1) := by decide +kernel
theorem d_law_872 : decode code 872 = .ok (.aload_n 0, 1) := by decide +kernel
theorem d_law_873 : decode code 873 = .ok (.iload 4, 2) := by decide +kernel
theorem d_law_875 : decode code 875 = .ok (.iconst 5, 1) := by decide +kernel
theorem d_law_876 : decode code 876 = .ok (.iadd, 1) := by decide +kernel
theorem d_law_877 : decode code 877 = .ok (.iaload, 1) := by decide +kernel
theorem d_law_878 : decode code 878 = .ok (.i2l, 1) := by decide +kernel
theorem d_law_879 : decode code 879 = .ok (.ldc2_w 101, 3) := by decide +kernel
theorem d_law_882 : decode code 882 = .ok (.land, 1) := by decide +kernel
theorem d_law_883 : decode code 883 = .ok (.lor, 1) := by decide +kernel
theorem d_law_884 : decode code 884 = .ok (.aload_n 0, 1) := by decide +kernel
theorem d_law_885 : decode code 885 = .ok (.iload 4, 2) := by decide +kernel
theorem d_law_887 : decode code 887 = .ok (.bipush 6, 2) := by decide +kernel
theorem d_law_889 : decode code 889 = .ok (.iadd, 1) := by decide +kernel
theorem d_law_890 : decode code 890 = .ok (.iaload, 1) := by decide +kernel
theorem d_law_891 : decode code 891 = .ok (.i2l, 1) := by decide +kernel
theorem d_law_892 : decode code 892 = .ok (.bipush 32, 2) := by decide +kernel
theorem d_law_894 : decode code 894 = .ok (.lshl, 1) := by decide +kernel
theorem d_law_895 : decode code 895 = .ok (.aload_n 0, 1) := by decide +kernel
theorem d_law_896 : decode code 896 = .ok (.iload 4, 2) := by decide +kernel
theorem d_law_898 : decode code 898 = .ok (.bipush 7, 2) := by decide +kernel
theorem d_law_900 : decode code 900 = .ok (.iadd, 1) := by decide +kernel
theorem d_law_901 : decode code 901 = .ok (.iaload, 1) := by decide +kernel
theorem d_law_902 : decode code 902 = .ok (.i2l, 1) := by decide +kernel
theorem d_law_903 : decode code 903 = .ok (.ldc2_w 101, 3) := by decide +kernel
theorem d_law_906 : decode code 906 = .ok (.land, 1) := by decide +kernel
theorem d_law_907 : decode code 907 = .ok (.lor, 1) := by decide +kernel
theorem d_law_908 : decode code 908 = .ok (.aload_n 0, 1) := by decide +kernel
theorem d_law_909 : decode code 909 = .ok (.iload 4, 2) := by decide +kernel
theorem d_law_911 : decode code 911 = .ok (.bipush 8, 2) := by decide +kernel
theorem d_law_913 : decode code 913 = .ok (.iadd, 1) := by decide +kernel
theorem d_law_914 : decode code 914 = .ok (.iaload, 1) := by decide +kernel
theorem d_law_915 : decode code 915 = .ok (.i2l, 1) := by decide +kernel
theorem d_law_916 : decode code 916 = .ok (.bipush 32, 2) := by decide +kernel
theorem d_law_918 : decode code 918 = .ok (.lshl, 1) := by decide +kernel
theorem d_law_919 : decode code 919 = .ok (.aload_n 0, 1) := by decide +kernel
theorem d_law_920 : decode code 920 = .ok (.iload 4, 2) := by decide +kernel
theorem d_law_922 : decode code 922 = .ok (.bipush 9, 2) := by decide +kernel
theorem d_law_924 : decode code 924 = .ok (.iadd, 1) := by decide +kernel
theorem d_law_925 : decode code 925 = .ok (.iaload, 1) := by decide +kernel
theorem d_law_926 : decode code 926 = .ok (.i2l, 1) := by decide +kernel
theorem d_law_927 : decode code 927 = .ok (.ldc2_w 101, 3) := by decide +kernel
theorem d_law_930 : decode code 930 = .ok (.land, 1) := by decide +kernel
theorem d_law_931 : decode code 931 = .ok (.lor, 1) := by decide +kernel
theorem d_law_932 : decode code 932 = .ok (.invokevirtual 116, 3) := by decide +kernel
theorem d_law_935 : decode code 935 = .ok (.istore 6, 2) := by decide +kernel
theorem d_law_937 : decode code 937 = .ok (.goto 3, 3) := by decide +kernel
theorem d_law_940 : decode code 940 = .ok (.iinc 4 10, 3) := by decide +kernel
theorem d_law_943 : decode code 943 = .ok (.goto (-920), 3) := by decide +kernel
theorem d_law_946 : decode code 946 = .ok (.iconst 1, 1) := by decide +kernel
theorem d_law_947 : decode code 947 = .ok (.ireturn, 1) := by decide +kernel
