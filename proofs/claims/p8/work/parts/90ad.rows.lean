theorem d_law_766 : decode code 766 = .ok (.ldc2_w 101, 3) := by decide +kernel
theorem d_law_769 : decode code 769 = .ok (.land, 1) := by decide +kernel
theorem d_law_770 : decode code 770 = .ok (.lor, 1) := by decide +kernel
theorem d_law_771 : decode code 771 = .ok (.aload_n 0, 1) := by decide +kernel
theorem d_law_772 : decode code 772 = .ok (.iload 4, 2) := by decide +kernel
theorem d_law_774 : decode code 774 = .ok (.bipush 6, 2) := by decide +kernel
theorem d_law_776 : decode code 776 = .ok (.iadd, 1) := by decide +kernel
theorem d_law_777 : decode code 777 = .ok (.iaload, 1) := by decide +kernel
theorem d_law_778 : decode code 778 = .ok (.i2l, 1) := by decide +kernel
theorem d_law_779 : decode code 779 = .ok (.bipush 32, 2) := by decide +kernel
theorem d_law_781 : decode code 781 = .ok (.lshl, 1) := by decide +kernel
theorem d_law_782 : decode code 782 = .ok (.aload_n 0, 1) := by decide +kernel
theorem d_law_783 : decode code 783 = .ok (.iload 4, 2) := by decide +kernel
theorem d_law_785 : decode code 785 = .ok (.bipush 7, 2) := by decide +kernel
theorem d_law_787 : decode code 787 = .ok (.iadd, 1) := by decide +kernel
theorem d_law_788 : decode code 788 = .ok (.iaload, 1) := by decide +kernel
theorem d_law_789 : decode code 789 = .ok (.i2l, 1) := by decide +kernel
theorem d_law_790 : decode code 790 = .ok (.ldc2_w 101, 3) := by decide +kernel
theorem d_law_793 : decode code 793 = .ok (.land, 1) := by decide +kernel
theorem d_law_794 : decode code 794 = .ok (.lor, 1) := by decide +kernel
theorem d_law_795 : decode code 795 = .ok (.aload_n 0, 1) := by decide +kernel
theorem d_law_796 : decode code 796 = .ok (.iload 4, 2) := by decide +kernel
theorem d_law_798 : decode code 798 = .ok (.bipush 8, 2) := by decide +kernel
theorem d_law_800 : decode code 800 = .ok (.iadd, 1) := by decide +kernel
theorem d_law_801 : decode code 801 = .ok (.iaload, 1) := by decide +kernel
theorem d_law_802 : decode code 802 = .ok (.i2l, 1) := by decide +kernel
theorem d_law_803 : decode code 803 = .ok (.bipush 32, 2) := by decide +kernel
theorem d_law_805 : decode code 805 = .ok (.lshl, 1) := by decide +kernel
theorem d_law_806 : decode code 806 = .ok (.aload_n 0, 1) := by decide +kernel
theorem d_law_807 : decode code 807 = .ok (.iload 4, 2) := by decide +kernel
theorem d_law_809 : decode code 809 = .ok (.bipush 9, 2) := by decide +kernel
theorem d_law_811 : decode code 811 = .ok (.iadd, 1) := by decide +kernel
theorem d_law_812 : decode code 812 = .ok (.iaload, 1) := by decide +kernel
theorem d_law_813 : decode code 813 = .ok (.i2l, 1) := by decide +kernel
theorem d_law_814 : decode code 814 = .ok (.ldc2_w 101, 3) := by decide +kernel
theorem d_law_817 : decode code 817 = .ok (.land, 1) := by decide +kernel
theorem d_law_818 : decode code 818 = .ok (.lor, 1) := by decide +kernel
theorem d_law_819 : decode code 819 = .ok (.aload_n 3, 1) := by decide +kernel
theorem d_law_820 : decode code 820 = .ok (.invokestatic 113, 3) := by decide +kernel
theorem d_law_823 : decode code 823 = .ok (.istore 5, 2) := by decide +kernel
theorem d_law_825 : decode code 825 = .ok (.aload_n 2, 1) := by decide +kernel
theorem d_law_826 : decode code 826 = .ok (.aload_n 0, 1) := by decide +kernel
theorem d_law_827 : decode code 827 = .ok (.iload 4, 2) := by decide +kernel
theorem d_law_829 : decode code 829 = .ok (.iconst 1, 1) := by decide +kernel
theorem d_law_830 : decode code 830 = .ok (.iadd, 1) := by decide +kernel
theorem d_law_831 : decode code 831 = .ok (.iaload, 1) := by decide +kernel
theorem d_law_832 : decode code 832 = .ok (.aload_n 0, 1) := by decide +kernel
theorem d_law_833 : decode code 833 = .ok (.iload 4, 2) := by decide +kernel
theorem d_law_835 : decode code 835 = .ok (.iconst 2, 1) := by decide +kernel
theorem d_law_836 : decode code 836 = .ok (.iadd, 1) := by decide +kernel
theorem d_law_837 : decode code 837 = .ok (.iaload, 1) := by decide +kernel
theorem d_law_838 : decode code 838 = .ok (.i2l, 1) := by decide +kernel
theorem d_law_839 : decode code 839 = .ok (.bipush 32, 2) := by decide +kernel
theorem d_law_841 : decode code 841 = .ok (.lshl, 1) := by decide +kernel
theorem d_law_842 : decode code 842 = .ok (.aload_n 0, 1) := by decide +kernel
theorem d_law_843 : decode code 843 = .ok (.iload 4, 2) := by decide +kernel
theorem d_law_845 : decode code 845 = .ok (.iconst 3, 1) := by decide +kernel
theorem d_law_846 : decode code 846 = .ok (.iadd, 1) := by decide +kernel
theorem d_law_847 : decode code 847 = .ok (.iaload, 1) := by decide +kernel
theorem d_law_848 : decode code 848 = .ok (.i2l, 1) := by decide +kernel
theorem d_law_849 : decode code 849 = .ok (.ldc2_w 101, 3) := by decide +kernel
theorem d_law_852 : decode code 852 = .ok (.land, 1) := by decide +kernel
theorem d_law_853 : decode code 853 = .ok (.lor, 1) := by decide +kernel
theorem d_law_854 : decode code 854 = .ok (.aload_n 0, 1) := by decide +kernel
theorem d_law_855 : decode code 855 = .ok (.iload 4, 2) := by decide +kernel
theorem d_law_857 : decode code 857 = .ok (.iconst 4, 1) := by decide +kernel
theorem d_law_858 : decode code 858 = .ok (.iadd, 1) := by decide +kernel
theorem d_law_859 : decode code 859 = .ok (.iaload, 1) := by decide +kernel
theorem d_law_860 : decode code 860 = .ok (.i2l, 1) := by decide +kernel
theorem d_law_861 : decode code 861 = .ok (.bipush 32, 2) := by decide +kernel
theorem d_law_863 : decode code 863 = .ok (.lshl, 1) := by decide +kernel
theorem d_law_864 : decode code 864 = .ok (.aload_n 0, 1) := by decide +kernel
theorem d_law_865 : decode code 865 = .ok (.iload 4, 2) := by decide +kernel
theorem d_law_867 : decode code 867 = .ok (.iconst 5, 1) := by decide +kernel
theorem d_law_868 : decode code 868 = .ok (.iadd, 1) := by decide +kernel
theorem d_law_869 : decode code 869 = .ok (.iaload, 1) := by decide +kernel
theorem d_law_870 : decode code 870 = .ok (.i2l, 1) := by decide +kernel
theorem d_law_871 : decode code 871 = .ok (.ldc2_w 101, 3) := by decide +kernel
theorem d_law_874 : decode code 874 = .ok (.land, 1) := by decide +kernel
theorem d_law_875 : decode code 875 = .ok (.lor, 1) := by decide +kernel
theorem d_law_876 : decode code 876 = .ok (.aload_n 0, 1) := by decide +kernel
theorem d_law_877 : decode code 877 = .ok (.iload 4, 2) := by decide +kernel
theorem d_law_879 : decode code 879 = .ok (.bipush 6, 2) := by decide +kernel
theorem d_law_881 : decode code 881 = .ok (.iadd, 1) := by decide +kernel
theorem d_law_882 : decode code 882 = .ok (.iaload, 1) := by decide +kernel
theorem d_law_883 : decode code 883 = .ok (.i2l, 1) := by decide +kernel
theorem d_law_884 : decode code 884 = .ok (.bipush 32, 2) := by decide +kernel
theorem d_law_886 : decode code 886 = .ok (.lshl, 1) := by decide +kernel
theorem d_law_887 : decode code 887 = .ok (.aload_n 0, 1) := by decide +kernel
theorem d_law_888 : decode code 888 = .ok (.iload 4, 2) := by decide +kernel
theorem d_law_890 : decode code 890 = .ok (.bipush 7, 2) := by decide +kernel
theorem d_law_892 : decode code 892 = .ok (.iadd, 1) := by decide +kernel
theorem d_law_893 : decode code 893 = .ok (.iaload, 1) := by decide +kernel
theorem d_law_894 : decode code 894 = .ok (.i2l, 1) := by decide +kernel
theorem d_law_895 : decode code 895 = .ok (.ldc2_w 101, 3) := by decide +kernel
theorem d_law_898 : decode code 898 = .ok (.land, 1) := by decide +kernel
theorem d_law_899 : decode code 899 = .ok (.lor, 1) := by decide +kernel
theorem d_law_900 : decode code 900 = .ok (.aload_n 0, 1) := by decide +kernel
theorem d_law_901 : decode code 901 = .ok (.iload 4, 2) := by decide +kernel
theorem d_law_903 : decode code 903 = .ok (.bipush 8, 2) := by decide +kernel
theorem d_law_905 : decode code 905 = .ok (.iadd, 1) := by decide +kernel
theorem d_law_906 : decode code 906 = .ok (.iaload, 1) := by decide +kernel
theorem d_law_907 : decode code 907 = .ok (.i2l, 1) := by decide +kernel
theorem d_law_908 : decode code 908 = .ok (.bipush 32, 2) := by decide +kernel
theorem d_law_910 : decode code 910 = .ok (.lshl, 1) := by decide +kernel
theorem d_law_911 : decode code 911 = .ok (.aload_n 0, 1) := by decide +kernel
theorem d_law_912 : decode code 912 = .ok (.iload 4, 2) := by decide +kernel
theorem d_law_914 : decode code 914 = .ok (.bipush 9, 2) := by decide +kernel
theorem d_law_916 : decode code 916 = .ok (.iadd, 1) := by decide +kernel
theorem d_law_917 : decode code 917 = .ok (.iaload, 1) := by decide +kernel
theorem d_law_918 : decode code 918 = .ok (.i2l, 1) := by decide +kernel
theorem d_law_919 : decode code 919 = .ok (.ldc2_w 101, 3) := by decide +kernel
theorem d_law_922 : decode code 922 = .ok (.land, 1) := by decide +kernel
theorem d_law_923 : decode code 923 = .ok (.lor, 1) := by decide +kernel
theorem d_law_924 : decode code 924 = .ok (.invokevirtual 116, 3) := by decide +kernel
theorem d_law_927 : decode code 927 = .ok (.istore 6, 2) := by decide +kernel
theorem d_law_929 : decode code 929 = .ok (.goto 3, 3) := by decide +kernel
theorem d_law_932 : decode code 932 = .ok (.iinc 4 10, 3) := by decide +kernel
theorem d_law_935 : decode code 935 = .ok (.goto (-912), 3) := by decide +kernel
theorem d_law_938 : decode code 938 = .ok (.iconst 1, 1) := by decide +kernel
theorem d_law_939 : decode code 939 = .ok (.ireturn, 1) := by decide +kernel
