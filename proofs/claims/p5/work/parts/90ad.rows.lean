theorem d_law_762 : decode code 762 = .ok (.i2l, 1) := by decide +kernel
theorem d_law_763 : decode code 763 = .ok (.ldc2_w 98, 3) := by decide +kernel
theorem d_law_766 : decode code 766 = .ok (.land, 1) := by decide +kernel
theorem d_law_767 : decode code 767 = .ok (.lor, 1) := by decide +kernel
theorem d_law_768 : decode code 768 = .ok (.aload_n 0, 1) := by decide +kernel
theorem d_law_769 : decode code 769 = .ok (.iload 4, 2) := by decide +kernel
theorem d_law_771 : decode code 771 = .ok (.bipush 8, 2) := by decide +kernel
theorem d_law_773 : decode code 773 = .ok (.iadd, 1) := by decide +kernel
theorem d_law_774 : decode code 774 = .ok (.iaload, 1) := by decide +kernel
theorem d_law_775 : decode code 775 = .ok (.i2l, 1) := by decide +kernel
theorem d_law_776 : decode code 776 = .ok (.bipush 32, 2) := by decide +kernel
theorem d_law_778 : decode code 778 = .ok (.lshl, 1) := by decide +kernel
theorem d_law_779 : decode code 779 = .ok (.aload_n 0, 1) := by decide +kernel
theorem d_law_780 : decode code 780 = .ok (.iload 4, 2) := by decide +kernel
theorem d_law_782 : decode code 782 = .ok (.bipush 9, 2) := by decide +kernel
theorem d_law_784 : decode code 784 = .ok (.iadd, 1) := by decide +kernel
theorem d_law_785 : decode code 785 = .ok (.iaload, 1) := by decide +kernel
theorem d_law_786 : decode code 786 = .ok (.i2l, 1) := by decide +kernel
theorem d_law_787 : decode code 787 = .ok (.ldc2_w 98, 3) := by decide +kernel
theorem d_law_790 : decode code 790 = .ok (.land, 1) := by decide +kernel
theorem d_law_791 : decode code 791 = .ok (.lor, 1) := by decide +kernel
theorem d_law_792 : decode code 792 = .ok (.aload_n 3, 1) := by decide +kernel
theorem d_law_793 : decode code 793 = .ok (.invokestatic 110, 3) := by decide +kernel
theorem d_law_796 : decode code 796 = .ok (.istore 5, 2) := by decide +kernel
theorem d_law_798 : decode code 798 = .ok (.aload_n 2, 1) := by decide +kernel
theorem d_law_799 : decode code 799 = .ok (.aload_n 0, 1) := by decide +kernel
theorem d_law_800 : decode code 800 = .ok (.iload 4, 2) := by decide +kernel
theorem d_law_802 : decode code 802 = .ok (.iconst 1, 1) := by decide +kernel
theorem d_law_803 : decode code 803 = .ok (.iadd, 1) := by decide +kernel
theorem d_law_804 : decode code 804 = .ok (.iaload, 1) := by decide +kernel
theorem d_law_805 : decode code 805 = .ok (.aload_n 0, 1) := by decide +kernel
theorem d_law_806 : decode code 806 = .ok (.iload 4, 2) := by decide +kernel
theorem d_law_808 : decode code 808 = .ok (.iconst 2, 1) := by decide +kernel
theorem d_law_809 : decode code 809 = .ok (.iadd, 1) := by decide +kernel
theorem d_law_810 : decode code 810 = .ok (.iaload, 1) := by decide +kernel
theorem d_law_811 : decode code 811 = .ok (.i2l, 1) := by decide +kernel
theorem d_law_812 : decode code 812 = .ok (.bipush 32, 2) := by decide +kernel
theorem d_law_814 : decode code 814 = .ok (.lshl, 1) := by decide +kernel
theorem d_law_815 : decode code 815 = .ok (.aload_n 0, 1) := by decide +kernel
theorem d_law_816 : decode code 816 = .ok (.iload 4, 2) := by decide +kernel
theorem d_law_818 : decode code 818 = .ok (.iconst 3, 1) := by decide +kernel
theorem d_law_819 : decode code 819 = .ok (.iadd, 1) := by decide +kernel
theorem d_law_820 : decode code 820 = .ok (.iaload, 1) := by decide +kernel
theorem d_law_821 : decode code 821 = .ok (.i2l, 1) := by decide +kernel
theorem d_law_822 : decode code 822 = .ok (.ldc2_w 98, 3) := by decide +kernel
theorem d_law_825 : decode code 825 = .ok (.land, 1) := by decide +kernel
theorem d_law_826 : decode code 826 = .ok (.lor, 1) := by decide +kernel
theorem d_law_827 : decode code 827 = .ok (.aload_n 0, 1) := by decide +kernel
theorem d_law_828 : decode code 828 = .ok (.iload 4, 2) := by decide +kernel
theorem d_law_830 : decode code 830 = .ok (.iconst 4, 1) := by decide +kernel
theorem d_law_831 : decode code 831 = .ok (.iadd, 1) := by decide +kernel
theorem d_law_832 : decode code 832 = .ok (.iaload, 1) := by decide +kernel
theorem d_law_833 : decode code 833 = .ok (.i2l, 1) := by decide +kernel
theorem d_law_834 : decode code 834 = .ok (.bipush 32, 2) := by decide +kernel
theorem d_law_836 : decode code 836 = .ok (.lshl, 1) := by decide +kernel
theorem d_law_837 : decode code 837 = .ok (.aload_n 0, 1) := by decide +kernel
theorem d_law_838 : decode code 838 = .ok (.iload 4, 2) := by decide +kernel
theorem d_law_840 : decode code 840 = .ok (.iconst 5, 1) := by decide +kernel
theorem d_law_841 : decode code 841 = .ok (.iadd, 1) := by decide +kernel
theorem d_law_842 : decode code 842 = .ok (.iaload, 1) := by decide +kernel
theorem d_law_843 : decode code 843 = .ok (.i2l, 1) := by decide +kernel
theorem d_law_844 : decode code 844 = .ok (.ldc2_w 98, 3) := by decide +kernel
theorem d_law_847 : decode code 847 = .ok (.land, 1) := by decide +kernel
theorem d_law_848 : decode code 848 = .ok (.lor, 1) := by decide +kernel
theorem d_law_849 : decode code 849 = .ok (.aload_n 0, 1) := by decide +kernel
theorem d_law_850 : decode code 850 = .ok (.iload 4, 2) := by decide +kernel
theorem d_law_852 : decode code 852 = .ok (.bipush 6, 2) := by decide +kernel
theorem d_law_854 : decode code 854 = .ok (.iadd, 1) := by decide +kernel
theorem d_law_855 : decode code 855 = .ok (.iaload, 1) := by decide +kernel
theorem d_law_856 : decode code 856 = .ok (.i2l, 1) := by decide +kernel
theorem d_law_857 : decode code 857 = .ok (.bipush 32, 2) := by decide +kernel
theorem d_law_859 : decode code 859 = .ok (.lshl, 1) := by decide +kernel
theorem d_law_860 : decode code 860 = .ok (.aload_n 0, 1) := by decide +kernel
theorem d_law_861 : decode code 861 = .ok (.iload 4, 2) := by decide +kernel
theorem d_law_863 : decode code 863 = .ok (.bipush 7, 2) := by decide +kernel
theorem d_law_865 : decode code 865 = .ok (.iadd, 1) := by decide +kernel
theorem d_law_866 : decode code 866 = .ok (.iaload, 1) := by decide +kernel
theorem d_law_867 : decode code 867 = .ok (.i2l, 1) := by decide +kernel
theorem d_law_868 : decode code 868 = .ok (.ldc2_w 98, 3) := by decide +kernel
theorem d_law_871 : decode code 871 = .ok (.land, 1) := by decide +kernel
theorem d_law_872 : decode code 872 = .ok (.lor, 1) := by decide +kernel
theorem d_law_873 : decode code 873 = .ok (.aload_n 0, 1) := by decide +kernel
theorem d_law_874 : decode code 874 = .ok (.iload 4, 2) := by decide +kernel
theorem d_law_876 : decode code 876 = .ok (.bipush 8, 2) := by decide +kernel
theorem d_law_878 : decode code 878 = .ok (.iadd, 1) := by decide +kernel
theorem d_law_879 : decode code 879 = .ok (.iaload, 1) := by decide +kernel
theorem d_law_880 : decode code 880 = .ok (.i2l, 1) := by decide +kernel
theorem d_law_881 : decode code 881 = .ok (.bipush 32, 2) := by decide +kernel
theorem d_law_883 : decode code 883 = .ok (.lshl, 1) := by decide +kernel
theorem d_law_884 : decode code 884 = .ok (.aload_n 0, 1) := by decide +kernel
theorem d_law_885 : decode code 885 = .ok (.iload 4, 2) := by decide +kernel
theorem d_law_887 : decode code 887 = .ok (.bipush 9, 2) := by decide +kernel
theorem d_law_889 : decode code 889 = .ok (.iadd, 1) := by decide +kernel
theorem d_law_890 : decode code 890 = .ok (.iaload, 1) := by decide +kernel
theorem d_law_891 : decode code 891 = .ok (.i2l, 1) := by decide +kernel
theorem d_law_892 : decode code 892 = .ok (.ldc2_w 98, 3) := by decide +kernel
theorem d_law_895 : decode code 895 = .ok (.land, 1) := by decide +kernel
theorem d_law_896 : decode code 896 = .ok (.lor, 1) := by decide +kernel
theorem d_law_897 : decode code 897 = .ok (.invokevirtual 113, 3) := by decide +kernel
theorem d_law_900 : decode code 900 = .ok (.istore 6, 2) := by decide +kernel
theorem d_law_902 : decode code 902 = .ok (.goto 3, 3) := by decide +kernel
theorem d_law_905 : decode code 905 = .ok (.iinc 4 10, 3) := by decide +kernel
theorem d_law_908 : decode code 908 = .ok (.goto (-885), 3) := by decide +kernel
theorem d_law_911 : decode code 911 = .ok (.iconst 1, 1) := by decide +kernel
theorem d_law_912 : decode code 912 = .ok (.ireturn, 1) := by decide +kernel
