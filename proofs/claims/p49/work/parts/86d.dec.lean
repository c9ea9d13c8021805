theorem dL_lands_703 : decode cL_lands 703 = .ok (.aload_n 0, 1) := by decide +kernel
theorem dL_lands_704 : decode cL_lands 704 = .ok (.iconst 1, 1) := by decide +kernel
theorem dL_lands_705 : decode cL_lands 705 = .ok (.iconst 3, 1) := by decide +kernel
theorem dL_lands_706 : decode cL_lands 706 = .ok (.invokevirtual 115, 3) := by decide +kernel
theorem dL_lands_709 : decode cL_lands 709 = .ok (.iconst 4, 1) := by decide +kernel
theorem dL_lands_710 : decode cL_lands 710 = .ok (.if_icmp .ne 182, 3) := by decide +kernel
theorem dL_lands_713 : decode cL_lands 713 = .ok (.aload_n 0, 1) := by decide +kernel
theorem dL_lands_714 : decode cL_lands 714 = .ok (.iconst 1, 1) := by decide +kernel
theorem dL_lands_715 : decode cL_lands 715 = .ok (.iconst 2, 1) := by decide +kernel
theorem dL_lands_716 : decode cL_lands 716 = .ok (.invokevirtual 115, 3) := by decide +kernel
theorem dL_lands_719 : decode cL_lands 719 = .ok (.ifCond .ne 173, 3) := by decide +kernel
theorem dL_lands_722 : decode cL_lands 722 = .ok (.aload_n 0, 1) := by decide +kernel
theorem dL_lands_723 : decode cL_lands 723 = .ok (.iconst 3, 1) := by decide +kernel
theorem dL_lands_724 : decode cL_lands 724 = .ok (.invokevirtual 60, 3) := by decide +kernel
theorem dL_lands_727 : decode cL_lands 727 = .ok (.bipush 16, 2) := by decide +kernel
theorem dL_lands_729 : decode cL_lands 729 = .ok (.if_icmp .ne 163, 3) := by decide +kernel
theorem dL_lands_732 : decode cL_lands 732 = .ok (.aload_n 0, 1) := by decide +kernel
theorem dL_lands_733 : decode cL_lands 733 = .ok (.iconst 0, 1) := by decide +kernel
theorem dL_lands_734 : decode cL_lands 734 = .ok (.invokevirtual 45, 3) := by decide +kernel
theorem dL_lands_737 : decode cL_lands 737 = .ok (.bipush 10, 2) := by decide +kernel
theorem dL_lands_739 : decode cL_lands 739 = .ok (.if_icmp .ne 153, 3) := by decide +kernel
theorem dL_lands_742 : decode cL_lands 742 = .ok (.aload_n 0, 1) := by decide +kernel
theorem dL_lands_743 : decode cL_lands 743 = .ok (.iconst 3, 1) := by decide +kernel
theorem dL_lands_744 : decode cL_lands 744 = .ok (.invokevirtual 18, 3) := by decide +kernel
theorem dL_lands_747 : decode cL_lands 747 = .ok (.iconst 4, 1) := by decide +kernel
theorem dL_lands_748 : decode cL_lands 748 = .ok (.if_icmp .ne 144, 3) := by decide +kernel
theorem dL_lands_751 : decode cL_lands 751 = .ok (.aload_n 0, 1) := by decide +kernel
theorem dL_lands_752 : decode cL_lands 752 = .ok (.invokevirtual 128, 3) := by decide +kernel
theorem dL_lands_755 : decode cL_lands 755 = .ok (.bipush 16, 2) := by decide +kernel
theorem dL_lands_757 : decode cL_lands 757 = .ok (.if_icmp .ne 135, 3) := by decide +kernel
theorem dL_lands_760 : decode cL_lands 760 = .ok (.aload_n 0, 1) := by decide +kernel
theorem dL_lands_761 : decode cL_lands 761 = .ok (.invokevirtual 140, 3) := by decide +kernel
theorem dL_lands_764 : decode cL_lands 764 = .ok (.iconst 1, 1) := by decide +kernel
theorem dL_lands_765 : decode cL_lands 765 = .ok (.if_icmp .ne 127, 3) := by decide +kernel
theorem dL_lands_768 : decode cL_lands 768 = .ok (.aload_n 0, 1) := by decide +kernel
theorem dL_lands_769 : decode cL_lands 769 = .ok (.iconst 1, 1) := by decide +kernel
theorem dL_lands_770 : decode cL_lands 770 = .ok (.iconst 1, 1) := by decide +kernel
theorem dL_lands_771 : decode cL_lands 771 = .ok (.invokevirtual 72, 3) := by decide +kernel
theorem dL_lands_774 : decode cL_lands 774 = .ok (.ifCond .ne 118, 3) := by decide +kernel
theorem dL_lands_777 : decode cL_lands 777 = .ok (.aload_n 0, 1) := by decide +kernel
theorem dL_lands_778 : decode cL_lands 778 = .ok (.iconst 0, 1) := by decide +kernel
theorem dL_lands_779 : decode cL_lands 779 = .ok (.iconst 0, 1) := by decide +kernel
theorem dL_lands_780 : decode cL_lands 780 = .ok (.invokevirtual 79, 3) := by decide +kernel
theorem dL_lands_783 : decode cL_lands 783 = .ok (.iconst 2, 1) := by decide +kernel
theorem dL_lands_784 : decode cL_lands 784 = .ok (.if_icmp .ne 108, 3) := by decide +kernel
theorem dL_lands_787 : decode cL_lands 787 = .ok (.aload_n 0, 1) := by decide +kernel
theorem dL_lands_788 : decode cL_lands 788 = .ok (.iconst 1, 1) := by decide +kernel
theorem dL_lands_789 : decode cL_lands 789 = .ok (.invokevirtual 88, 3) := by decide +kernel
theorem dL_lands_792 : decode cL_lands 792 = .ok (.bipush 7, 2) := by decide +kernel
theorem dL_lands_794 : decode cL_lands 794 = .ok (.if_icmp .ne 98, 3) := by decide +kernel
theorem dL_lands_797 : decode cL_lands 797 = .ok (.aload_n 0, 1) := by decide +kernel
theorem dL_lands_798 : decode cL_lands 798 = .ok (.bipush 9, 2) := by decide +kernel
theorem dL_lands_800 : decode cL_lands 800 = .ok (.invokevirtual 32, 3) := by decide +kernel
theorem dL_lands_803 : decode cL_lands 803 = .ok (.iconst 1, 1) := by decide +kernel
theorem dL_lands_804 : decode cL_lands 804 = .ok (.if_icmp .ne 88, 3) := by decide +kernel
theorem dL_lands_807 : decode cL_lands 807 = .ok (.aload_n 0, 1) := by decide +kernel
theorem dL_lands_808 : decode cL_lands 808 = .ok (.iconst 1, 1) := by decide +kernel
theorem dL_lands_809 : decode cL_lands 809 = .ok (.invokevirtual 118, 3) := by decide +kernel
theorem dL_lands_812 : decode cL_lands 812 = .ok (.ifCond .ne 80, 3) := by decide +kernel
theorem dL_lands_815 : decode cL_lands 815 = .ok (.aload_n 0, 1) := by decide +kernel
theorem dL_lands_816 : decode cL_lands 816 = .ok (.bipush 9, 2) := by decide +kernel
theorem dL_lands_818 : decode cL_lands 818 = .ok (.invokevirtual 29, 3) := by decide +kernel
theorem dL_lands_821 : decode cL_lands 821 = .ok (.iconst 2, 1) := by decide +kernel
theorem dL_lands_822 : decode cL_lands 822 = .ok (.if_icmp .ne 70, 3) := by decide +kernel
theorem dL_lands_825 : decode cL_lands 825 = .ok (.aload_n 0, 1) := by decide +kernel
theorem dL_lands_826 : decode cL_lands 826 = .ok (.iconst 1, 1) := by decide +kernel
theorem dL_lands_827 : decode cL_lands 827 = .ok (.bipush 8, 2) := by decide +kernel
theorem dL_lands_829 : decode cL_lands 829 = .ok (.bipush 8, 2) := by decide +kernel
theorem dL_lands_831 : decode cL_lands 831 = .ok (.iconst 2, 1) := by decide +kernel
theorem dL_lands_832 : decode cL_lands 832 = .ok (.invokevirtual 26, 3) := by decide +kernel
theorem dL_lands_835 : decode cL_lands 835 = .ok (.bipush 36, 2) := by decide +kernel
theorem dL_lands_837 : decode cL_lands 837 = .ok (.if_icmp .ne 55, 3) := by decide +kernel
theorem dL_lands_840 : decode cL_lands 840 = .ok (.aload_n 0, 1) := by decide +kernel
theorem dL_lands_841 : decode cL_lands 841 = .ok (.iconst 1, 1) := by decide +kernel
theorem dL_lands_842 : decode cL_lands 842 = .ok (.invokevirtual 112, 3) := by decide +kernel
theorem dL_lands_845 : decode cL_lands 845 = .ok (.bipush 54, 2) := by decide +kernel
theorem dL_lands_847 : decode cL_lands 847 = .ok (.if_icmp .ne 45, 3) := by decide +kernel
theorem dL_lands_850 : decode cL_lands 850 = .ok (.aload_n 0, 1) := by decide +kernel
theorem dL_lands_851 : decode cL_lands 851 = .ok (.iconst 1, 1) := by decide +kernel
theorem dL_lands_852 : decode cL_lands 852 = .ok (.invokevirtual 88, 3) := by decide +kernel
theorem dL_lands_855 : decode cL_lands 855 = .ok (.bipush 8, 2) := by decide +kernel
theorem dL_lands_857 : decode cL_lands 857 = .ok (.if_icmp .ne 35, 3) := by decide +kernel
theorem dL_lands_860 : decode cL_lands 860 = .ok (.aload_n 0, 1) := by decide +kernel
theorem dL_lands_861 : decode cL_lands 861 = .ok (.iconst 1, 1) := by decide +kernel
theorem dL_lands_862 : decode cL_lands 862 = .ok (.invokevirtual 118, 3) := by decide +kernel
theorem dL_lands_865 : decode cL_lands 865 = .ok (.iconst 2, 1) := by decide +kernel
theorem dL_lands_866 : decode cL_lands 866 = .ok (.if_icmp .ne 26, 3) := by decide +kernel
theorem dL_lands_869 : decode cL_lands 869 = .ok (.aload_n 0, 1) := by decide +kernel
theorem dL_lands_870 : decode cL_lands 870 = .ok (.iconst 1, 1) := by decide +kernel
theorem dL_lands_871 : decode cL_lands 871 = .ok (.invokevirtual 109, 3) := by decide +kernel
theorem dL_lands_874 : decode cL_lands 874 = .ok (.aload_n 0, 1) := by decide +kernel
theorem dL_lands_875 : decode cL_lands 875 = .ok (.bipush 8, 2) := by decide +kernel
theorem dL_lands_877 : decode cL_lands 877 = .ok (.bipush 8, 2) := by decide +kernel
theorem dL_lands_879 : decode cL_lands 879 = .ok (.invokevirtual 82, 3) := by decide +kernel
theorem dL_lands_882 : decode cL_lands 882 = .ok (.if_icmp .ne 10, 3) := by decide +kernel
theorem dL_lands_885 : decode cL_lands 885 = .ok (.aload_n 0, 1) := by decide +kernel
theorem dL_lands_886 : decode cL_lands 886 = .ok (.invokestatic 196, 3) := by decide +kernel
theorem dL_lands_889 : decode cL_lands 889 = .ok (.ifCond .ne 5, 3) := by decide +kernel
theorem dL_lands_892 : decode cL_lands 892 = .ok (.iconst 0, 1) := by decide +kernel
theorem dL_lands_893 : decode cL_lands 893 = .ok (.ireturn, 1) := by decide +kernel
theorem dL_lands_894 : decode cL_lands 894 = .ok (.aload_n 0, 1) := by decide +kernel
theorem dL_lands_895 : decode cL_lands 895 = .ok (.invokevirtual 63, 3) := by decide +kernel
theorem dL_lands_898 : decode cL_lands 898 = .ok (.bipush 72, 2) := by decide +kernel
theorem dL_lands_900 : decode cL_lands 900 = .ok (.if_icmp .ne 167, 3) := by decide +kernel
theorem dL_lands_903 : decode cL_lands 903 = .ok (.aload_n 0, 1) := by decide +kernel
theorem dL_lands_904 : decode cL_lands 904 = .ok (.invokevirtual 143, 3) := by decide +kernel
theorem dL_lands_907 : decode cL_lands 907 = .ok (.iconst 2, 1) := by decide +kernel
theorem dL_lands_908 : decode cL_lands 908 = .ok (.if_icmp .ne 159, 3) := by decide +kernel
theorem dL_lands_911 : decode cL_lands 911 = .ok (.aload_n 0, 1) := by decide +kernel
theorem dL_lands_912 : decode cL_lands 912 = .ok (.iconst 1, 1) := by decide +kernel
theorem dL_lands_913 : decode cL_lands 913 = .ok (.invokevirtual 112, 3) := by decide +kernel
theorem dL_lands_916 : decode cL_lands 916 = .ok (.ifCond .ne 151, 3) := by decide +kernel
theorem dL_lands_919 : decode cL_lands 919 = .ok (.aload_n 0, 1) := by decide +kernel
theorem dL_lands_920 : decode cL_lands 920 = .ok (.iconst 2, 1) := by decide +kernel
theorem dL_lands_921 : decode cL_lands 921 = .ok (.invokevirtual 112, 3) := by decide +kernel
theorem dL_lands_924 : decode cL_lands 924 = .ok (.bipush 90, 2) := by decide +kernel
theorem dL_lands_926 : decode cL_lands 926 = .ok (.if_icmp .ne 141, 3) := by decide +kernel
theorem dL_lands_929 : decode cL_lands 929 = .ok (.aload_n 0, 1) := by decide +kernel
theorem dL_lands_930 : decode cL_lands 930 = .ok (.iconst 3, 1) := by decide +kernel
theorem dL_lands_931 : decode cL_lands 931 = .ok (.invokevirtual 112, 3) := by decide +kernel
theorem dL_lands_934 : decode cL_lands 934 = .ok (.bipush 58, 2) := by decide +kernel
theorem dL_lands_936 : decode cL_lands 936 = .ok (.if_icmp .ne 131, 3) := by decide +kernel
theorem dL_lands_939 : decode cL_lands 939 = .ok (.aload_n 0, 1) := by decide +kernel
theorem dL_lands_940 : decode cL_lands 940 = .ok (.iconst 0, 1) := by decide +kernel
theorem dL_lands_941 : decode cL_lands 941 = .ok (.invokevirtual 112, 3) := by decide +kernel
theorem dL_lands_944 : decode cL_lands 944 = .ok (.sipush 152, 3) := by decide +kernel
theorem dL_lands_947 : decode cL_lands 947 = .ok (.if_icmp .ne 120, 3) := by decide +kernel
theorem dL_lands_950 : decode cL_lands 950 = .ok (.aload_n 0, 1) := by decide +kernel
theorem dL_lands_951 : decode cL_lands 951 = .ok (.bipush 8, 2) := by decide +kernel
theorem dL_lands_953 : decode cL_lands 953 = .ok (.bipush 8, 2) := by decide +kernel
theorem dL_lands_955 : decode cL_lands 955 = .ok (.invokevirtual 72, 3) := by decide +kernel
theorem dL_lands_958 : decode cL_lands 958 = .ok (.ifCond .ne 109, 3) := by decide +kernel
theorem dL_lands_961 : decode cL_lands 961 = .ok (.aload_n 0, 1) := by decide +kernel
theorem dL_lands_962 : decode cL_lands 962 = .ok (.bipush 8, 2) := by decide +kernel
theorem dL_lands_964 : decode cL_lands 964 = .ok (.iconst 4, 1) := by decide +kernel
theorem dL_lands_965 : decode cL_lands 965 = .ok (.invokevirtual 72, 3) := by decide +kernel
theorem dL_lands_968 : decode cL_lands 968 = .ok (.ifCond .ne 99, 3) := by decide +kernel
theorem dL_lands_971 : decode cL_lands 971 = .ok (.aload_n 0, 1) := by decide +kernel
theorem dL_lands_972 : decode cL_lands 972 = .ok (.iconst 1, 1) := by decide +kernel
theorem dL_lands_973 : decode cL_lands 973 = .ok (.invokevirtual 88, 3) := by decide +kernel
theorem dL_lands_976 : decode cL_lands 976 = .ok (.bipush 6, 2) := by decide +kernel
theorem dL_lands_978 : decode cL_lands 978 = .ok (.if_icmp .ne 89, 3) := by decide +kernel
theorem dL_lands_981 : decode cL_lands 981 = .ok (.aload_n 0, 1) := by decide +kernel
theorem dL_lands_982 : decode cL_lands 982 = .ok (.invokevirtual 63, 3) := by decide +kernel
theorem dL_lands_985 : decode cL_lands 985 = .ok (.bipush 18, 2) := by decide +kernel
theorem dL_lands_987 : decode cL_lands 987 = .ok (.if_icmp .ne 80, 3) := by decide +kernel
theorem dL_lands_990 : decode cL_lands 990 = .ok (.aload_n 0, 1) := by decide +kernel
theorem dL_lands_991 : decode cL_lands 991 = .ok (.iconst 1, 1) := by decide +kernel
theorem dL_lands_992 : decode cL_lands 992 = .ok (.invokevirtual 88, 3) := by decide +kernel
theorem dL_lands_995 : decode cL_lands 995 = .ok (.ifCond .ne 72, 3) := by decide +kernel
theorem dL_lands_998 : decode cL_lands 998 = .ok (.aload_n 0, 1) := by decide +kernel
theorem dL_lands_999 : decode cL_lands 999 = .ok (.invokevirtual 143, 3) := by decide +kernel
theorem dL_lands_1002 : decode cL_lands 1002 = .ok (.bipush 8, 2) := by decide +kernel
theorem dL_lands_1004 : decode cL_lands 1004 = .ok (.if_icmp .ne 63, 3) := by decide +kernel
theorem dL_lands_1007 : decode cL_lands 1007 = .ok (.aload_n 0, 1) := by decide +kernel
theorem dL_lands_1008 : decode cL_lands 1008 = .ok (.iconst 0, 1) := by decide +kernel
theorem dL_lands_1009 : decode cL_lands 1009 = .ok (.invokevirtual 48, 3) := by decide +kernel
theorem dL_lands_1012 : decode cL_lands 1012 = .ok (.bipush 10, 2) := by decide +kernel
theorem dL_lands_1014 : decode cL_lands 1014 = .ok (.if_icmp .ne 53, 3) := by decide +kernel
theorem dL_lands_1017 : decode cL_lands 1017 = .ok (.aload_n 0, 1) := by decide +kernel
theorem dL_lands_1018 : decode cL_lands 1018 = .ok (.invokevirtual 140, 3) := by decide +kernel
theorem dL_lands_1021 : decode cL_lands 1021 = .ok (.ifCond .ne 46, 3) := by decide +kernel
theorem dL_lands_1024 : decode cL_lands 1024 = .ok (.aload_n 0, 1) := by decide +kernel
theorem dL_lands_1025 : decode cL_lands 1025 = .ok (.invokevirtual 134, 3) := by decide +kernel
theorem dL_lands_1028 : decode cL_lands 1028 = .ok (.iconst 1, 1) := by decide +kernel
theorem dL_lands_1029 : decode cL_lands 1029 = .ok (.if_icmp .ne 38, 3) := by decide +kernel
theorem dL_lands_1032 : decode cL_lands 1032 = .ok (.aload_n 0, 1) := by decide +kernel
theorem dL_lands_1033 : decode cL_lands 1033 = .ok (.iconst 0, 1) := by decide +kernel
theorem dL_lands_1034 : decode cL_lands 1034 = .ok (.iconst 0, 1) := by decide +kernel
theorem dL_lands_1035 : decode cL_lands 1035 = .ok (.bipush 16, 2) := by decide +kernel
theorem dL_lands_1037 : decode cL_lands 1037 = .ok (.iconst 5, 1) := by decide +kernel
theorem dL_lands_1038 : decode cL_lands 1038 = .ok (.invokevirtual 9, 3) := by decide +kernel
theorem dL_lands_1041 : decode cL_lands 1041 = .ok (.sipush 256, 3) := by decide +kernel
theorem dL_lands_1044 : decode cL_lands 1044 = .ok (.if_icmp .ne 23, 3) := by decide +kernel
theorem dL_lands_1047 : decode cL_lands 1047 = .ok (.aload_n 0, 1) := by decide +kernel
theorem dL_lands_1048 : decode cL_lands 1048 = .ok (.invokevirtual 128, 3) := by decide +kernel
theorem dL_lands_1051 : decode cL_lands 1051 = .ok (.iconst 1, 1) := by decide +kernel
theorem dL_lands_1052 : decode cL_lands 1052 = .ok (.if_icmp .ne 15, 3) := by decide +kernel
theorem dL_lands_1055 : decode cL_lands 1055 = .ok (.aload_n 0, 1) := by decide +kernel
theorem dL_lands_1056 : decode cL_lands 1056 = .ok (.iconst 5, 1) := by decide +kernel
theorem dL_lands_1057 : decode cL_lands 1057 = .ok (.invokevirtual 109, 3) := by decide +kernel
theorem dL_lands_1060 : decode cL_lands 1060 = .ok (.ifCond .ne 7, 3) := by decide +kernel
theorem dL_lands_1063 : decode cL_lands 1063 = .ok (.iconst 1, 1) := by decide +kernel
theorem dL_lands_1064 : decode cL_lands 1064 = .ok (.goto 4, 3) := by decide +kernel
theorem dL_lands_1067 : decode cL_lands 1067 = .ok (.iconst 0, 1) := by decide +kernel
theorem dL_lands_1068 : decode cL_lands 1068 = .ok (.ireturn, 1) := by decide +kernel
