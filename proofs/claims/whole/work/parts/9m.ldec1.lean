theorem dL_law_771 : decode cL_law 771 = .ok (.iconst 2, 1) := by decide +kernel
theorem dL_law_772 : decode cL_law 772 = .ok (.iadd, 1) := by decide +kernel
theorem dL_law_773 : decode cL_law 773 = .ok (.iaload, 1) := by decide +kernel
theorem dL_law_774 : decode cL_law 774 = .ok (.aload_n 3, 1) := by decide +kernel
theorem dL_law_775 : decode cL_law 775 = .ok (.invokestatic 97, 3) := by decide +kernel
theorem dL_law_778 : decode cL_law 778 = .ok (.istore 5, 2) := by decide +kernel
theorem dL_law_780 : decode cL_law 780 = .ok (.aload_n 2, 1) := by decide +kernel
theorem dL_law_781 : decode cL_law 781 = .ok (.aload_n 0, 1) := by decide +kernel
theorem dL_law_782 : decode cL_law 782 = .ok (.iload 4, 2) := by decide +kernel
theorem dL_law_784 : decode cL_law 784 = .ok (.iconst 1, 1) := by decide +kernel
theorem dL_law_785 : decode cL_law 785 = .ok (.iadd, 1) := by decide +kernel
theorem dL_law_786 : decode cL_law 786 = .ok (.iaload, 1) := by decide +kernel
theorem dL_law_787 : decode cL_law 787 = .ok (.aload_n 0, 1) := by decide +kernel
theorem dL_law_788 : decode cL_law 788 = .ok (.iload 4, 2) := by decide +kernel
theorem dL_law_790 : decode cL_law 790 = .ok (.iconst 2, 1) := by decide +kernel
theorem dL_law_791 : decode cL_law 791 = .ok (.iadd, 1) := by decide +kernel
theorem dL_law_792 : decode cL_law 792 = .ok (.iaload, 1) := by decide +kernel
theorem dL_law_793 : decode cL_law 793 = .ok (.invokevirtual 102, 3) := by decide +kernel
theorem dL_law_796 : decode cL_law 796 = .ok (.istore 6, 2) := by decide +kernel
theorem dL_law_798 : decode cL_law 798 = .ok (.aload_n 2, 1) := by decide +kernel
theorem dL_law_799 : decode cL_law 799 = .ok (.invokevirtual 103, 3) := by decide +kernel
theorem dL_law_802 : decode cL_law 802 = .ok (.iload 5, 2) := by decide +kernel
theorem dL_law_804 : decode cL_law 804 = .ok (.if_icmp .eq 5, 3) := by decide +kernel
theorem dL_law_807 : decode cL_law 807 = .ok (.iconst 0, 1) := by decide +kernel
theorem dL_law_808 : decode cL_law 808 = .ok (.ireturn, 1) := by decide +kernel
theorem dL_law_809 : decode cL_law 809 = .ok (.iload 5, 2) := by decide +kernel
theorem dL_law_811 : decode cL_law 811 = .ok (.ifCond .ne 15, 3) := by decide +kernel
theorem dL_law_814 : decode cL_law 814 = .ok (.aload_n 3, 1) := by decide +kernel
theorem dL_law_815 : decode cL_law 815 = .ok (.iconst 0, 1) := by decide +kernel
theorem dL_law_816 : decode cL_law 816 = .ok (.laload, 1) := by decide +kernel
theorem dL_law_817 : decode cL_law 817 = .ok (.iload 6, 2) := by decide +kernel
theorem dL_law_819 : decode cL_law 819 = .ok (.i2l, 1) := by decide +kernel
theorem dL_law_820 : decode cL_law 820 = .ok (.lcmp, 1) := by decide +kernel
theorem dL_law_821 : decode cL_law 821 = .ok (.ifCond .eq 5, 3) := by decide +kernel
theorem dL_law_824 : decode cL_law 824 = .ok (.iconst 0, 1) := by decide +kernel
theorem dL_law_825 : decode cL_law 825 = .ok (.ireturn, 1) := by decide +kernel
theorem dL_law_826 : decode cL_law 826 = .ok (.goto 594, 3) := by decide +kernel
theorem dL_law_829 : decode cL_law 829 = .ok (.aload_n 1, 1) := by decide +kernel
theorem dL_law_830 : decode cL_law 830 = .ok (.aload_n 0, 1) := by decide +kernel
theorem dL_law_831 : decode cL_law 831 = .ok (.iload 4, 2) := by decide +kernel
theorem dL_law_833 : decode cL_law 833 = .ok (.iconst 1, 1) := by decide +kernel
theorem dL_law_834 : decode cL_law 834 = .ok (.iadd, 1) := by decide +kernel
theorem dL_law_835 : decode cL_law 835 = .ok (.iaload, 1) := by decide +kernel
theorem dL_law_836 : decode cL_law 836 = .ok (.aload_n 0, 1) := by decide +kernel
theorem dL_law_837 : decode cL_law 837 = .ok (.iload 4, 2) := by decide +kernel
theorem dL_law_839 : decode cL_law 839 = .ok (.iconst 2, 1) := by decide +kernel
theorem dL_law_840 : decode cL_law 840 = .ok (.iadd, 1) := by decide +kernel
theorem dL_law_841 : decode cL_law 841 = .ok (.iaload, 1) := by decide +kernel
theorem dL_law_842 : decode cL_law 842 = .ok (.invokevirtual 106, 3) := by decide +kernel
theorem dL_law_845 : decode cL_law 845 = .ok (.aload_n 2, 1) := by decide +kernel
theorem dL_law_846 : decode cL_law 846 = .ok (.aload_n 0, 1) := by decide +kernel
theorem dL_law_847 : decode cL_law 847 = .ok (.iload 4, 2) := by decide +kernel
theorem dL_law_849 : decode cL_law 849 = .ok (.iconst 1, 1) := by decide +kernel
theorem dL_law_850 : decode cL_law 850 = .ok (.iadd, 1) := by decide +kernel
theorem dL_law_851 : decode cL_law 851 = .ok (.iaload, 1) := by decide +kernel
theorem dL_law_852 : decode cL_law 852 = .ok (.aload_n 0, 1) := by decide +kernel
theorem dL_law_853 : decode cL_law 853 = .ok (.iload 4, 2) := by decide +kernel
theorem dL_law_855 : decode cL_law 855 = .ok (.iconst 2, 1) := by decide +kernel
theorem dL_law_856 : decode cL_law 856 = .ok (.iadd, 1) := by decide +kernel
theorem dL_law_857 : decode cL_law 857 = .ok (.iaload, 1) := by decide +kernel
theorem dL_law_858 : decode cL_law 858 = .ok (.invokevirtual 109, 3) := by decide +kernel
theorem dL_law_861 : decode cL_law 861 = .ok (.if_icmp .eq 559, 3) := by decide +kernel
theorem dL_law_864 : decode cL_law 864 = .ok (.iconst 0, 1) := by decide +kernel
theorem dL_law_865 : decode cL_law 865 = .ok (.ireturn, 1) := by decide +kernel
theorem dL_law_866 : decode cL_law 866 = .ok (.aload_n 1, 1) := by decide +kernel
theorem dL_law_867 : decode cL_law 867 = .ok (.invokevirtual 110, 3) := by decide +kernel
theorem dL_law_870 : decode cL_law 870 = .ok (.aload_n 2, 1) := by decide +kernel
theorem dL_law_871 : decode cL_law 871 = .ok (.invokevirtual 113, 3) := by decide +kernel
theorem dL_law_874 : decode cL_law 874 = .ok (.if_icmp .eq 546, 3) := by decide +kernel
theorem dL_law_877 : decode cL_law 877 = .ok (.iconst 0, 1) := by decide +kernel
theorem dL_law_878 : decode cL_law 878 = .ok (.ireturn, 1) := by decide +kernel
theorem dL_law_879 : decode cL_law 879 = .ok (.aload_n 1, 1) := by decide +kernel
theorem dL_law_880 : decode cL_law 880 = .ok (.aload_n 0, 1) := by decide +kernel
theorem dL_law_881 : decode cL_law 881 = .ok (.iload 4, 2) := by decide +kernel
theorem dL_law_883 : decode cL_law 883 = .ok (.iconst 1, 1) := by decide +kernel
theorem dL_law_884 : decode cL_law 884 = .ok (.iadd, 1) := by decide +kernel
theorem dL_law_885 : decode cL_law 885 = .ok (.iaload, 1) := by decide +kernel
theorem dL_law_886 : decode cL_law 886 = .ok (.invokevirtual 114, 3) := by decide +kernel
theorem dL_law_889 : decode cL_law 889 = .ok (.aload_n 2, 1) := by decide +kernel
theorem dL_law_890 : decode cL_law 890 = .ok (.aload_n 0, 1) := by decide +kernel
theorem dL_law_891 : decode cL_law 891 = .ok (.iload 4, 2) := by decide +kernel
theorem dL_law_893 : decode cL_law 893 = .ok (.iconst 1, 1) := by decide +kernel
theorem dL_law_894 : decode cL_law 894 = .ok (.iadd, 1) := by decide +kernel
theorem dL_law_895 : decode cL_law 895 = .ok (.iaload, 1) := by decide +kernel
theorem dL_law_896 : decode cL_law 896 = .ok (.invokevirtual 117, 3) := by decide +kernel
theorem dL_law_899 : decode cL_law 899 = .ok (.if_icmp .eq 521, 3) := by decide +kernel
theorem dL_law_902 : decode cL_law 902 = .ok (.iconst 0, 1) := by decide +kernel
theorem dL_law_903 : decode cL_law 903 = .ok (.ireturn, 1) := by decide +kernel
theorem dL_law_904 : decode cL_law 904 = .ok (.aload_n 1, 1) := by decide +kernel
theorem dL_law_905 : decode cL_law 905 = .ok (.aload_n 0, 1) := by decide +kernel
theorem dL_law_906 : decode cL_law 906 = .ok (.iload 4, 2) := by decide +kernel
theorem dL_law_908 : decode cL_law 908 = .ok (.iconst 1, 1) := by decide +kernel
theorem dL_law_909 : decode cL_law 909 = .ok (.iadd, 1) := by decide +kernel
theorem dL_law_910 : decode cL_law 910 = .ok (.iaload, 1) := by decide +kernel
theorem dL_law_911 : decode cL_law 911 = .ok (.invokevirtual 118, 3) := by decide +kernel
theorem dL_law_914 : decode cL_law 914 = .ok (.aload_n 2, 1) := by decide +kernel
theorem dL_law_915 : decode cL_law 915 = .ok (.aload_n 0, 1) := by decide +kernel
theorem dL_law_916 : decode cL_law 916 = .ok (.iload 4, 2) := by decide +kernel
theorem dL_law_918 : decode cL_law 918 = .ok (.iconst 1, 1) := by decide +kernel
theorem dL_law_919 : decode cL_law 919 = .ok (.iadd, 1) := by decide +kernel
theorem dL_law_920 : decode cL_law 920 = .ok (.iaload, 1) := by decide +kernel
theorem dL_law_921 : decode cL_law 921 = .ok (.invokevirtual 121, 3) := by decide +kernel
theorem dL_law_924 : decode cL_law 924 = .ok (.if_icmp .eq 496, 3) := by decide +kernel
theorem dL_law_927 : decode cL_law 927 = .ok (.iconst 0, 1) := by decide +kernel
theorem dL_law_928 : decode cL_law 928 = .ok (.ireturn, 1) := by decide +kernel
theorem dL_law_929 : decode cL_law 929 = .ok (.aload_n 1, 1) := by decide +kernel
theorem dL_law_930 : decode cL_law 930 = .ok (.invokevirtual 122, 3) := by decide +kernel
theorem dL_law_933 : decode cL_law 933 = .ok (.aload_n 2, 1) := by decide +kernel
theorem dL_law_934 : decode cL_law 934 = .ok (.invokevirtual 125, 3) := by decide +kernel
theorem dL_law_937 : decode cL_law 937 = .ok (.if_icmp .eq 483, 3) := by decide +kernel
theorem dL_law_940 : decode cL_law 940 = .ok (.iconst 0, 1) := by decide +kernel
theorem dL_law_941 : decode cL_law 941 = .ok (.ireturn, 1) := by decide +kernel
theorem dL_law_942 : decode cL_law 942 = .ok (.aload_n 1, 1) := by decide +kernel
theorem dL_law_943 : decode cL_law 943 = .ok (.aload_n 0, 1) := by decide +kernel
theorem dL_law_944 : decode cL_law 944 = .ok (.iload 4, 2) := by decide +kernel
theorem dL_law_946 : decode cL_law 946 = .ok (.iconst 1, 1) := by decide +kernel
theorem dL_law_947 : decode cL_law 947 = .ok (.iadd, 1) := by decide +kernel
theorem dL_law_948 : decode cL_law 948 = .ok (.iaload, 1) := by decide +kernel
theorem dL_law_949 : decode cL_law 949 = .ok (.invokevirtual 126, 3) := by decide +kernel
theorem dL_law_952 : decode cL_law 952 = .ok (.aload_n 2, 1) := by decide +kernel
theorem dL_law_953 : decode cL_law 953 = .ok (.aload_n 0, 1) := by decide +kernel
theorem dL_law_954 : decode cL_law 954 = .ok (.iload 4, 2) := by decide +kernel
theorem dL_law_956 : decode cL_law 956 = .ok (.iconst 1, 1) := by decide +kernel
theorem dL_law_957 : decode cL_law 957 = .ok (.iadd, 1) := by decide +kernel
theorem dL_law_958 : decode cL_law 958 = .ok (.iaload, 1) := by decide +kernel
theorem dL_law_959 : decode cL_law 959 = .ok (.invokevirtual 129, 3) := by decide +kernel
theorem dL_law_962 : decode cL_law 962 = .ok (.if_icmp .eq 458, 3) := by decide +kernel
theorem dL_law_965 : decode cL_law 965 = .ok (.iconst 0, 1) := by decide +kernel
theorem dL_law_966 : decode cL_law 966 = .ok (.ireturn, 1) := by decide +kernel
theorem dL_law_967 : decode cL_law 967 = .ok (.aload_n 1, 1) := by decide +kernel
theorem dL_law_968 : decode cL_law 968 = .ok (.aload_n 0, 1) := by decide +kernel
theorem dL_law_969 : decode cL_law 969 = .ok (.iload 4, 2) := by decide +kernel
theorem dL_law_971 : decode cL_law 971 = .ok (.iconst 1, 1) := by decide +kernel
theorem dL_law_972 : decode cL_law 972 = .ok (.iadd, 1) := by decide +kernel
theorem dL_law_973 : decode cL_law 973 = .ok (.iaload, 1) := by decide +kernel
theorem dL_law_974 : decode cL_law 974 = .ok (.invokevirtual 130, 3) := by decide +kernel
theorem dL_law_977 : decode cL_law 977 = .ok (.aload_n 2, 1) := by decide +kernel
theorem dL_law_978 : decode cL_law 978 = .ok (.aload_n 0, 1) := by decide +kernel
theorem dL_law_979 : decode cL_law 979 = .ok (.iload 4, 2) := by decide +kernel
theorem dL_law_981 : decode cL_law 981 = .ok (.iconst 1, 1) := by decide +kernel
theorem dL_law_982 : decode cL_law 982 = .ok (.iadd, 1) := by decide +kernel
theorem dL_law_983 : decode cL_law 983 = .ok (.iaload, 1) := by decide +kernel
theorem dL_law_984 : decode cL_law 984 = .ok (.invokevirtual 133, 3) := by decide +kernel
theorem dL_law_987 : decode cL_law 987 = .ok (.if_icmp .eq 433, 3) := by decide +kernel
theorem dL_law_990 : decode cL_law 990 = .ok (.iconst 0, 1) := by decide +kernel
theorem dL_law_991 : decode cL_law 991 = .ok (.ireturn, 1) := by decide +kernel
theorem dL_law_992 : decode cL_law 992 = .ok (.aload_n 1, 1) := by decide +kernel
theorem dL_law_993 : decode cL_law 993 = .ok (.aload_n 0, 1) := by decide +kernel
theorem dL_law_994 : decode cL_law 994 = .ok (.iload 4, 2) := by decide +kernel
theorem dL_law_996 : decode cL_law 996 = .ok (.iconst 1, 1) := by decide +kernel
theorem dL_law_997 : decode cL_law 997 = .ok (.iadd, 1) := by decide +kernel
theorem dL_law_998 : decode cL_law 998 = .ok (.iaload, 1) := by decide +kernel
theorem dL_law_999 : decode cL_law 999 = .ok (.invokevirtual 134, 3) := by decide +kernel
theorem dL_law_1002 : decode cL_law 1002 = .ok (.aload_n 2, 1) := by decide +kernel
theorem dL_law_1003 : decode cL_law 1003 = .ok (.aload_n 0, 1) := by decide +kernel
theorem dL_law_1004 : decode cL_law 1004 = .ok (.iload 4, 2) := by decide +kernel
theorem dL_law_1006 : decode cL_law 1006 = .ok (.iconst 1, 1) := by decide +kernel
theorem dL_law_1007 : decode cL_law 1007 = .ok (.iadd, 1) := by decide +kernel
theorem dL_law_1008 : decode cL_law 1008 = .ok (.iaload, 1) := by decide +kernel
theorem dL_law_1009 : decode cL_law 1009 = .ok (.invokevirtual 137, 3) := by decide +kernel
theorem dL_law_1012 : decode cL_law 1012 = .ok (.if_icmp .eq 408, 3) := by decide +kernel
theorem dL_law_1015 : decode cL_law 1015 = .ok (.iconst 0, 1) := by decide +kernel
theorem dL_law_1016 : decode cL_law 1016 = .ok (.ireturn, 1) := by decide +kernel
theorem dL_law_1017 : decode cL_law 1017 = .ok (.aload_n 1, 1) := by decide +kernel
theorem dL_law_1018 : decode cL_law 1018 = .ok (.aload_n 0, 1) := by decide +kernel
theorem dL_law_1019 : decode cL_law 1019 = .ok (.iload 4, 2) := by decide +kernel
theorem dL_law_1021 : decode cL_law 1021 = .ok (.iconst 1, 1) := by decide +kernel
theorem dL_law_1022 : decode cL_law 1022 = .ok (.iadd, 1) := by decide +kernel
theorem dL_law_1023 : decode cL_law 1023 = .ok (.iaload, 1) := by decide +kernel
theorem dL_law_1024 : decode cL_law 1024 = .ok (.aload_n 0, 1) := by decide +kernel
theorem dL_law_1025 : decode cL_law 1025 = .ok (.iload 4, 2) := by decide +kernel
theorem dL_law_1027 : decode cL_law 1027 = .ok (.iconst 2, 1) := by decide +kernel
theorem dL_law_1028 : decode cL_law 1028 = .ok (.iadd, 1) := by decide +kernel
theorem dL_law_1029 : decode cL_law 1029 = .ok (.iaload, 1) := by decide +kernel
theorem dL_law_1030 : decode cL_law 1030 = .ok (.aload_n 0, 1) := by decide +kernel
theorem dL_law_1031 : decode cL_law 1031 = .ok (.iload 4, 2) := by decide +kernel
theorem dL_law_1033 : decode cL_law 1033 = .ok (.iconst 3, 1) := by decide +kernel
theorem dL_law_1034 : decode cL_law 1034 = .ok (.iadd, 1) := by decide +kernel
theorem dL_law_1035 : decode cL_law 1035 = .ok (.iaload, 1) := by decide +kernel
theorem dL_law_1036 : decode cL_law 1036 = .ok (.aload_n 0, 1) := by decide +kernel
theorem dL_law_1037 : decode cL_law 1037 = .ok (.iload 4, 2) := by decide +kernel
theorem dL_law_1039 : decode cL_law 1039 = .ok (.iconst 4, 1) := by decide +kernel
theorem dL_law_1040 : decode cL_law 1040 = .ok (.iadd, 1) := by decide +kernel
theorem dL_law_1041 : decode cL_law 1041 = .ok (.iaload, 1) := by decide +kernel
theorem dL_law_1042 : decode cL_law 1042 = .ok (.invokevirtual 138, 3) := by decide +kernel
theorem dL_law_1045 : decode cL_law 1045 = .ok (.aload_n 2, 1) := by decide +kernel
theorem dL_law_1046 : decode cL_law 1046 = .ok (.aload_n 0, 1) := by decide +kernel
theorem dL_law_1047 : decode cL_law 1047 = .ok (.iload 4, 2) := by decide +kernel
theorem dL_law_1049 : decode cL_law 1049 = .ok (.iconst 1, 1) := by decide +kernel
theorem dL_law_1050 : decode cL_law 1050 = .ok (.iadd, 1) := by decide +kernel
theorem dL_law_1051 : decode cL_law 1051 = .ok (.iaload, 1) := by decide +kernel
theorem dL_law_1052 : decode cL_law 1052 = .ok (.aload_n 0, 1) := by decide +kernel
theorem dL_law_1053 : decode cL_law 1053 = .ok (.iload 4, 2) := by decide +kernel
theorem dL_law_1055 : decode cL_law 1055 = .ok (.iconst 2, 1) := by decide +kernel
theorem dL_law_1056 : decode cL_law 1056 = .ok (.iadd, 1) := by decide +kernel
theorem dL_law_1057 : decode cL_law 1057 = .ok (.iaload, 1) := by decide +kernel
theorem dL_law_1058 : decode cL_law 1058 = .ok (.aload_n 0, 1) := by decide +kernel
theorem dL_law_1059 : decode cL_law 1059 = .ok (.iload 4, 2) := by decide +kernel
theorem dL_law_1061 : decode cL_law 1061 = .ok (.iconst 3, 1) := by decide +kernel
theorem dL_law_1062 : decode cL_law 1062 = .ok (.iadd, 1) := by decide +kernel
theorem dL_law_1063 : decode cL_law 1063 = .ok (.iaload, 1) := by decide +kernel
theorem dL_law_1064 : decode cL_law 1064 = .ok (.aload_n 0, 1) := by decide +kernel
theorem dL_law_1065 : decode cL_law 1065 = .ok (.iload 4, 2) := by decide +kernel
theorem dL_law_1067 : decode cL_law 1067 = .ok (.iconst 4, 1) := by decide +kernel
theorem dL_law_1068 : decode cL_law 1068 = .ok (.iadd, 1) := by decide +kernel
theorem dL_law_1069 : decode cL_law 1069 = .ok (.iaload, 1) := by decide +kernel
theorem dL_law_1070 : decode cL_law 1070 = .ok (.invokevirtual 141, 3) := by decide +kernel
theorem dL_law_1073 : decode cL_law 1073 = .ok (.if_icmp .eq 347, 3) := by decide +kernel
theorem dL_law_1076 : decode cL_law 1076 = .ok (.iconst 0, 1) := by decide +kernel
theorem dL_law_1077 : decode cL_law 1077 = .ok (.ireturn, 1) := by decide +kernel
theorem dL_law_1078 : decode cL_law 1078 = .ok (.aload_n 1, 1) := by decide +kernel
theorem dL_law_1079 : decode cL_law 1079 = .ok (.aload_n 0, 1) := by decide +kernel
theorem dL_law_1080 : decode cL_law 1080 = .ok (.iload 4, 2) := by decide +kernel
theorem dL_law_1082 : decode cL_law 1082 = .ok (.iconst 1, 1) := by decide +kernel
theorem dL_law_1083 : decode cL_law 1083 = .ok (.iadd, 1) := by decide +kernel
theorem dL_law_1084 : decode cL_law 1084 = .ok (.iaload, 1) := by decide +kernel
theorem dL_law_1085 : decode cL_law 1085 = .ok (.invokevirtual 142, 3) := by decide +kernel
theorem dL_law_1088 : decode cL_law 1088 = .ok (.aload_n 2, 1) := by decide +kernel
theorem dL_law_1089 : decode cL_law 1089 = .ok (.aload_n 0, 1) := by decide +kernel
theorem dL_law_1090 : decode cL_law 1090 = .ok (.iload 4, 2) := by decide +kernel
theorem dL_law_1092 : decode cL_law 1092 = .ok (.iconst 1, 1) := by decide +kernel
theorem dL_law_1093 : decode cL_law 1093 = .ok (.iadd, 1) := by decide +kernel
theorem dL_law_1094 : decode cL_law 1094 = .ok (.iaload, 1) := by decide +kernel
theorem dL_law_1095 : decode cL_law 1095 = .ok (.invokevirtual 145, 3) := by decide +kernel
theorem dL_law_1098 : decode cL_law 1098 = .ok (.if_icmp .eq 322, 3) := by decide +kernel
theorem dL_law_1101 : decode cL_law 1101 = .ok (.iconst 0, 1) := by decide +kernel
theorem dL_law_1102 : decode cL_law 1102 = .ok (.ireturn, 1) := by decide +kernel
theorem dL_law_1103 : decode cL_law 1103 = .ok (.aload_n 1, 1) := by decide +kernel
theorem dL_law_1104 : decode cL_law 1104 = .ok (.aload_n 0, 1) := by decide +kernel
theorem dL_law_1105 : decode cL_law 1105 = .ok (.iload 4, 2) := by decide +kernel
theorem dL_law_1107 : decode cL_law 1107 = .ok (.iconst 1, 1) := by decide +kernel
theorem dL_law_1108 : decode cL_law 1108 = .ok (.iadd, 1) := by decide +kernel
theorem dL_law_1109 : decode cL_law 1109 = .ok (.iaload, 1) := by decide +kernel
theorem dL_law_1110 : decode cL_law 1110 = .ok (.aload_n 0, 1) := by decide +kernel
theorem dL_law_1111 : decode cL_law 1111 = .ok (.iload 4, 2) := by decide +kernel
theorem dL_law_1113 : decode cL_law 1113 = .ok (.iconst 2, 1) := by decide +kernel
theorem dL_law_1114 : decode cL_law 1114 = .ok (.iadd, 1) := by decide +kernel
theorem dL_law_1115 : decode cL_law 1115 = .ok (.iaload, 1) := by decide +kernel
theorem dL_law_1116 : decode cL_law 1116 = .ok (.invokevirtual 146, 3) := by decide +kernel
theorem dL_law_1119 : decode cL_law 1119 = .ok (.aload_n 2, 1) := by decide +kernel
theorem dL_law_1120 : decode cL_law 1120 = .ok (.aload_n 0, 1) := by decide +kernel
theorem dL_law_1121 : decode cL_law 1121 = .ok (.iload 4, 2) := by decide +kernel
theorem dL_law_1123 : decode cL_law 1123 = .ok (.iconst 1, 1) := by decide +kernel
theorem dL_law_1124 : decode cL_law 1124 = .ok (.iadd, 1) := by decide +kernel
theorem dL_law_1125 : decode cL_law 1125 = .ok (.iaload, 1) := by decide +kernel
theorem dL_law_1126 : decode cL_law 1126 = .ok (.aload_n 0, 1) := by decide +kernel
theorem dL_law_1127 : decode cL_law 1127 = .ok (.iload 4, 2) := by decide +kernel
theorem dL_law_1129 : decode cL_law 1129 = .ok (.iconst 2, 1) := by decide +kernel
theorem dL_law_1130 : decode cL_law 1130 = .ok (.iadd, 1) := by decide +kernel
theorem dL_law_1131 : decode cL_law 1131 = .ok (.iaload, 1) := by decide +kernel
theorem dL_law_1132 : decode cL_law 1132 = .ok (.invokevirtual 149, 3) := by decide +kernel
theorem dL_law_1135 : decode cL_law 1135 = .ok (.if_icmp .eq 285, 3) := by decide +kernel
theorem dL_law_1138 : decode cL_law 1138 = .ok (.iconst 0, 1) := by decide +kernel
theorem dL_law_1139 : decode cL_law 1139 = .ok (.ireturn, 1) := by decide +kernel
theorem dL_law_1140 : decode cL_law 1140 = .ok (.aload_n 1, 1) := by decide +kernel
theorem dL_law_1141 : decode cL_law 1141 = .ok (.aload_n 0, 1) := by decide +kernel
theorem dL_law_1142 : decode cL_law 1142 = .ok (.iload 4, 2) := by decide +kernel
theorem dL_law_1144 : decode cL_law 1144 = .ok (.iconst 1, 1) := by decide +kernel
theorem dL_law_1145 : decode cL_law 1145 = .ok (.iadd, 1) := by decide +kernel
theorem dL_law_1146 : decode cL_law 1146 = .ok (.iaload, 1) := by decide +kernel
theorem dL_law_1147 : decode cL_law 1147 = .ok (.invokevirtual 150, 3) := by decide +kernel
theorem dL_law_1150 : decode cL_law 1150 = .ok (.aload_n 2, 1) := by decide +kernel
theorem dL_law_1151 : decode cL_law 1151 = .ok (.aload_n 0, 1) := by decide +kernel
theorem dL_law_1152 : decode cL_law 1152 = .ok (.iload 4, 2) := by decide +kernel
theorem dL_law_1154 : decode cL_law 1154 = .ok (.iconst 1, 1) := by decide +kernel
theorem dL_law_1155 : decode cL_law 1155 = .ok (.iadd, 1) := by decide +kernel
theorem dL_law_1156 : decode cL_law 1156 = .ok (.iaload, 1) := by decide +kernel
theorem dL_law_1157 : decode cL_law 1157 = .ok (.invokevirtual 153, 3) := by decide +kernel
theorem dL_law_1160 : decode cL_law 1160 = .ok (.if_icmp .eq 260, 3) := by decide +kernel
theorem dL_law_1163 : decode cL_law 1163 = .ok (.iconst 0, 1) := by decide +kernel
theorem dL_law_1164 : decode cL_law 1164 = .ok (.ireturn, 1) := by decide +kernel
theorem dL_law_1165 : decode cL_law 1165 = .ok (.aload_n 1, 1) := by decide +kernel
theorem dL_law_1166 : decode cL_law 1166 = .ok (.aload_n 0, 1) := by decide +kernel
theorem dL_law_1167 : decode cL_law 1167 = .ok (.iload 4, 2) := by decide +kernel
theorem dL_law_1169 : decode cL_law 1169 = .ok (.iconst 1, 1) := by decide +kernel
theorem dL_law_1170 : decode cL_law 1170 = .ok (.iadd, 1) := by decide +kernel
theorem dL_law_1171 : decode cL_law 1171 = .ok (.iaload, 1) := by decide +kernel
theorem dL_law_1172 : decode cL_law 1172 = .ok (.invokevirtual 154, 3) := by decide +kernel
theorem dL_law_1175 : decode cL_law 1175 = .ok (.aload_n 2, 1) := by decide +kernel
theorem dL_law_1176 : decode cL_law 1176 = .ok (.aload_n 0, 1) := by decide +kernel
theorem dL_law_1177 : decode cL_law 1177 = .ok (.iload 4, 2) := by decide +kernel
theorem dL_law_1179 : decode cL_law 1179 = .ok (.iconst 1, 1) := by decide +kernel
theorem dL_law_1180 : decode cL_law 1180 = .ok (.iadd, 1) := by decide +kernel
theorem dL_law_1181 : decode cL_law 1181 = .ok (.iaload, 1) := by decide +kernel
theorem dL_law_1182 : decode cL_law 1182 = .ok (.invokevirtual 157, 3) := by decide +kernel
theorem dL_law_1185 : decode cL_law 1185 = .ok (.if_icmp .eq 235, 3) := by decide +kernel
theorem dL_law_1188 : decode cL_law 1188 = .ok (.iconst 0, 1) := by decide +kernel
theorem dL_law_1189 : decode cL_law 1189 = .ok (.ireturn, 1) := by decide +kernel
theorem dL_law_1190 : decode cL_law 1190 = .ok (.aload_n 1, 1) := by decide +kernel
theorem dL_law_1191 : decode cL_law 1191 = .ok (.aload_n 0, 1) := by decide +kernel
theorem dL_law_1192 : decode cL_law 1192 = .ok (.iload 4, 2) := by decide +kernel
theorem dL_law_1194 : decode cL_law 1194 = .ok (.iconst 1, 1) := by decide +kernel
theorem dL_law_1195 : decode cL_law 1195 = .ok (.iadd, 1) := by decide +kernel
theorem dL_law_1196 : decode cL_law 1196 = .ok (.iaload, 1) := by decide +kernel
theorem dL_law_1197 : decode cL_law 1197 = .ok (.invokevirtual 158, 3) := by decide +kernel
theorem dL_law_1200 : decode cL_law 1200 = .ok (.aload_n 2, 1) := by decide +kernel
theorem dL_law_1201 : decode cL_law 1201 = .ok (.aload_n 0, 1) := by decide +kernel
theorem dL_law_1202 : decode cL_law 1202 = .ok (.iload 4, 2) := by decide +kernel
theorem dL_law_1204 : decode cL_law 1204 = .ok (.iconst 1, 1) := by decide +kernel
theorem dL_law_1205 : decode cL_law 1205 = .ok (.iadd, 1) := by decide +kernel
theorem dL_law_1206 : decode cL_law 1206 = .ok (.iaload, 1) := by decide +kernel
theorem dL_law_1207 : decode cL_law 1207 = .ok (.invokevirtual 161, 3) := by decide +kernel
theorem dL_law_1210 : decode cL_law 1210 = .ok (.if_icmp .eq 210, 3) := by decide +kernel
theorem dL_law_1213 : decode cL_law 1213 = .ok (.iconst 0, 1) := by decide +kernel
theorem dL_law_1214 : decode cL_law 1214 = .ok (.ireturn, 1) := by decide +kernel
theorem dL_law_1215 : decode cL_law 1215 = .ok (.aload_n 1, 1) := by decide +kernel
theorem dL_law_1216 : decode cL_law 1216 = .ok (.aload_n 0, 1) := by decide +kernel
theorem dL_law_1217 : decode cL_law 1217 = .ok (.iload 4, 2) := by decide +kernel
theorem dL_law_1219 : decode cL_law 1219 = .ok (.iconst 1, 1) := by decide +kernel
theorem dL_law_1220 : decode cL_law 1220 = .ok (.iadd, 1) := by decide +kernel
theorem dL_law_1221 : decode cL_law 1221 = .ok (.iaload, 1) := by decide +kernel
theorem dL_law_1222 : decode cL_law 1222 = .ok (.invokevirtual 162, 3) := by decide +kernel
theorem dL_law_1225 : decode cL_law 1225 = .ok (.aload_n 2, 1) := by decide +kernel
theorem dL_law_1226 : decode cL_law 1226 = .ok (.aload_n 0, 1) := by decide +kernel
theorem dL_law_1227 : decode cL_law 1227 = .ok (.iload 4, 2) := by decide +kernel
theorem dL_law_1229 : decode cL_law 1229 = .ok (.iconst 1, 1) := by decide +kernel
theorem dL_law_1230 : decode cL_law 1230 = .ok (.iadd, 1) := by decide +kernel
theorem dL_law_1231 : decode cL_law 1231 = .ok (.iaload, 1) := by decide +kernel
theorem dL_law_1232 : decode cL_law 1232 = .ok (.invokevirtual 165, 3) := by decide +kernel
theorem dL_law_1235 : decode cL_law 1235 = .ok (.if_icmp .eq 185, 3) := by decide +kernel
theorem dL_law_1238 : decode cL_law 1238 = .ok (.iconst 0, 1) := by decide +kernel
theorem dL_law_1239 : decode cL_law 1239 = .ok (.ireturn, 1) := by decide +kernel
theorem dL_law_1240 : decode cL_law 1240 = .ok (.aload_n 1, 1) := by decide +kernel
theorem dL_law_1241 : decode cL_law 1241 = .ok (.aload_n 0, 1) := by decide +kernel
theorem dL_law_1242 : decode cL_law 1242 = .ok (.iload 4, 2) := by decide +kernel
theorem dL_law_1244 : decode cL_law 1244 = .ok (.iconst 1, 1) := by decide +kernel
theorem dL_law_1245 : decode cL_law 1245 = .ok (.iadd, 1) := by decide +kernel
theorem dL_law_1246 : decode cL_law 1246 = .ok (.iaload, 1) := by decide +kernel
theorem dL_law_1247 : decode cL_law 1247 = .ok (.invokevirtual 166, 3) := by decide +kernel
theorem dL_law_1250 : decode cL_law 1250 = .ok (.aload_n 2, 1) := by decide +kernel
theorem dL_law_1251 : decode cL_law 1251 = .ok (.aload_n 0, 1) := by decide +kernel
theorem dL_law_1252 : decode cL_law 1252 = .ok (.iload 4, 2) := by decide +kernel
theorem dL_law_1254 : decode cL_law 1254 = .ok (.iconst 1, 1) := by decide +kernel
theorem dL_law_1255 : decode cL_law 1255 = .ok (.iadd, 1) := by decide +kernel
theorem dL_law_1256 : decode cL_law 1256 = .ok (.iaload, 1) := by decide +kernel
theorem dL_law_1257 : decode cL_law 1257 = .ok (.invokevirtual 169, 3) := by decide +kernel
theorem dL_law_1260 : decode cL_law 1260 = .ok (.if_icmp .eq 160, 3) := by decide +kernel
theorem dL_law_1263 : decode cL_law 1263 = .ok (.iconst 0, 1) := by decide +kernel
theorem dL_law_1264 : decode cL_law 1264 = .ok (.ireturn, 1) := by decide +kernel
theorem dL_law_1265 : decode cL_law 1265 = .ok (.aload_n 1, 1) := by decide +kernel
theorem dL_law_1266 : decode cL_law 1266 = .ok (.aload_n 0, 1) := by decide +kernel
theorem dL_law_1267 : decode cL_law 1267 = .ok (.iload 4, 2) := by decide +kernel
theorem dL_law_1269 : decode cL_law 1269 = .ok (.iconst 1, 1) := by decide +kernel
theorem dL_law_1270 : decode cL_law 1270 = .ok (.iadd, 1) := by decide +kernel
theorem dL_law_1271 : decode cL_law 1271 = .ok (.iaload, 1) := by decide +kernel
theorem dL_law_1272 : decode cL_law 1272 = .ok (.invokevirtual 170, 3) := by decide +kernel
theorem dL_law_1275 : decode cL_law 1275 = .ok (.aload_n 2, 1) := by decide +kernel
theorem dL_law_1276 : decode cL_law 1276 = .ok (.aload_n 0, 1) := by decide +kernel
theorem dL_law_1277 : decode cL_law 1277 = .ok (.iload 4, 2) := by decide +kernel
theorem dL_law_1279 : decode cL_law 1279 = .ok (.iconst 1, 1) := by decide +kernel
theorem dL_law_1280 : decode cL_law 1280 = .ok (.iadd, 1) := by decide +kernel
theorem dL_law_1281 : decode cL_law 1281 = .ok (.iaload, 1) := by decide +kernel
theorem dL_law_1282 : decode cL_law 1282 = .ok (.invokevirtual 173, 3) := by decide +kernel
theorem dL_law_1285 : decode cL_law 1285 = .ok (.if_icmp .eq 135, 3) := by decide +kernel
theorem dL_law_1288 : decode cL_law 1288 = .ok (.iconst 0, 1) := by decide +kernel
theorem dL_law_1289 : decode cL_law 1289 = .ok (.ireturn, 1) := by decide +kernel
theorem dL_law_1290 : decode cL_law 1290 = .ok (.aload_n 1, 1) := by decide +kernel
theorem dL_law_1291 : decode cL_law 1291 = .ok (.aload_n 0, 1) := by decide +kernel
theorem dL_law_1292 : decode cL_law 1292 = .ok (.iload 4, 2) := by decide +kernel
theorem dL_law_1294 : decode cL_law 1294 = .ok (.iconst 1, 1) := by decide +kernel
theorem dL_law_1295 : decode cL_law 1295 = .ok (.iadd, 1) := by decide +kernel
theorem dL_law_1296 : decode cL_law 1296 = .ok (.iaload, 1) := by decide +kernel
theorem dL_law_1297 : decode cL_law 1297 = .ok (.invokevirtual 174, 3) := by decide +kernel
theorem dL_law_1300 : decode cL_law 1300 = .ok (.aload_n 2, 1) := by decide +kernel
theorem dL_law_1301 : decode cL_law 1301 = .ok (.aload_n 0, 1) := by decide +kernel
theorem dL_law_1302 : decode cL_law 1302 = .ok (.iload 4, 2) := by decide +kernel
theorem dL_law_1304 : decode cL_law 1304 = .ok (.iconst 1, 1) := by decide +kernel
theorem dL_law_1305 : decode cL_law 1305 = .ok (.iadd, 1) := by decide +kernel
theorem dL_law_1306 : decode cL_law 1306 = .ok (.iaload, 1) := by decide +kernel
theorem dL_law_1307 : decode cL_law 1307 = .ok (.invokevirtual 177, 3) := by decide +kernel
theorem dL_law_1310 : decode cL_law 1310 = .ok (.if_icmp .eq 110, 3) := by decide +kernel
theorem dL_law_1313 : decode cL_law 1313 = .ok (.iconst 0, 1) := by decide +kernel
theorem dL_law_1314 : decode cL_law 1314 = .ok (.ireturn, 1) := by decide +kernel
theorem dL_law_1315 : decode cL_law 1315 = .ok (.aload_n 1, 1) := by decide +kernel
theorem dL_law_1316 : decode cL_law 1316 = .ok (.aload_n 0, 1) := by decide +kernel
theorem dL_law_1317 : decode cL_law 1317 = .ok (.iload 4, 2) := by decide +kernel
theorem dL_law_1319 : decode cL_law 1319 = .ok (.iconst 1, 1) := by decide +kernel
theorem dL_law_1320 : decode cL_law 1320 = .ok (.iadd, 1) := by decide +kernel
theorem dL_law_1321 : decode cL_law 1321 = .ok (.iaload, 1) := by decide +kernel
theorem dL_law_1322 : decode cL_law 1322 = .ok (.invokevirtual 178, 3) := by decide +kernel
theorem dL_law_1325 : decode cL_law 1325 = .ok (.aload_n 2, 1) := by decide +kernel
theorem dL_law_1326 : decode cL_law 1326 = .ok (.aload_n 0, 1) := by decide +kernel
theorem dL_law_1327 : decode cL_law 1327 = .ok (.iload 4, 2) := by decide +kernel
theorem dL_law_1329 : decode cL_law 1329 = .ok (.iconst 1, 1) := by decide +kernel
theorem dL_law_1330 : decode cL_law 1330 = .ok (.iadd, 1) := by decide +kernel
theorem dL_law_1331 : decode cL_law 1331 = .ok (.iaload, 1) := by decide +kernel
theorem dL_law_1332 : decode cL_law 1332 = .ok (.invokevirtual 181, 3) := by decide +kernel
theorem dL_law_1335 : decode cL_law 1335 = .ok (.if_icmp .eq 85, 3) := by decide +kernel
theorem dL_law_1338 : decode cL_law 1338 = .ok (.iconst 0, 1) := by decide +kernel
theorem dL_law_1339 : decode cL_law 1339 = .ok (.ireturn, 1) := by decide +kernel
theorem dL_law_1340 : decode cL_law 1340 = .ok (.aload_n 1, 1) := by decide +kernel
theorem dL_law_1341 : decode cL_law 1341 = .ok (.aload_n 0, 1) := by decide +kernel
theorem dL_law_1342 : decode cL_law 1342 = .ok (.iload 4, 2) := by decide +kernel
theorem dL_law_1344 : decode cL_law 1344 = .ok (.iconst 1, 1) := by decide +kernel
theorem dL_law_1345 : decode cL_law 1345 = .ok (.iadd, 1) := by decide +kernel
theorem dL_law_1346 : decode cL_law 1346 = .ok (.iaload, 1) := by decide +kernel
theorem dL_law_1347 : decode cL_law 1347 = .ok (.invokevirtual 182, 3) := by decide +kernel
theorem dL_law_1350 : decode cL_law 1350 = .ok (.aload_n 2, 1) := by decide +kernel
theorem dL_law_1351 : decode cL_law 1351 = .ok (.aload_n 0, 1) := by decide +kernel
theorem dL_law_1352 : decode cL_law 1352 = .ok (.iload 4, 2) := by decide +kernel
theorem dL_law_1354 : decode cL_law 1354 = .ok (.iconst 1, 1) := by decide +kernel
theorem dL_law_1355 : decode cL_law 1355 = .ok (.iadd, 1) := by decide +kernel
theorem dL_law_1356 : decode cL_law 1356 = .ok (.iaload, 1) := by decide +kernel
theorem dL_law_1357 : decode cL_law 1357 = .ok (.invokevirtual 185, 3) := by decide +kernel
theorem dL_law_1360 : decode cL_law 1360 = .ok (.if_icmp .eq 60, 3) := by decide +kernel
theorem dL_law_1363 : decode cL_law 1363 = .ok (.iconst 0, 1) := by decide +kernel
theorem dL_law_1364 : decode cL_law 1364 = .ok (.ireturn, 1) := by decide +kernel
theorem dL_law_1365 : decode cL_law 1365 = .ok (.aload_n 1, 1) := by decide +kernel
theorem dL_law_1366 : decode cL_law 1366 = .ok (.aload_n 0, 1) := by decide +kernel
theorem dL_law_1367 : decode cL_law 1367 = .ok (.iload 4, 2) := by decide +kernel
theorem dL_law_1369 : decode cL_law 1369 = .ok (.iconst 1, 1) := by decide +kernel
theorem dL_law_1370 : decode cL_law 1370 = .ok (.iadd, 1) := by decide +kernel
theorem dL_law_1371 : decode cL_law 1371 = .ok (.iaload, 1) := by decide +kernel
theorem dL_law_1372 : decode cL_law 1372 = .ok (.aload_n 3, 1) := by decide +kernel
theorem dL_law_1373 : decode cL_law 1373 = .ok (.invokestatic 186, 3) := by decide +kernel
theorem dL_law_1376 : decode cL_law 1376 = .ok (.istore 5, 2) := by decide +kernel
theorem dL_law_1378 : decode cL_law 1378 = .ok (.aload_n 2, 1) := by decide +kernel
theorem dL_law_1379 : decode cL_law 1379 = .ok (.aload_n 0, 1) := by decide +kernel
theorem dL_law_1380 : decode cL_law 1380 = .ok (.iload 4, 2) := by decide +kernel
theorem dL_law_1382 : decode cL_law 1382 = .ok (.iconst 1, 1) := by decide +kernel
theorem dL_law_1383 : decode cL_law 1383 = .ok (.iadd, 1) := by decide +kernel
theorem dL_law_1384 : decode cL_law 1384 = .ok (.iaload, 1) := by decide +kernel
theorem dL_law_1385 : decode cL_law 1385 = .ok (.invokevirtual 189, 3) := by decide +kernel
theorem dL_law_1388 : decode cL_law 1388 = .ok (.lstore 6, 2) := by decide +kernel
theorem dL_law_1390 : decode cL_law 1390 = .ok (.aload_n 2, 1) := by decide +kernel
theorem dL_law_1391 : decode cL_law 1391 = .ok (.invokevirtual 103, 3) := by decide +kernel
theorem dL_law_1394 : decode cL_law 1394 = .ok (.iload 5, 2) := by decide +kernel
theorem dL_law_1396 : decode cL_law 1396 = .ok (.if_icmp .eq 5, 3) := by decide +kernel
theorem dL_law_1399 : decode cL_law 1399 = .ok (.iconst 0, 1) := by decide +kernel
theorem dL_law_1400 : decode cL_law 1400 = .ok (.ireturn, 1) := by decide +kernel
theorem dL_law_1401 : decode cL_law 1401 = .ok (.iload 5, 2) := by decide +kernel
theorem dL_law_1403 : decode cL_law 1403 = .ok (.ifCond .ne 14, 3) := by decide +kernel
theorem dL_law_1406 : decode cL_law 1406 = .ok (.aload_n 3, 1) := by decide +kernel
theorem dL_law_1407 : decode cL_law 1407 = .ok (.iconst 0, 1) := by decide +kernel
theorem dL_law_1408 : decode cL_law 1408 = .ok (.laload, 1) := by decide +kernel
theorem dL_law_1409 : decode cL_law 1409 = .ok (.lload 6, 2) := by decide +kernel
theorem dL_law_1411 : decode cL_law 1411 = .ok (.lcmp, 1) := by decide +kernel
theorem dL_law_1412 : decode cL_law 1412 = .ok (.ifCond .eq 5, 3) := by decide +kernel
theorem dL_law_1415 : decode cL_law 1415 = .ok (.iconst 0, 1) := by decide +kernel
theorem dL_law_1416 : decode cL_law 1416 = .ok (.ireturn, 1) := by decide +kernel
theorem dL_law_1417 : decode cL_law 1417 = .ok (.goto 3, 3) := by decide +kernel
theorem dL_law_1420 : decode cL_law 1420 = .ok (.iinc 4 6, 3) := by decide +kernel
theorem dL_law_1423 : decode cL_law 1423 = .ok (.goto (-1400), 3) := by decide +kernel
theorem dL_law_1426 : decode cL_law 1426 = .ok (.iconst 1, 1) := by decide +kernel
theorem dL_law_1427 : decode cL_law 1427 = .ok (.ireturn, 1) := by decide +kernel
theorem ml_L_7 : LV RL 7 8 mX8_timer 2 := ⟨by decide, lc_X8_timer, rfl, gw_at 782 (by decide +kernel) rfl, gw_at 783 (by decide +kernel) rfl, gw_at 784 (by decide +kernel) rfl, gw_at 1 (by decide +kernel) rfl⟩
theorem ml_L_15 : LV RL 15 8 mX8_row 1 := ⟨by decide, lc_X8_row, rfl, gw_at 850 (by decide +kernel) rfl, gw_at 851 (by decide +kernel) rfl, gw_at 852 (by decide +kernel) rfl, gw_at 1 (by decide +kernel) rfl⟩
theorem ml_L_23 : LV RL 23 8 mX8_wheels 4 := ⟨by decide, lc_X8_wheels, rfl, gw_at 331 (by decide +kernel) rfl, gw_at 332 (by decide +kernel) rfl, gw_at 333 (by decide +kernel) rfl, gw_at 1 (by decide +kernel) rfl⟩
theorem ml_L_27 : LV RL 27 9 mX9_wheels 4 := ⟨by decide, lc_X9_wheels, rfl, gw_at 943 (by decide +kernel) rfl, gw_at 944 (by decide +kernel) rfl, gw_at 945 (by decide +kernel) rfl, gw_at 10 (by decide +kernel) rfl⟩
theorem ml_L_28 : LV RL 28 8 mX8_order 1 := ⟨by decide, lc_X8_order, rfl, gw_at 380 (by decide +kernel) rfl, gw_at 381 (by decide +kernel) rfl, gw_at 382 (by decide +kernel) rfl, gw_at 1 (by decide +kernel) rfl⟩
theorem ml_L_32 : LV RL 32 9 mX9_order 1 := ⟨by decide, lc_X9_order, rfl, gw_at 990 (by decide +kernel) rfl, gw_at 991 (by decide +kernel) rfl, gw_at 992 (by decide +kernel) rfl, gw_at 10 (by decide +kernel) rfl⟩
theorem ml_L_33 : LV RL 33 8 mX8_ticks 1 := ⟨by decide, lc_X8_ticks, rfl, gw_at 385 (by decide +kernel) rfl, gw_at 386 (by decide +kernel) rfl, gw_at 387 (by decide +kernel) rfl, gw_at 1 (by decide +kernel) rfl⟩
theorem ml_L_36 : LV RL 36 9 mX9_ticks 1 := ⟨by decide, lc_X9_ticks, rfl, gw_at 994 (by decide +kernel) rfl, gw_at 995 (by decide +kernel) rfl, gw_at 996 (by decide +kernel) rfl, gw_at 10 (by decide +kernel) rfl⟩
theorem ml_L_37 : LV RL 37 8 mX8_leaps 1 := ⟨by decide, lc_X8_leaps, rfl, gw_at 475 (by decide +kernel) rfl, gw_at 476 (by decide +kernel) rfl, gw_at 477 (by decide +kernel) rfl, gw_at 1 (by decide +kernel) rfl⟩
theorem ml_L_40 : LV RL 40 9 mX9_leaps 1 := ⟨by decide, lc_X9_leaps, rfl, gw_at 1054 (by decide +kernel) rfl, gw_at 1055 (by decide +kernel) rfl, gw_at 1056 (by decide +kernel) rfl, gw_at 10 (by decide +kernel) rfl⟩
theorem ml_L_41 : LV RL 41 8 mX8_sets 5 := ⟨by decide, lc_X8_sets, rfl, gw_at 490 (by decide +kernel) rfl, gw_at 491 (by decide +kernel) rfl, gw_at 492 (by decide +kernel) rfl, gw_at 1 (by decide +kernel) rfl⟩
theorem ml_L_45 : LV RL 45 9 mX9_sets 5 := ⟨by decide, lc_X9_sets, rfl, gw_at 1071 (by decide +kernel) rfl, gw_at 1072 (by decide +kernel) rfl, gw_at 1073 (by decide +kernel) rfl, gw_at 10 (by decide +kernel) rfl⟩
theorem ml_L_46 : LV RL 46 8 mX8_cancels 1 := ⟨by decide, lc_X8_cancels, rfl, gw_at 506 (by decide +kernel) rfl, gw_at 507 (by decide +kernel) rfl, gw_at 508 (by decide +kernel) rfl, gw_at 1 (by decide +kernel) rfl⟩
theorem ml_L_49 : LV RL 49 9 mX9_cancels 1 := ⟨by decide, lc_X9_cancels, rfl, gw_at 1083 (by decide +kernel) rfl, gw_at 1084 (by decide +kernel) rfl, gw_at 1085 (by decide +kernel) rfl, gw_at 10 (by decide +kernel) rfl⟩
theorem ml_L_50 : LV RL 50 8 mX8_cancelsAll 1 := ⟨by decide, lc_X8_cancelsAll, rfl, gw_at 515 (by decide +kernel) rfl, gw_at 516 (by decide +kernel) rfl, gw_at 517 (by decide +kernel) rfl, gw_at 1 (by decide +kernel) rfl⟩
theorem ml_L_53 : LV RL 53 9 mX9_cancelsAll 1 := ⟨by decide, lc_X9_cancelsAll, rfl, gw_at 1095 (by decide +kernel) rfl, gw_at 1096 (by decide +kernel) rfl, gw_at 1097 (by decide +kernel) rfl, gw_at 10 (by decide +kernel) rfl⟩
theorem ml_L_54 : LV RL 54 8 mX8_steady 2 := ⟨by decide, lc_X8_steady, rfl, gw_at 519 (by decide +kernel) rfl, gw_at 520 (by decide +kernel) rfl, gw_at 521 (by decide +kernel) rfl, gw_at 1 (by decide +kernel) rfl⟩
theorem ml_L_58 : LV RL 58 9 mX9_steady 2 := ⟨by decide, lc_X9_steady, rfl, gw_at 1099 (by decide +kernel) rfl, gw_at 1100 (by decide +kernel) rfl, gw_at 1101 (by decide +kernel) rfl, gw_at 10 (by decide +kernel) rfl⟩
theorem ml_L_59 : LV RL 59 8 mX8_pauses 1 := ⟨by decide, lc_X8_pauses, rfl, gw_at 523 (by decide +kernel) rfl, gw_at 524 (by decide +kernel) rfl, gw_at 525 (by decide +kernel) rfl, gw_at 1 (by decide +kernel) rfl⟩
theorem ml_L_62 : LV RL 62 9 mX9_pauses 1 := ⟨by decide, lc_X9_pauses, rfl, gw_at 1106 (by decide +kernel) rfl, gw_at 1107 (by decide +kernel) rfl, gw_at 1108 (by decide +kernel) rfl, gw_at 10 (by decide +kernel) rfl⟩
theorem ml_L_63 : LV RL 63 8 mX8_resumes 1 := ⟨by decide, lc_X8_resumes, rfl, gw_at 531 (by decide +kernel) rfl, gw_at 532 (by decide +kernel) rfl, gw_at 533 (by decide +kernel) rfl, gw_at 1 (by decide +kernel) rfl⟩
theorem ml_L_66 : LV RL 66 9 mX9_resumes 1 := ⟨by decide, lc_X9_resumes, rfl, gw_at 1114 (by decide +kernel) rfl, gw_at 1115 (by decide +kernel) rfl, gw_at 1116 (by decide +kernel) rfl, gw_at 10 (by decide +kernel) rfl⟩
theorem ml_L_67 : LV RL 67 8 mX8_holds 1 := ⟨by decide, lc_X8_holds, rfl, gw_at 539 (by decide +kernel) rfl, gw_at 540 (by decide +kernel) rfl, gw_at 541 (by decide +kernel) rfl, gw_at 1 (by decide +kernel) rfl⟩
theorem ml_L_70 : LV RL 70 9 mX9_holds 1 := ⟨by decide, lc_X9_holds, rfl, gw_at 1126 (by decide +kernel) rfl, gw_at 1127 (by decide +kernel) rfl, gw_at 1128 (by decide +kernel) rfl, gw_at 10 (by decide +kernel) rfl⟩
theorem ml_L_71 : LV RL 71 8 mX8_goesOn 1 := ⟨by decide, lc_X8_goesOn, rfl, gw_at 544 (by decide +kernel) rfl, gw_at 545 (by decide +kernel) rfl, gw_at 546 (by decide +kernel) rfl, gw_at 1 (by decide +kernel) rfl⟩
theorem ml_L_74 : LV RL 74 9 mX9_goesOn 1 := ⟨by decide, lc_X9_goesOn, rfl, gw_at 1133 (by decide +kernel) rfl, gw_at 1134 (by decide +kernel) rfl, gw_at 1135 (by decide +kernel) rfl, gw_at 10 (by decide +kernel) rfl⟩
theorem ml_L_75 : LV RL 75 8 mX8_spreads 2 := ⟨by decide, lc_X8_spreads, rfl, gw_at 548 (by decide +kernel) rfl, gw_at 549 (by decide +kernel) rfl, gw_at 550 (by decide +kernel) rfl, gw_at 1 (by decide +kernel) rfl⟩
theorem ml_L_78 : LV RL 78 9 mX9_spreads 2 := ⟨by decide, lc_X9_spreads, rfl, gw_at 1137 (by decide +kernel) rfl, gw_at 1138 (by decide +kernel) rfl, gw_at 1139 (by decide +kernel) rfl, gw_at 10 (by decide +kernel) rfl⟩
theorem ml_L_79 : LV RL 79 8 mX8_delays 2 := ⟨by decide, lc_X8_delays, rfl, gw_at 558 (by decide +kernel) rfl, gw_at 559 (by decide +kernel) rfl, gw_at 560 (by decide +kernel) rfl, gw_at 1 (by decide +kernel) rfl⟩
theorem ml_L_82 : LV RL 82 9 mX9_delays 2 := ⟨by decide, lc_X9_delays, rfl, gw_at 1122 (by decide +kernel) rfl, gw_at 1123 (by decide +kernel) rfl, gw_at 1124 (by decide +kernel) rfl, gw_at 10 (by decide +kernel) rfl⟩
theorem ml_L_83 : LV RL 83 8 mX8_run 0 := ⟨by decide, lc_X8_run, rfl, gw_at 562 (by decide +kernel) rfl, gw_at 563 (by decide +kernel) rfl, gw_at 564 (by decide +kernel) rfl, gw_at 1 (by decide +kernel) rfl⟩
theorem ml_L_87 : LV RL 87 9 mX9_run 0 := ⟨by decide, lc_X9_run, rfl, gw_at 1141 (by decide +kernel) rfl, gw_at 1142 (by decide +kernel) rfl, gw_at 1143 (by decide +kernel) rfl, gw_at 10 (by decide +kernel) rfl⟩
theorem ml_L_88 : LV RL 88 8 mX8_sign 1 := ⟨by decide, lc_X8_sign, rfl, gw_at 618 (by decide +kernel) rfl, gw_at 619 (by decide +kernel) rfl, gw_at 620 (by decide +kernel) rfl, gw_at 1 (by decide +kernel) rfl⟩
theorem ml_L_91 : LV RL 91 9 mX9_sign 1 := ⟨by decide, lc_X9_sign, rfl, gw_at 858 (by decide +kernel) rfl, gw_at 859 (by decide +kernel) rfl, gw_at 860 (by decide +kernel) rfl, gw_at 10 (by decide +kernel) rfl⟩
theorem ml_L_92 : LV RL 92 8 mX8_end 1 := ⟨by decide, lc_X8_end, rfl, gw_at 626 (by decide +kernel) rfl, gw_at 627 (by decide +kernel) rfl, gw_at 628 (by decide +kernel) rfl, gw_at 1 (by decide +kernel) rfl⟩
theorem ml_L_96 : LV RL 96 9 mX9_end 1 := ⟨by decide, lc_X9_end, rfl, gw_at 862 (by decide +kernel) rfl, gw_at 863 (by decide +kernel) rfl, gw_at 864 (by decide +kernel) rfl, gw_at 10 (by decide +kernel) rfl⟩
theorem ml_L_102 : LV RL 102 9 mX9_timer 2 := ⟨by decide, lc_X9_timer, rfl, gw_at 1167 (by decide +kernel) rfl, gw_at 1168 (by decide +kernel) rfl, gw_at 1169 (by decide +kernel) rfl, gw_at 10 (by decide +kernel) rfl⟩
theorem ml_L_103 : LV RL 103 9 mX9_thrown 0 := ⟨by decide, lc_X9_thrown, rfl, gw_at 854 (by decide +kernel) rfl, gw_at 855 (by decide +kernel) rfl, gw_at 856 (by decide +kernel) rfl, gw_at 10 (by decide +kernel) rfl⟩
theorem ml_L_106 : LV RL 106 8 mX8_slot 2 := ⟨by decide, lc_X8_slot, rfl, gw_at 630 (by decide +kernel) rfl, gw_at 631 (by decide +kernel) rfl, gw_at 632 (by decide +kernel) rfl, gw_at 1 (by decide +kernel) rfl⟩
theorem ml_L_109 : LV RL 109 9 mX9_slot 2 := ⟨by decide, lc_X9_slot, rfl, gw_at 1172 (by decide +kernel) rfl, gw_at 1173 (by decide +kernel) rfl, gw_at 1174 (by decide +kernel) rfl, gw_at 10 (by decide +kernel) rfl⟩
theorem ml_L_110 : LV RL 110 8 mX8_far 0 := ⟨by decide, lc_X8_far, rfl, gw_at 646 (by decide +kernel) rfl, gw_at 647 (by decide +kernel) rfl, gw_at 648 (by decide +kernel) rfl, gw_at 1 (by decide +kernel) rfl⟩
theorem ml_L_113 : LV RL 113 9 mX9_far 0 := ⟨by decide, lc_X9_far, rfl, gw_at 1180 (by decide +kernel) rfl, gw_at 1181 (by decide +kernel) rfl, gw_at 1182 (by decide +kernel) rfl, gw_at 10 (by decide +kernel) rfl⟩
theorem ml_L_114 : LV RL 114 8 mX8_group 1 := ⟨by decide, lc_X8_group, rfl, gw_at 650 (by decide +kernel) rfl, gw_at 651 (by decide +kernel) rfl, gw_at 652 (by decide +kernel) rfl, gw_at 1 (by decide +kernel) rfl⟩
theorem ml_L_117 : LV RL 117 9 mX9_group 1 := ⟨by decide, lc_X9_group, rfl, gw_at 1192 (by decide +kernel) rfl, gw_at 1193 (by decide +kernel) rfl, gw_at 1194 (by decide +kernel) rfl, gw_at 10 (by decide +kernel) rfl⟩
theorem ml_L_118 : LV RL 118 8 mX8_full 1 := ⟨by decide, lc_X8_full, rfl, gw_at 654 (by decide +kernel) rfl, gw_at 655 (by decide +kernel) rfl, gw_at 656 (by decide +kernel) rfl, gw_at 1 (by decide +kernel) rfl⟩
theorem ml_L_121 : LV RL 121 9 mX9_full 1 := ⟨by decide, lc_X9_full, rfl, gw_at 1196 (by decide +kernel) rfl, gw_at 1197 (by decide +kernel) rfl, gw_at 1198 (by decide +kernel) rfl, gw_at 10 (by decide +kernel) rfl⟩
theorem ml_L_122 : LV RL 122 8 mX8_next 0 := ⟨by decide, lc_X8_next, rfl, gw_at 662 (by decide +kernel) rfl, gw_at 663 (by decide +kernel) rfl, gw_at 664 (by decide +kernel) rfl, gw_at 1 (by decide +kernel) rfl⟩
theorem ml_L_125 : LV RL 125 9 mX9_next 0 := ⟨by decide, lc_X9_next, rfl, gw_at 1200 (by decide +kernel) rfl, gw_at 1201 (by decide +kernel) rfl, gw_at 1202 (by decide +kernel) rfl, gw_at 10 (by decide +kernel) rfl⟩
theorem ml_L_126 : LV RL 126 8 mX8_rings 1 := ⟨by decide, lc_X8_rings, rfl, gw_at 670 (by decide +kernel) rfl, gw_at 671 (by decide +kernel) rfl, gw_at 672 (by decide +kernel) rfl, gw_at 1 (by decide +kernel) rfl⟩
theorem ml_L_129 : LV RL 129 9 mX9_rings 1 := ⟨by decide, lc_X9_rings, rfl, gw_at 1204 (by decide +kernel) rfl, gw_at 1205 (by decide +kernel) rfl, gw_at 1206 (by decide +kernel) rfl, gw_at 10 (by decide +kernel) rfl⟩
theorem ml_L_130 : LV RL 130 8 mX8_quiet 1 := ⟨by decide, lc_X8_quiet, rfl, gw_at 691 (by decide +kernel) rfl, gw_at 692 (by decide +kernel) rfl, gw_at 693 (by decide +kernel) rfl, gw_at 1 (by decide +kernel) rfl⟩
theorem ml_L_133 : LV RL 133 9 mX9_quiet 1 := ⟨by decide, lc_X9_quiet, rfl, gw_at 1212 (by decide +kernel) rfl, gw_at 1213 (by decide +kernel) rfl, gw_at 1214 (by decide +kernel) rfl, gw_at 10 (by decide +kernel) rfl⟩
theorem ml_L_134 : LV RL 134 8 mX8_moves 1 := ⟨by decide, lc_X8_moves, rfl, gw_at 695 (by decide +kernel) rfl, gw_at 696 (by decide +kernel) rfl, gw_at 697 (by decide +kernel) rfl, gw_at 1 (by decide +kernel) rfl⟩
theorem ml_L_137 : LV RL 137 9 mX9_moves 1 := ⟨by decide, lc_X9_moves, rfl, gw_at 1216 (by decide +kernel) rfl, gw_at 1217 (by decide +kernel) rfl, gw_at 1218 (by decide +kernel) rfl, gw_at 10 (by decide +kernel) rfl⟩
theorem ml_L_138 : LV RL 138 8 mX8_cost 4 := ⟨by decide, lc_X8_cost, rfl, gw_at 709 (by decide +kernel) rfl, gw_at 710 (by decide +kernel) rfl, gw_at 711 (by decide +kernel) rfl, gw_at 1 (by decide +kernel) rfl⟩
theorem ml_L_141 : LV RL 141 9 mX9_cost 4 := ⟨by decide, lc_X9_cost, rfl, gw_at 1232 (by decide +kernel) rfl, gw_at 1233 (by decide +kernel) rfl, gw_at 1234 (by decide +kernel) rfl, gw_at 10 (by decide +kernel) rfl⟩
theorem ml_L_142 : LV RL 142 8 mX8_best 1 := ⟨by decide, lc_X8_best, rfl, gw_at 721 (by decide +kernel) rfl, gw_at 722 (by decide +kernel) rfl, gw_at 723 (by decide +kernel) rfl, gw_at 1 (by decide +kernel) rfl⟩
theorem ml_L_145 : LV RL 145 9 mX9_best 1 := ⟨by decide, lc_X9_best, rfl, gw_at 1240 (by decide +kernel) rfl, gw_at 1241 (by decide +kernel) rfl, gw_at 1242 (by decide +kernel) rfl, gw_at 10 (by decide +kernel) rfl⟩
theorem ml_L_146 : LV RL 146 8 mX8_ahead 2 := ⟨by decide, lc_X8_ahead, rfl, gw_at 725 (by decide +kernel) rfl, gw_at 726 (by decide +kernel) rfl, gw_at 727 (by decide +kernel) rfl, gw_at 1 (by decide +kernel) rfl⟩
theorem ml_L_149 : LV RL 149 9 mX9_ahead 2 := ⟨by decide, lc_X9_ahead, rfl, gw_at 1245 (by decide +kernel) rfl, gw_at 1246 (by decide +kernel) rfl, gw_at 1247 (by decide +kernel) rfl, gw_at 10 (by decide +kernel) rfl⟩
theorem ml_L_150 : LV RL 150 8 mX8_way 1 := ⟨by decide, lc_X8_way, rfl, gw_at 730 (by decide +kernel) rfl, gw_at 731 (by decide +kernel) rfl, gw_at 732 (by decide +kernel) rfl, gw_at 1 (by decide +kernel) rfl⟩
theorem ml_L_153 : LV RL 153 9 mX9_way 1 := ⟨by decide, lc_X9_way, rfl, gw_at 1228 (by decide +kernel) rfl, gw_at 1229 (by decide +kernel) rfl, gw_at 1230 (by decide +kernel) rfl, gw_at 10 (by decide +kernel) rfl⟩
theorem ml_L_154 : LV RL 154 8 mX8_would 1 := ⟨by decide, lc_X8_would, rfl, gw_at 735 (by decide +kernel) rfl, gw_at 736 (by decide +kernel) rfl, gw_at 737 (by decide +kernel) rfl, gw_at 1 (by decide +kernel) rfl⟩
theorem ml_L_157 : LV RL 157 9 mX9_would 1 := ⟨by decide, lc_X9_would, rfl, gw_at 1249 (by decide +kernel) rfl, gw_at 1250 (by decide +kernel) rfl, gw_at 1251 (by decide +kernel) rfl, gw_at 10 (by decide +kernel) rfl⟩
theorem ml_L_158 : LV RL 158 8 mX8_busiest 1 := ⟨by decide, lc_X8_busiest, rfl, gw_at 740 (by decide +kernel) rfl, gw_at 741 (by decide +kernel) rfl, gw_at 742 (by decide +kernel) rfl, gw_at 1 (by decide +kernel) rfl⟩
theorem ml_L_161 : LV RL 161 9 mX9_busiest 1 := ⟨by decide, lc_X9_busiest, rfl, gw_at 1254 (by decide +kernel) rfl, gw_at 1255 (by decide +kernel) rfl, gw_at 1256 (by decide +kernel) rfl, gw_at 10 (by decide +kernel) rfl⟩
theorem ml_L_162 : LV RL 162 8 mX8_till 1 := ⟨by decide, lc_X8_till, rfl, gw_at 744 (by decide +kernel) rfl, gw_at 745 (by decide +kernel) rfl, gw_at 746 (by decide +kernel) rfl, gw_at 1 (by decide +kernel) rfl⟩
theorem ml_L_165 : LV RL 165 9 mX9_till 1 := ⟨by decide, lc_X9_till, rfl, gw_at 1266 (by decide +kernel) rfl, gw_at 1267 (by decide +kernel) rfl, gw_at 1268 (by decide +kernel) rfl, gw_at 10 (by decide +kernel) rfl⟩
theorem ml_L_166 : LV RL 166 8 mX8_loudest 1 := ⟨by decide, lc_X8_loudest, rfl, gw_at 748 (by decide +kernel) rfl, gw_at 749 (by decide +kernel) rfl, gw_at 750 (by decide +kernel) rfl, gw_at 1 (by decide +kernel) rfl⟩
theorem ml_L_169 : LV RL 169 9 mX9_loudest 1 := ⟨by decide, lc_X9_loudest, rfl, gw_at 1258 (by decide +kernel) rfl, gw_at 1259 (by decide +kernel) rfl, gw_at 1260 (by decide +kernel) rfl, gw_at 10 (by decide +kernel) rfl⟩
theorem ml_L_170 : LV RL 170 8 mX8_clashes 1 := ⟨by decide, lc_X8_clashes, rfl, gw_at 758 (by decide +kernel) rfl, gw_at 759 (by decide +kernel) rfl, gw_at 760 (by decide +kernel) rfl, gw_at 1 (by decide +kernel) rfl⟩
theorem ml_L_173 : LV RL 173 9 mX9_clashes 1 := ⟨by decide, lc_X9_clashes, rfl, gw_at 1262 (by decide +kernel) rfl, gw_at 1263 (by decide +kernel) rfl, gw_at 1264 (by decide +kernel) rfl, gw_at 10 (by decide +kernel) rfl⟩
theorem ml_L_174 : LV RL 174 8 mX8_rung 1 := ⟨by decide, lc_X8_rung, rfl, gw_at 762 (by decide +kernel) rfl, gw_at 763 (by decide +kernel) rfl, gw_at 764 (by decide +kernel) rfl, gw_at 1 (by decide +kernel) rfl⟩
theorem ml_L_177 : LV RL 177 9 mX9_rung 1 := ⟨by decide, lc_X9_rung, rfl, gw_at 1270 (by decide +kernel) rfl, gw_at 1271 (by decide +kernel) rfl, gw_at 1272 (by decide +kernel) rfl, gw_at 10 (by decide +kernel) rfl⟩
theorem ml_L_178 : LV RL 178 8 mX8_told 1 := ⟨by decide, lc_X8_told, rfl, gw_at 766 (by decide +kernel) rfl, gw_at 767 (by decide +kernel) rfl, gw_at 768 (by decide +kernel) rfl, gw_at 1 (by decide +kernel) rfl⟩
theorem ml_L_181 : LV RL 181 9 mX9_told 1 := ⟨by decide, lc_X9_told, rfl, gw_at 1274 (by decide +kernel) rfl, gw_at 1275 (by decide +kernel) rfl, gw_at 1276 (by decide +kernel) rfl, gw_at 10 (by decide +kernel) rfl⟩
theorem ml_L_182 : LV RL 182 8 mX8_count 1 := ⟨by decide, lc_X8_count, rfl, gw_at 770 (by decide +kernel) rfl, gw_at 771 (by decide +kernel) rfl, gw_at 772 (by decide +kernel) rfl, gw_at 1 (by decide +kernel) rfl⟩
theorem ml_L_185 : LV RL 185 9 mX9_count 1 := ⟨by decide, lc_X9_count, rfl, gw_at 1279 (by decide +kernel) rfl, gw_at 1280 (by decide +kernel) rfl, gw_at 1281 (by decide +kernel) rfl, gw_at 10 (by decide +kernel) rfl⟩
theorem ml_L_189 : LV RL 189 9 mX9_row 1 := ⟨by decide, lc_X9_row, rfl, gw_at 1292 (by decide +kernel) rfl, gw_at 1293 (by decide +kernel) rfl, gw_at 1294 (by decide +kernel) rfl, gw_at 10 (by decide +kernel) rfl⟩
