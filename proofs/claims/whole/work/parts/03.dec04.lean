theorem d_L_law_803 : decode b_L_law 803 = .ok (.lcmp, 1) := by decide +kernel
theorem d_L_law_804 : decode b_L_law 804 = .ok (.ifCond .eq 5, 3) := by decide +kernel
theorem d_L_law_807 : decode b_L_law 807 = .ok (.iconst 0, 1) := by decide +kernel
theorem d_L_law_808 : decode b_L_law 808 = .ok (.ireturn, 1) := by decide +kernel
theorem d_L_law_809 : decode b_L_law 809 = .ok (.goto 521, 3) := by decide +kernel
theorem d_L_law_812 : decode b_L_law 812 = .ok (.aload_n 1, 1) := by decide +kernel
theorem d_L_law_813 : decode b_L_law 813 = .ok (.aload_n 0, 1) := by decide +kernel
theorem d_L_law_814 : decode b_L_law 814 = .ok (.iload 4, 2) := by decide +kernel
theorem d_L_law_816 : decode b_L_law 816 = .ok (.iconst 1, 1) := by decide +kernel
theorem d_L_law_817 : decode b_L_law 817 = .ok (.iadd, 1) := by decide +kernel
theorem d_L_law_818 : decode b_L_law 818 = .ok (.iaload, 1) := by decide +kernel
theorem d_L_law_819 : decode b_L_law 819 = .ok (.aload_n 3, 1) := by decide +kernel
theorem d_L_law_820 : decode b_L_law 820 = .ok (.invokestatic 115, 3) := by decide +kernel
theorem d_L_law_823 : decode b_L_law 823 = .ok (.istore 5, 2) := by decide +kernel
theorem d_L_law_825 : decode b_L_law 825 = .ok (.aload_n 2, 1) := by decide +kernel
theorem d_L_law_826 : decode b_L_law 826 = .ok (.aload_n 0, 1) := by decide +kernel
theorem d_L_law_827 : decode b_L_law 827 = .ok (.iload 4, 2) := by decide +kernel
theorem d_L_law_829 : decode b_L_law 829 = .ok (.iconst 1, 1) := by decide +kernel
theorem d_L_law_830 : decode b_L_law 830 = .ok (.iadd, 1) := by decide +kernel
theorem d_L_law_831 : decode b_L_law 831 = .ok (.iaload, 1) := by decide +kernel
theorem d_L_law_832 : decode b_L_law 832 = .ok (.invokevirtual 117, 3) := by decide +kernel
theorem d_L_law_835 : decode b_L_law 835 = .ok (.lstore 6, 2) := by decide +kernel
theorem d_L_law_837 : decode b_L_law 837 = .ok (.aload_n 2, 1) := by decide +kernel
theorem d_L_law_838 : decode b_L_law 838 = .ok (.invokevirtual 81, 3) := by decide +kernel
theorem d_L_law_841 : decode b_L_law 841 = .ok (.iload 5, 2) := by decide +kernel
theorem d_L_law_843 : decode b_L_law 843 = .ok (.if_icmp .eq 5, 3) := by decide +kernel
theorem d_L_law_846 : decode b_L_law 846 = .ok (.iconst 0, 1) := by decide +kernel
theorem d_L_law_847 : decode b_L_law 847 = .ok (.ireturn, 1) := by decide +kernel
theorem d_L_law_848 : decode b_L_law 848 = .ok (.iload 5, 2) := by decide +kernel
theorem d_L_law_850 : decode b_L_law 850 = .ok (.ifCond .ne 14, 3) := by decide +kernel
theorem d_L_law_853 : decode b_L_law 853 = .ok (.aload_n 3, 1) := by decide +kernel
theorem d_L_law_854 : decode b_L_law 854 = .ok (.iconst 0, 1) := by decide +kernel
theorem d_L_law_855 : decode b_L_law 855 = .ok (.laload, 1) := by decide +kernel
theorem d_L_law_856 : decode b_L_law 856 = .ok (.lload 6, 2) := by decide +kernel
theorem d_L_law_858 : decode b_L_law 858 = .ok (.lcmp, 1) := by decide +kernel
theorem d_L_law_859 : decode b_L_law 859 = .ok (.ifCond .eq 5, 3) := by decide +kernel
theorem d_L_law_862 : decode b_L_law 862 = .ok (.iconst 0, 1) := by decide +kernel
theorem d_L_law_863 : decode b_L_law 863 = .ok (.ireturn, 1) := by decide +kernel
theorem d_L_law_864 : decode b_L_law 864 = .ok (.goto 466, 3) := by decide +kernel
theorem d_L_law_867 : decode b_L_law 867 = .ok (.aload_n 1, 1) := by decide +kernel
theorem d_L_law_868 : decode b_L_law 868 = .ok (.aload_n 0, 1) := by decide +kernel
theorem d_L_law_869 : decode b_L_law 869 = .ok (.iload 4, 2) := by decide +kernel
theorem d_L_law_871 : decode b_L_law 871 = .ok (.iconst 1, 1) := by decide +kernel
theorem d_L_law_872 : decode b_L_law 872 = .ok (.iadd, 1) := by decide +kernel
theorem d_L_law_873 : decode b_L_law 873 = .ok (.iaload, 1) := by decide +kernel
theorem d_L_law_874 : decode b_L_law 874 = .ok (.i2l, 1) := by decide +kernel
theorem d_L_law_875 : decode b_L_law 875 = .ok (.bipush 32, 2) := by decide +kernel
theorem d_L_law_877 : decode b_L_law 877 = .ok (.lshl, 1) := by decide +kernel
theorem d_L_law_878 : decode b_L_law 878 = .ok (.aload_n 0, 1) := by decide +kernel
theorem d_L_law_879 : decode b_L_law 879 = .ok (.iload 4, 2) := by decide +kernel
theorem d_L_law_881 : decode b_L_law 881 = .ok (.iconst 2, 1) := by decide +kernel
theorem d_L_law_882 : decode b_L_law 882 = .ok (.iadd, 1) := by decide +kernel
theorem d_L_law_883 : decode b_L_law 883 = .ok (.iaload, 1) := by decide +kernel
theorem d_L_law_884 : decode b_L_law 884 = .ok (.i2l, 1) := by decide +kernel
theorem d_L_law_885 : decode b_L_law 885 = .ok (.ldc2_w 73, 3) := by decide +kernel
theorem d_L_law_888 : decode b_L_law 888 = .ok (.land, 1) := by decide +kernel
theorem d_L_law_889 : decode b_L_law 889 = .ok (.lor, 1) := by decide +kernel
theorem d_L_law_890 : decode b_L_law 890 = .ok (.aload_n 0, 1) := by decide +kernel
theorem d_L_law_891 : decode b_L_law 891 = .ok (.iload 4, 2) := by decide +kernel
theorem d_L_law_893 : decode b_L_law 893 = .ok (.iconst 3, 1) := by decide +kernel
theorem d_L_law_894 : decode b_L_law 894 = .ok (.iadd, 1) := by decide +kernel
theorem d_L_law_895 : decode b_L_law 895 = .ok (.iaload, 1) := by decide +kernel
theorem d_L_law_896 : decode b_L_law 896 = .ok (.i2l, 1) := by decide +kernel
theorem d_L_law_897 : decode b_L_law 897 = .ok (.bipush 32, 2) := by decide +kernel
theorem d_L_law_899 : decode b_L_law 899 = .ok (.lshl, 1) := by decide +kernel
theorem d_L_law_900 : decode b_L_law 900 = .ok (.aload_n 0, 1) := by decide +kernel
theorem d_L_law_901 : decode b_L_law 901 = .ok (.iload 4, 2) := by decide +kernel
theorem d_L_law_903 : decode b_L_law 903 = .ok (.iconst 4, 1) := by decide +kernel
theorem d_L_law_904 : decode b_L_law 904 = .ok (.iadd, 1) := by decide +kernel
theorem d_L_law_905 : decode b_L_law 905 = .ok (.iaload, 1) := by decide +kernel
theorem d_L_law_906 : decode b_L_law 906 = .ok (.i2l, 1) := by decide +kernel
theorem d_L_law_907 : decode b_L_law 907 = .ok (.ldc2_w 73, 3) := by decide +kernel
theorem d_L_law_910 : decode b_L_law 910 = .ok (.land, 1) := by decide +kernel
theorem d_L_law_911 : decode b_L_law 911 = .ok (.lor, 1) := by decide +kernel
theorem d_L_law_912 : decode b_L_law 912 = .ok (.aload_n 3, 1) := by decide +kernel
theorem d_L_law_913 : decode b_L_law 913 = .ok (.invokestatic 118, 3) := by decide +kernel
theorem d_L_law_916 : decode b_L_law 916 = .ok (.istore 5, 2) := by decide +kernel
theorem d_L_law_918 : decode b_L_law 918 = .ok (.aload_n 2, 1) := by decide +kernel
theorem d_L_law_919 : decode b_L_law 919 = .ok (.aload_n 0, 1) := by decide +kernel
theorem d_L_law_920 : decode b_L_law 920 = .ok (.iload 4, 2) := by decide +kernel
theorem d_L_law_922 : decode b_L_law 922 = .ok (.iconst 1, 1) := by decide +kernel
theorem d_L_law_923 : decode b_L_law 923 = .ok (.iadd, 1) := by decide +kernel
theorem d_L_law_924 : decode b_L_law 924 = .ok (.iaload, 1) := by decide +kernel
theorem d_L_law_925 : decode b_L_law 925 = .ok (.i2l, 1) := by decide +kernel
theorem d_L_law_926 : decode b_L_law 926 = .ok (.bipush 32, 2) := by decide +kernel
theorem d_L_law_928 : decode b_L_law 928 = .ok (.lshl, 1) := by decide +kernel
theorem d_L_law_929 : decode b_L_law 929 = .ok (.aload_n 0, 1) := by decide +kernel
theorem d_L_law_930 : decode b_L_law 930 = .ok (.iload 4, 2) := by decide +kernel
theorem d_L_law_932 : decode b_L_law 932 = .ok (.iconst 2, 1) := by decide +kernel
theorem d_L_law_933 : decode b_L_law 933 = .ok (.iadd, 1) := by decide +kernel
theorem d_L_law_934 : decode b_L_law 934 = .ok (.iaload, 1) := by decide +kernel
theorem d_L_law_935 : decode b_L_law 935 = .ok (.i2l, 1) := by decide +kernel
theorem d_L_law_936 : decode b_L_law 936 = .ok (.ldc2_w 73, 3) := by decide +kernel
theorem d_L_law_939 : decode b_L_law 939 = .ok (.land, 1) := by decide +kernel
theorem d_L_law_940 : decode b_L_law 940 = .ok (.lor, 1) := by decide +kernel
theorem d_L_law_941 : decode b_L_law 941 = .ok (.aload_n 0, 1) := by decide +kernel
theorem d_L_law_942 : decode b_L_law 942 = .ok (.iload 4, 2) := by decide +kernel
theorem d_L_law_944 : decode b_L_law 944 = .ok (.iconst 3, 1) := by decide +kernel
theorem d_L_law_945 : decode b_L_law 945 = .ok (.iadd, 1) := by decide +kernel
theorem d_L_law_946 : decode b_L_law 946 = .ok (.iaload, 1) := by decide +kernel
theorem d_L_law_947 : decode b_L_law 947 = .ok (.i2l, 1) := by decide +kernel
theorem d_L_law_948 : decode b_L_law 948 = .ok (.bipush 32, 2) := by decide +kernel
theorem d_L_law_950 : decode b_L_law 950 = .ok (.lshl, 1) := by decide +kernel
theorem d_L_law_951 : decode b_L_law 951 = .ok (.aload_n 0, 1) := by decide +kernel
theorem d_L_law_952 : decode b_L_law 952 = .ok (.iload 4, 2) := by decide +kernel
theorem d_L_law_954 : decode b_L_law 954 = .ok (.iconst 4, 1) := by decide +kernel
theorem d_L_law_955 : decode b_L_law 955 = .ok (.iadd, 1) := by decide +kernel
theorem d_L_law_956 : decode b_L_law 956 = .ok (.iaload, 1) := by decide +kernel
theorem d_L_law_957 : decode b_L_law 957 = .ok (.i2l, 1) := by decide +kernel
theorem d_L_law_958 : decode b_L_law 958 = .ok (.ldc2_w 73, 3) := by decide +kernel
theorem d_L_law_961 : decode b_L_law 961 = .ok (.land, 1) := by decide +kernel
theorem d_L_law_962 : decode b_L_law 962 = .ok (.lor, 1) := by decide +kernel
theorem d_L_law_963 : decode b_L_law 963 = .ok (.invokevirtual 121, 3) := by decide +kernel
theorem d_L_law_966 : decode b_L_law 966 = .ok (.istore 6, 2) := by decide +kernel
theorem d_L_law_968 : decode b_L_law 968 = .ok (.aload_n 2, 1) := by decide +kernel
theorem d_L_law_969 : decode b_L_law 969 = .ok (.invokevirtual 81, 3) := by decide +kernel
theorem d_L_law_972 : decode b_L_law 972 = .ok (.iload 5, 2) := by decide +kernel
theorem d_L_law_974 : decode b_L_law 974 = .ok (.if_icmp .eq 5, 3) := by decide +kernel
theorem d_L_law_977 : decode b_L_law 977 = .ok (.iconst 0, 1) := by decide +kernel
theorem d_L_law_978 : decode b_L_law 978 = .ok (.ireturn, 1) := by decide +kernel
theorem d_L_law_979 : decode b_L_law 979 = .ok (.iload 5, 2) := by decide +kernel
theorem d_L_law_981 : decode b_L_law 981 = .ok (.ifCond .ne 15, 3) := by decide +kernel
theorem d_L_law_984 : decode b_L_law 984 = .ok (.aload_n 3, 1) := by decide +kernel
theorem d_L_law_985 : decode b_L_law 985 = .ok (.iconst 0, 1) := by decide +kernel
theorem d_L_law_986 : decode b_L_law 986 = .ok (.laload, 1) := by decide +kernel
theorem d_L_law_987 : decode b_L_law 987 = .ok (.iload 6, 2) := by decide +kernel
theorem d_L_law_989 : decode b_L_law 989 = .ok (.i2l, 1) := by decide +kernel
theorem d_L_law_990 : decode b_L_law 990 = .ok (.lcmp, 1) := by decide +kernel
theorem d_L_law_991 : decode b_L_law 991 = .ok (.ifCond .eq 5, 3) := by decide +kernel
theorem d_L_law_994 : decode b_L_law 994 = .ok (.iconst 0, 1) := by decide +kernel
theorem d_L_law_995 : decode b_L_law 995 = .ok (.ireturn, 1) := by decide +kernel
theorem d_L_law_996 : decode b_L_law 996 = .ok (.goto 334, 3) := by decide +kernel
theorem d_L_law_999 : decode b_L_law 999 = .ok (.aload_n 1, 1) := by decide +kernel
theorem d_L_law_1000 : decode b_L_law 1000 = .ok (.aload_n 0, 1) := by decide +kernel
theorem d_L_law_1001 : decode b_L_law 1001 = .ok (.iload 4, 2) := by decide +kernel
theorem d_L_law_1003 : decode b_L_law 1003 = .ok (.iconst 1, 1) := by decide +kernel
theorem d_L_law_1004 : decode b_L_law 1004 = .ok (.iadd, 1) := by decide +kernel
theorem d_L_law_1005 : decode b_L_law 1005 = .ok (.iaload, 1) := by decide +kernel
theorem d_L_law_1006 : decode b_L_law 1006 = .ok (.i2l, 1) := by decide +kernel
theorem d_L_law_1007 : decode b_L_law 1007 = .ok (.bipush 32, 2) := by decide +kernel
theorem d_L_law_1009 : decode b_L_law 1009 = .ok (.lshl, 1) := by decide +kernel
theorem d_L_law_1010 : decode b_L_law 1010 = .ok (.aload_n 0, 1) := by decide +kernel
theorem d_L_law_1011 : decode b_L_law 1011 = .ok (.iload 4, 2) := by decide +kernel
theorem d_L_law_1013 : decode b_L_law 1013 = .ok (.iconst 2, 1) := by decide +kernel
theorem d_L_law_1014 : decode b_L_law 1014 = .ok (.iadd, 1) := by decide +kernel
theorem d_L_law_1015 : decode b_L_law 1015 = .ok (.iaload, 1) := by decide +kernel
theorem d_L_law_1016 : decode b_L_law 1016 = .ok (.i2l, 1) := by decide +kernel
theorem d_L_law_1017 : decode b_L_law 1017 = .ok (.ldc2_w 73, 3) := by decide +kernel
theorem d_L_law_1020 : decode b_L_law 1020 = .ok (.land, 1) := by decide +kernel
theorem d_L_law_1021 : decode b_L_law 1021 = .ok (.lor, 1) := by decide +kernel
theorem d_L_law_1022 : decode b_L_law 1022 = .ok (.aload_n 0, 1) := by decide +kernel
theorem d_L_law_1023 : decode b_L_law 1023 = .ok (.iload 4, 2) := by decide +kernel
theorem d_L_law_1025 : decode b_L_law 1025 = .ok (.iconst 3, 1) := by decide +kernel
theorem d_L_law_1026 : decode b_L_law 1026 = .ok (.iadd, 1) := by decide +kernel
theorem d_L_law_1027 : decode b_L_law 1027 = .ok (.iaload, 1) := by decide +kernel
theorem d_L_law_1028 : decode b_L_law 1028 = .ok (.i2l, 1) := by decide +kernel
theorem d_L_law_1029 : decode b_L_law 1029 = .ok (.bipush 32, 2) := by decide +kernel
theorem d_L_law_1031 : decode b_L_law 1031 = .ok (.lshl, 1) := by decide +kernel
theorem d_L_law_1032 : decode b_L_law 1032 = .ok (.aload_n 0, 1) := by decide +kernel
theorem d_L_law_1033 : decode b_L_law 1033 = .ok (.iload 4, 2) := by decide +kernel
theorem d_L_law_1035 : decode b_L_law 1035 = .ok (.iconst 4, 1) := by decide +kernel
theorem d_L_law_1036 : decode b_L_law 1036 = .ok (.iadd, 1) := by decide +kernel
theorem d_L_law_1037 : decode b_L_law 1037 = .ok (.iaload, 1) := by decide +kernel
theorem d_L_law_1038 : decode b_L_law 1038 = .ok (.i2l, 1) := by decide +kernel
theorem d_L_law_1039 : decode b_L_law 1039 = .ok (.ldc2_w 73, 3) := by decide +kernel
theorem d_L_law_1042 : decode b_L_law 1042 = .ok (.land, 1) := by decide +kernel
theorem d_L_law_1043 : decode b_L_law 1043 = .ok (.lor, 1) := by decide +kernel
theorem d_L_law_1044 : decode b_L_law 1044 = .ok (.aload_n 3, 1) := by decide +kernel
theorem d_L_law_1045 : decode b_L_law 1045 = .ok (.invokestatic 122, 3) := by decide +kernel
theorem d_L_law_1048 : decode b_L_law 1048 = .ok (.istore 5, 2) := by decide +kernel
theorem d_L_law_1050 : decode b_L_law 1050 = .ok (.aload_n 2, 1) := by decide +kernel
theorem d_L_law_1051 : decode b_L_law 1051 = .ok (.aload_n 0, 1) := by decide +kernel
theorem d_L_law_1052 : decode b_L_law 1052 = .ok (.iload 4, 2) := by decide +kernel
theorem d_L_law_1054 : decode b_L_law 1054 = .ok (.iconst 1, 1) := by decide +kernel
theorem d_L_law_1055 : decode b_L_law 1055 = .ok (.iadd, 1) := by decide +kernel
theorem d_L_law_1056 : decode b_L_law 1056 = .ok (.iaload, 1) := by decide +kernel
theorem d_L_law_1057 : decode b_L_law 1057 = .ok (.i2l, 1) := by decide +kernel
theorem d_L_law_1058 : decode b_L_law 1058 = .ok (.bipush 32, 2) := by decide +kernel
theorem d_L_law_1060 : decode b_L_law 1060 = .ok (.lshl, 1) := by decide +kernel
theorem d_L_law_1061 : decode b_L_law 1061 = .ok (.aload_n 0, 1) := by decide +kernel
theorem d_L_law_1062 : decode b_L_law 1062 = .ok (.iload 4, 2) := by decide +kernel
theorem d_L_law_1064 : decode b_L_law 1064 = .ok (.iconst 2, 1) := by decide +kernel
theorem d_L_law_1065 : decode b_L_law 1065 = .ok (.iadd, 1) := by decide +kernel
theorem d_L_law_1066 : decode b_L_law 1066 = .ok (.iaload, 1) := by decide +kernel
theorem d_L_law_1067 : decode b_L_law 1067 = .ok (.i2l, 1) := by decide +kernel
theorem d_L_law_1068 : decode b_L_law 1068 = .ok (.ldc2_w 73, 3) := by decide +kernel
theorem d_L_law_1071 : decode b_L_law 1071 = .ok (.land, 1) := by decide +kernel
theorem d_L_law_1072 : decode b_L_law 1072 = .ok (.lor, 1) := by decide +kernel
theorem d_L_law_1073 : decode b_L_law 1073 = .ok (.aload_n 0, 1) := by decide +kernel
theorem d_L_law_1074 : decode b_L_law 1074 = .ok (.iload 4, 2) := by decide +kernel
theorem d_L_law_1076 : decode b_L_law 1076 = .ok (.iconst 3, 1) := by decide +kernel
theorem d_L_law_1077 : decode b_L_law 1077 = .ok (.iadd, 1) := by decide +kernel
theorem d_L_law_1078 : decode b_L_law 1078 = .ok (.iaload, 1) := by decide +kernel
theorem d_L_law_1079 : decode b_L_law 1079 = .ok (.i2l, 1) := by decide +kernel
theorem d_L_law_1080 : decode b_L_law 1080 = .ok (.bipush 32, 2) := by decide +kernel
theorem d_L_law_1082 : decode b_L_law 1082 = .ok (.lshl, 1) := by decide +kernel
theorem d_L_law_1083 : decode b_L_law 1083 = .ok (.aload_n 0, 1) := by decide +kernel
theorem d_L_law_1084 : decode b_L_law 1084 = .ok (.iload 4, 2) := by decide +kernel
theorem d_L_law_1086 : decode b_L_law 1086 = .ok (.iconst 4, 1) := by decide +kernel
theorem d_L_law_1087 : decode b_L_law 1087 = .ok (.iadd, 1) := by decide +kernel
theorem d_L_law_1088 : decode b_L_law 1088 = .ok (.iaload, 1) := by decide +kernel
theorem d_L_law_1089 : decode b_L_law 1089 = .ok (.i2l, 1) := by decide +kernel
theorem d_L_law_1090 : decode b_L_law 1090 = .ok (.ldc2_w 73, 3) := by decide +kernel
theorem d_L_law_1093 : decode b_L_law 1093 = .ok (.land, 1) := by decide +kernel
theorem d_L_law_1094 : decode b_L_law 1094 = .ok (.lor, 1) := by decide +kernel
theorem d_L_law_1095 : decode b_L_law 1095 = .ok (.invokevirtual 124, 3) := by decide +kernel
theorem d_L_law_1098 : decode b_L_law 1098 = .ok (.istore 6, 2) := by decide +kernel
theorem d_L_law_1100 : decode b_L_law 1100 = .ok (.aload_n 2, 1) := by decide +kernel
theorem d_L_law_1101 : decode b_L_law 1101 = .ok (.invokevirtual 81, 3) := by decide +kernel
theorem d_L_law_1104 : decode b_L_law 1104 = .ok (.iload 5, 2) := by decide +kernel
theorem d_L_law_1106 : decode b_L_law 1106 = .ok (.if_icmp .eq 5, 3) := by decide +kernel
theorem d_L_law_1109 : decode b_L_law 1109 = .ok (.iconst 0, 1) := by decide +kernel
theorem d_L_law_1110 : decode b_L_law 1110 = .ok (.ireturn, 1) := by decide +kernel
theorem d_L_law_1111 : decode b_L_law 1111 = .ok (.iload 5, 2) := by decide +kernel
theorem d_L_law_1113 : decode b_L_law 1113 = .ok (.ifCond .ne 15, 3) := by decide +kernel
theorem d_L_law_1116 : decode b_L_law 1116 = .ok (.aload_n 3, 1) := by decide +kernel
theorem d_L_law_1117 : decode b_L_law 1117 = .ok (.iconst 0, 1) := by decide +kernel
theorem d_L_law_1118 : decode b_L_law 1118 = .ok (.laload, 1) := by decide +kernel
theorem d_L_law_1119 : decode b_L_law 1119 = .ok (.iload 6, 2) := by decide +kernel
theorem d_L_law_1121 : decode b_L_law 1121 = .ok (.i2l, 1) := by decide +kernel
theorem d_L_law_1122 : decode b_L_law 1122 = .ok (.lcmp, 1) := by decide +kernel
theorem d_L_law_1123 : decode b_L_law 1123 = .ok (.ifCond .eq 5, 3) := by decide +kernel
theorem d_L_law_1126 : decode b_L_law 1126 = .ok (.iconst 0, 1) := by decide +kernel
theorem d_L_law_1127 : decode b_L_law 1127 = .ok (.ireturn, 1) := by decide +kernel
theorem d_L_law_1128 : decode b_L_law 1128 = .ok (.goto 202, 3) := by decide +kernel
theorem d_L_law_1131 : decode b_L_law 1131 = .ok (.aload_n 1, 1) := by decide +kernel
theorem d_L_law_1132 : decode b_L_law 1132 = .ok (.aload_n 0, 1) := by decide +kernel
theorem d_L_law_1133 : decode b_L_law 1133 = .ok (.iload 4, 2) := by decide +kernel
theorem d_L_law_1135 : decode b_L_law 1135 = .ok (.iconst 1, 1) := by decide +kernel
theorem d_L_law_1136 : decode b_L_law 1136 = .ok (.iadd, 1) := by decide +kernel
theorem d_L_law_1137 : decode b_L_law 1137 = .ok (.iaload, 1) := by decide +kernel
theorem d_L_law_1138 : decode b_L_law 1138 = .ok (.i2l, 1) := by decide +kernel
theorem d_L_law_1139 : decode b_L_law 1139 = .ok (.bipush 32, 2) := by decide +kernel
theorem d_L_law_1141 : decode b_L_law 1141 = .ok (.lshl, 1) := by decide +kernel
theorem d_L_law_1142 : decode b_L_law 1142 = .ok (.aload_n 0, 1) := by decide +kernel
theorem d_L_law_1143 : decode b_L_law 1143 = .ok (.iload 4, 2) := by decide +kernel
theorem d_L_law_1145 : decode b_L_law 1145 = .ok (.iconst 2, 1) := by decide +kernel
theorem d_L_law_1146 : decode b_L_law 1146 = .ok (.iadd, 1) := by decide +kernel
theorem d_L_law_1147 : decode b_L_law 1147 = .ok (.iaload, 1) := by decide +kernel
theorem d_L_law_1148 : decode b_L_law 1148 = .ok (.i2l, 1) := by decide +kernel
theorem d_L_law_1149 : decode b_L_law 1149 = .ok (.ldc2_w 73, 3) := by decide +kernel
theorem d_L_law_1152 : decode b_L_law 1152 = .ok (.land, 1) := by decide +kernel
theorem d_L_law_1153 : decode b_L_law 1153 = .ok (.lor, 1) := by decide +kernel
theorem d_L_law_1154 : decode b_L_law 1154 = .ok (.aload_n 3, 1) := by decide +kernel
theorem d_L_law_1155 : decode b_L_law 1155 = .ok (.invokestatic 125, 3) := by decide +kernel
theorem d_L_law_1158 : decode b_L_law 1158 = .ok (.istore 5, 2) := by decide +kernel
theorem d_L_law_1160 : decode b_L_law 1160 = .ok (.aload_n 2, 1) := by decide +kernel
theorem d_L_law_1161 : decode b_L_law 1161 = .ok (.aload_n 0, 1) := by decide +kernel
theorem d_L_law_1162 : decode b_L_law 1162 = .ok (.iload 4, 2) := by decide +kernel
theorem d_L_law_1164 : decode b_L_law 1164 = .ok (.iconst 1, 1) := by decide +kernel
theorem d_L_law_1165 : decode b_L_law 1165 = .ok (.iadd, 1) := by decide +kernel
theorem d_L_law_1166 : decode b_L_law 1166 = .ok (.iaload, 1) := by decide +kernel
theorem d_L_law_1167 : decode b_L_law 1167 = .ok (.i2l, 1) := by decide +kernel
theorem d_L_law_1168 : decode b_L_law 1168 = .ok (.bipush 32, 2) := by decide +kernel
theorem d_L_law_1170 : decode b_L_law 1170 = .ok (.lshl, 1) := by decide +kernel
theorem d_L_law_1171 : decode b_L_law 1171 = .ok (.aload_n 0, 1) := by decide +kernel
theorem d_L_law_1172 : decode b_L_law 1172 = .ok (.iload 4, 2) := by decide +kernel
theorem d_L_law_1174 : decode b_L_law 1174 = .ok (.iconst 2, 1) := by decide +kernel
theorem d_L_law_1175 : decode b_L_law 1175 = .ok (.iadd, 1) := by decide +kernel
theorem d_L_law_1176 : decode b_L_law 1176 = .ok (.iaload, 1) := by decide +kernel
theorem d_L_law_1177 : decode b_L_law 1177 = .ok (.i2l, 1) := by decide +kernel
theorem d_L_law_1178 : decode b_L_law 1178 = .ok (.ldc2_w 73, 3) := by decide +kernel
theorem d_L_law_1181 : decode b_L_law 1181 = .ok (.land, 1) := by decide +kernel
theorem d_L_law_1182 : decode b_L_law 1182 = .ok (.lor, 1) := by decide +kernel
theorem d_L_law_1183 : decode b_L_law 1183 = .ok (.invokevirtual 128, 3) := by decide +kernel
theorem d_L_law_1186 : decode b_L_law 1186 = .ok (.istore 6, 2) := by decide +kernel
theorem d_L_law_1188 : decode b_L_law 1188 = .ok (.aload_n 2, 1) := by decide +kernel
theorem d_L_law_1189 : decode b_L_law 1189 = .ok (.invokevirtual 81, 3) := by decide +kernel
theorem d_L_law_1192 : decode b_L_law 1192 = .ok (.iload 5, 2) := by decide +kernel
theorem d_L_law_1194 : decode b_L_law 1194 = .ok (.if_icmp .eq 5, 3) := by decide +kernel
theorem d_L_law_1197 : decode b_L_law 1197 = .ok (.iconst 0, 1) := by decide +kernel
theorem d_L_law_1198 : decode b_L_law 1198 = .ok (.ireturn, 1) := by decide +kernel
theorem d_L_law_1199 : decode b_L_law 1199 = .ok (.iload 5, 2) := by decide +kernel
theorem d_L_law_1201 : decode b_L_law 1201 = .ok (.ifCond .ne 15, 3) := by decide +kernel
theorem d_L_law_1204 : decode b_L_law 1204 = .ok (.aload_n 3, 1) := by decide +kernel
theorem d_L_law_1205 : decode b_L_law 1205 = .ok (.iconst 0, 1) := by decide +kernel
theorem d_L_law_1206 : decode b_L_law 1206 = .ok (.laload, 1) := by decide +kernel
theorem d_L_law_1207 : decode b_L_law 1207 = .ok (.iload 6, 2) := by decide +kernel
theorem d_L_law_1209 : decode b_L_law 1209 = .ok (.i2l, 1) := by decide +kernel
theorem d_L_law_1210 : decode b_L_law 1210 = .ok (.lcmp, 1) := by decide +kernel
theorem d_L_law_1211 : decode b_L_law 1211 = .ok (.ifCond .eq 5, 3) := by decide +kernel
theorem d_L_law_1214 : decode b_L_law 1214 = .ok (.iconst 0, 1) := by decide +kernel
theorem d_L_law_1215 : decode b_L_law 1215 = .ok (.ireturn, 1) := by decide +kernel
theorem d_L_law_1216 : decode b_L_law 1216 = .ok (.goto 114, 3) := by decide +kernel
theorem d_L_law_1219 : decode b_L_law 1219 = .ok (.aload_n 1, 1) := by decide +kernel
theorem d_L_law_1220 : decode b_L_law 1220 = .ok (.aload_n 0, 1) := by decide +kernel
theorem d_L_law_1221 : decode b_L_law 1221 = .ok (.iload 4, 2) := by decide +kernel
theorem d_L_law_1223 : decode b_L_law 1223 = .ok (.iconst 1, 1) := by decide +kernel
theorem d_L_law_1224 : decode b_L_law 1224 = .ok (.iadd, 1) := by decide +kernel
theorem d_L_law_1225 : decode b_L_law 1225 = .ok (.iaload, 1) := by decide +kernel
theorem d_L_law_1226 : decode b_L_law 1226 = .ok (.aload_n 3, 1) := by decide +kernel
theorem d_L_law_1227 : decode b_L_law 1227 = .ok (.invokestatic 129, 3) := by decide +kernel
theorem d_L_law_1230 : decode b_L_law 1230 = .ok (.istore 5, 2) := by decide +kernel
theorem d_L_law_1232 : decode b_L_law 1232 = .ok (.aload_n 2, 1) := by decide +kernel
theorem d_L_law_1233 : decode b_L_law 1233 = .ok (.aload_n 0, 1) := by decide +kernel
theorem d_L_law_1234 : decode b_L_law 1234 = .ok (.iload 4, 2) := by decide +kernel
theorem d_L_law_1236 : decode b_L_law 1236 = .ok (.iconst 1, 1) := by decide +kernel
theorem d_L_law_1237 : decode b_L_law 1237 = .ok (.iadd, 1) := by decide +kernel
theorem d_L_law_1238 : decode b_L_law 1238 = .ok (.iaload, 1) := by decide +kernel
theorem d_L_law_1239 : decode b_L_law 1239 = .ok (.invokevirtual 131, 3) := by decide +kernel
theorem d_L_law_1242 : decode b_L_law 1242 = .ok (.istore 6, 2) := by decide +kernel
theorem d_L_law_1244 : decode b_L_law 1244 = .ok (.aload_n 2, 1) := by decide +kernel
theorem d_L_law_1245 : decode b_L_law 1245 = .ok (.invokevirtual 81, 3) := by decide +kernel
theorem d_L_law_1248 : decode b_L_law 1248 = .ok (.iload 5, 2) := by decide +kernel
theorem d_L_law_1250 : decode b_L_law 1250 = .ok (.if_icmp .eq 5, 3) := by decide +kernel
theorem d_L_law_1253 : decode b_L_law 1253 = .ok (.iconst 0, 1) := by decide +kernel
theorem d_L_law_1254 : decode b_L_law 1254 = .ok (.ireturn, 1) := by decide +kernel
theorem d_L_law_1255 : decode b_L_law 1255 = .ok (.iload 5, 2) := by decide +kernel
theorem d_L_law_1257 : decode b_L_law 1257 = .ok (.ifCond .ne 15, 3) := by decide +kernel
theorem d_L_law_1260 : decode b_L_law 1260 = .ok (.aload_n 3, 1) := by decide +kernel
theorem d_L_law_1261 : decode b_L_law 1261 = .ok (.iconst 0, 1) := by decide +kernel
theorem d_L_law_1262 : decode b_L_law 1262 = .ok (.laload, 1) := by decide +kernel
theorem d_L_law_1263 : decode b_L_law 1263 = .ok (.iload 6, 2) := by decide +kernel
theorem d_L_law_1265 : decode b_L_law 1265 = .ok (.i2l, 1) := by decide +kernel
theorem d_L_law_1266 : decode b_L_law 1266 = .ok (.lcmp, 1) := by decide +kernel
theorem d_L_law_1267 : decode b_L_law 1267 = .ok (.ifCond .eq 5, 3) := by decide +kernel
theorem d_L_law_1270 : decode b_L_law 1270 = .ok (.iconst 0, 1) := by decide +kernel
theorem d_L_law_1271 : decode b_L_law 1271 = .ok (.ireturn, 1) := by decide +kernel
theorem d_L_law_1272 : decode b_L_law 1272 = .ok (.goto 58, 3) := by decide +kernel
theorem d_L_law_1275 : decode b_L_law 1275 = .ok (.aload_n 1, 1) := by decide +kernel
theorem d_L_law_1276 : decode b_L_law 1276 = .ok (.aload_n 0, 1) := by decide +kernel
theorem d_L_law_1277 : decode b_L_law 1277 = .ok (.iload 4, 2) := by decide +kernel
theorem d_L_law_1279 : decode b_L_law 1279 = .ok (.iconst 1, 1) := by decide +kernel
theorem d_L_law_1280 : decode b_L_law 1280 = .ok (.iadd, 1) := by decide +kernel
theorem d_L_law_1281 : decode b_L_law 1281 = .ok (.iaload, 1) := by decide +kernel
theorem d_L_law_1282 : decode b_L_law 1282 = .ok (.aload_n 3, 1) := by decide +kernel
theorem d_L_law_1283 : decode b_L_law 1283 = .ok (.invokestatic 132, 3) := by decide +kernel
theorem d_L_law_1286 : decode b_L_law 1286 = .ok (.istore 5, 2) := by decide +kernel
theorem d_L_law_1288 : decode b_L_law 1288 = .ok (.aload_n 2, 1) := by decide +kernel
theorem d_L_law_1289 : decode b_L_law 1289 = .ok (.aload_n 0, 1) := by decide +kernel
theorem d_L_law_1290 : decode b_L_law 1290 = .ok (.iload 4, 2) := by decide +kernel
theorem d_L_law_1292 : decode b_L_law 1292 = .ok (.iconst 1, 1) := by decide +kernel
theorem d_L_law_1293 : decode b_L_law 1293 = .ok (.iadd, 1) := by decide +kernel
theorem d_L_law_1294 : decode b_L_law 1294 = .ok (.iaload, 1) := by decide +kernel
theorem d_L_law_1295 : decode b_L_law 1295 = .ok (.invokevirtual 134, 3) := by decide +kernel
theorem d_L_law_1298 : decode b_L_law 1298 = .ok (.lstore 6, 2) := by decide +kernel
theorem d_L_law_1300 : decode b_L_law 1300 = .ok (.aload_n 2, 1) := by decide +kernel
theorem d_L_law_1301 : decode b_L_law 1301 = .ok (.invokevirtual 81, 3) := by decide +kernel
theorem d_L_law_1304 : decode b_L_law 1304 = .ok (.iload 5, 2) := by decide +kernel
theorem d_L_law_1306 : decode b_L_law 1306 = .ok (.if_icmp .eq 5, 3) := by decide +kernel
theorem d_L_law_1309 : decode b_L_law 1309 = .ok (.iconst 0, 1) := by decide +kernel
theorem d_L_law_1310 : decode b_L_law 1310 = .ok (.ireturn, 1) := by decide +kernel
theorem d_L_law_1311 : decode b_L_law 1311 = .ok (.iload 5, 2) := by decide +kernel
theorem d_L_law_1313 : decode b_L_law 1313 = .ok (.ifCond .ne 14, 3) := by decide +kernel
theorem d_L_law_1316 : decode b_L_law 1316 = .ok (.aload_n 3, 1) := by decide +kernel
theorem d_L_law_1317 : decode b_L_law 1317 = .ok (.iconst 0, 1) := by decide +kernel
theorem d_L_law_1318 : decode b_L_law 1318 = .ok (.laload, 1) := by decide +kernel
theorem d_L_law_1319 : decode b_L_law 1319 = .ok (.lload 6, 2) := by decide +kernel
theorem d_L_law_1321 : decode b_L_law 1321 = .ok (.lcmp, 1) := by decide +kernel
theorem d_L_law_1322 : decode b_L_law 1322 = .ok (.ifCond .eq 5, 3) := by decide +kernel
theorem d_L_law_1325 : decode b_L_law 1325 = .ok (.iconst 0, 1) := by decide +kernel
theorem d_L_law_1326 : decode b_L_law 1326 = .ok (.ireturn, 1) := by decide +kernel
theorem d_L_law_1327 : decode b_L_law 1327 = .ok (.goto 3, 3) := by decide +kernel
theorem d_L_law_1330 : decode b_L_law 1330 = .ok (.iinc 4 5, 3) := by decide +kernel
theorem d_L_law_1333 : decode b_L_law 1333 = .ok (.goto (-1310), 3) := by decide +kernel
theorem d_L_law_1336 : decode b_L_law 1336 = .ok (.iconst 1, 1) := by decide +kernel
theorem d_L_law_1337 : decode b_L_law 1337 = .ok (.ireturn, 1) := by decide +kernel
theorem d_M_init_0 : decode b_M_init 0 = .ok (.aload_n 0, 1) := by decide +kernel
theorem d_M_init_1 : decode b_M_init 1 = .ok (.invokespecial 1, 3) := by decide +kernel
theorem d_M_init_4 : decode b_M_init 4 = .ok (.aload_n 0, 1) := by decide +kernel
theorem d_M_init_5 : decode b_M_init 5 = .ok (.bipush 24, 2) := by decide +kernel
theorem d_M_init_7 : decode b_M_init 7 = .ok (.newarray .long, 2) := by decide +kernel
theorem d_M_init_9 : decode b_M_init 9 = .ok (.putfield 7, 3) := by decide +kernel
theorem d_M_init_12 : decode b_M_init 12 = .ok (.aload_n 0, 1) := by decide +kernel
theorem d_M_init_13 : decode b_M_init 13 = .ok (.bipush 24, 2) := by decide +kernel
theorem d_M_init_15 : decode b_M_init 15 = .ok (.newarray .int, 2) := by decide +kernel
theorem d_M_init_17 : decode b_M_init 17 = .ok (.putfield 13, 3) := by decide +kernel
theorem d_M_init_20 : decode b_M_init 20 = .ok (.aload_n 0, 1) := by decide +kernel
theorem d_M_init_21 : decode b_M_init 21 = .ok (.iconst 3, 1) := by decide +kernel
theorem d_M_init_22 : decode b_M_init 22 = .ok (.newarray .int, 2) := by decide +kernel
theorem d_M_init_24 : decode b_M_init 24 = .ok (.putfield 17, 3) := by decide +kernel
theorem d_M_init_27 : decode b_M_init 27 = .ok (.aload_n 0, 1) := by decide +kernel
theorem d_M_init_28 : decode b_M_init 28 = .ok (.iconst 3, 1) := by decide +kernel
theorem d_M_init_29 : decode b_M_init 29 = .ok (.newarray .int, 2) := by decide +kernel
theorem d_M_init_31 : decode b_M_init 31 = .ok (.putfield 20, 3) := by decide +kernel
theorem d_M_init_34 : decode b_M_init 34 = .ok (.aload_n 0, 1) := by decide +kernel
theorem d_M_init_35 : decode b_M_init 35 = .ok (.iconst 3, 1) := by decide +kernel
theorem d_M_init_36 : decode b_M_init 36 = .ok (.newarray .int, 2) := by decide +kernel
theorem d_M_init_38 : decode b_M_init 38 = .ok (.putfield 23, 3) := by decide +kernel
theorem d_M_init_41 : decode b_M_init 41 = .ok (.aload_n 0, 1) := by decide +kernel
theorem d_M_init_42 : decode b_M_init 42 = .ok (.bipush 72, 2) := by decide +kernel
theorem d_M_init_44 : decode b_M_init 44 = .ok (.newarray .long, 2) := by decide +kernel
theorem d_M_init_46 : decode b_M_init 46 = .ok (.putfield 26, 3) := by decide +kernel
theorem d_M_init_49 : decode b_M_init 49 = .ok (.aload_n 0, 1) := by decide +kernel
theorem d_M_init_50 : decode b_M_init 50 = .ok (.bipush 72, 2) := by decide +kernel
theorem d_M_init_52 : decode b_M_init 52 = .ok (.newarray .int, 2) := by decide +kernel
theorem d_M_init_54 : decode b_M_init 54 = .ok (.putfield 29, 3) := by decide +kernel
theorem d_M_init_57 : decode b_M_init 57 = .ok (.aload_n 0, 1) := by decide +kernel
theorem d_M_init_58 : decode b_M_init 58 = .ok (.iconst 3, 1) := by decide +kernel
theorem d_M_init_59 : decode b_M_init 59 = .ok (.newarray .int, 2) := by decide +kernel
theorem d_M_init_61 : decode b_M_init 61 = .ok (.putfield 32, 3) := by decide +kernel
theorem d_M_init_64 : decode b_M_init 64 = .ok (.aload_n 0, 1) := by decide +kernel
theorem d_M_init_65 : decode b_M_init 65 = .ok (.iconst 3, 1) := by decide +kernel
theorem d_M_init_66 : decode b_M_init 66 = .ok (.newarray .int, 2) := by decide +kernel
theorem d_M_init_68 : decode b_M_init 68 = .ok (.putfield 35, 3) := by decide +kernel
theorem d_M_init_71 : decode b_M_init 71 = .ok (.aload_n 0, 1) := by decide +kernel
theorem d_M_init_72 : decode b_M_init 72 = .ok (.sipush 216, 3) := by decide +kernel
theorem d_M_init_75 : decode b_M_init 75 = .ok (.newarray .int, 2) := by decide +kernel
theorem d_M_init_77 : decode b_M_init 77 = .ok (.putfield 38, 3) := by decide +kernel
theorem d_M_init_80 : decode b_M_init 80 = .ok (.aload_n 0, 1) := by decide +kernel
theorem d_M_init_81 : decode b_M_init 81 = .ok (.sipush 216, 3) := by decide +kernel
theorem d_M_init_84 : decode b_M_init 84 = .ok (.newarray .int, 2) := by decide +kernel
theorem d_M_init_86 : decode b_M_init 86 = .ok (.putfield 41, 3) := by decide +kernel
theorem d_M_init_89 : decode b_M_init 89 = .ok (.aload_n 0, 1) := by decide +kernel
theorem d_M_init_90 : decode b_M_init 90 = .ok (.sipush 216, 3) := by decide +kernel
theorem d_M_init_93 : decode b_M_init 93 = .ok (.newarray .int, 2) := by decide +kernel
theorem d_M_init_95 : decode b_M_init 95 = .ok (.putfield 44, 3) := by decide +kernel
theorem d_M_init_98 : decode b_M_init 98 = .ok (.aload_n 0, 1) := by decide +kernel
theorem d_M_init_99 : decode b_M_init 99 = .ok (.sipush 216, 3) := by decide +kernel
theorem d_M_init_102 : decode b_M_init 102 = .ok (.newarray .int, 2) := by decide +kernel
theorem d_M_init_104 : decode b_M_init 104 = .ok (.putfield 47, 3) := by decide +kernel
theorem d_M_init_107 : decode b_M_init 107 = .ok (.aload_n 0, 1) := by decide +kernel
theorem d_M_init_108 : decode b_M_init 108 = .ok (.sipush 216, 3) := by decide +kernel
theorem d_M_init_111 : decode b_M_init 111 = .ok (.newarray .long, 2) := by decide +kernel
theorem d_M_init_113 : decode b_M_init 113 = .ok (.putfield 50, 3) := by decide +kernel
theorem d_M_init_116 : decode b_M_init 116 = .ok (.aload_n 0, 1) := by decide +kernel
theorem d_M_init_117 : decode b_M_init 117 = .ok (.bipush 24, 2) := by decide +kernel
theorem d_M_init_119 : decode b_M_init 119 = .ok (.newarray .long, 2) := by decide +kernel
theorem d_M_init_121 : decode b_M_init 121 = .ok (.putfield 53, 3) := by decide +kernel
theorem d_M_init_124 : decode b_M_init 124 = .ok (.aload_n 0, 1) := by decide +kernel
theorem d_M_init_125 : decode b_M_init 125 = .ok (.bipush 24, 2) := by decide +kernel
theorem d_M_init_127 : decode b_M_init 127 = .ok (.newarray .int, 2) := by decide +kernel
theorem d_M_init_129 : decode b_M_init 129 = .ok (.putfield 56, 3) := by decide +kernel
theorem d_M_init_132 : decode b_M_init 132 = .ok (.aload_n 0, 1) := by decide +kernel
theorem d_M_init_133 : decode b_M_init 133 = .ok (.bipush 81, 2) := by decide +kernel
theorem d_M_init_135 : decode b_M_init 135 = .ok (.newarray .int, 2) := by decide +kernel
theorem d_M_init_137 : decode b_M_init 137 = .ok (.putfield 59, 3) := by decide +kernel
theorem d_M_init_140 : decode b_M_init 140 = .ok (.aload_n 0, 1) := by decide +kernel
theorem d_M_init_141 : decode b_M_init 141 = .ok (.bipush 40, 2) := by decide +kernel
theorem d_M_init_143 : decode b_M_init 143 = .ok (.newarray .long, 2) := by decide +kernel
theorem d_M_init_145 : decode b_M_init 145 = .ok (.putfield 62, 3) := by decide +kernel
theorem d_M_init_148 : decode b_M_init 148 = .ok (.aload_n 0, 1) := by decide +kernel
theorem d_M_init_149 : decode b_M_init 149 = .ok (.bipush 40, 2) := by decide +kernel
theorem d_M_init_151 : decode b_M_init 151 = .ok (.newarray .long, 2) := by decide +kernel
theorem d_M_init_153 : decode b_M_init 153 = .ok (.putfield 65, 3) := by decide +kernel
theorem d_M_init_156 : decode b_M_init 156 = .ok (.aload_n 0, 1) := by decide +kernel
theorem d_M_init_157 : decode b_M_init 157 = .ok (.bipush 40, 2) := by decide +kernel
theorem d_M_init_159 : decode b_M_init 159 = .ok (.newarray .int, 2) := by decide +kernel
theorem d_M_init_161 : decode b_M_init 161 = .ok (.putfield 68, 3) := by decide +kernel
theorem d_M_init_164 : decode b_M_init 164 = .ok (.aload_n 0, 1) := by decide +kernel
theorem d_M_init_165 : decode b_M_init 165 = .ok (.iconst 4, 1) := by decide +kernel
theorem d_M_init_166 : decode b_M_init 166 = .ok (.newarray .long, 2) := by decide +kernel
theorem d_M_init_168 : decode b_M_init 168 = .ok (.putfield 71, 3) := by decide +kernel
theorem d_M_init_171 : decode b_M_init 171 = .ok (.aload_n 0, 1) := by decide +kernel
theorem d_M_init_172 : decode b_M_init 172 = .ok (.iconst 4, 1) := by decide +kernel
theorem d_M_init_173 : decode b_M_init 173 = .ok (.newarray .long, 2) := by decide +kernel
theorem d_M_init_175 : decode b_M_init 175 = .ok (.putfield 74, 3) := by decide +kernel
theorem d_M_init_178 : decode b_M_init 178 = .ok (.aload_n 0, 1) := by decide +kernel
theorem d_M_init_179 : decode b_M_init 179 = .ok (.iconst 4, 1) := by decide +kernel
theorem d_M_init_180 : decode b_M_init 180 = .ok (.newarray .int, 2) := by decide +kernel
theorem d_M_init_182 : decode b_M_init 182 = .ok (.putfield 77, 3) := by decide +kernel
theorem d_M_init_185 : decode b_M_init 185 = .ok (.aload_n 0, 1) := by decide +kernel
theorem d_M_init_186 : decode b_M_init 186 = .ok (.bipush 96, 2) := by decide +kernel
theorem d_M_init_188 : decode b_M_init 188 = .ok (.newarray .long, 2) := by decide +kernel
theorem d_M_init_190 : decode b_M_init 190 = .ok (.putfield 80, 3) := by decide +kernel
theorem d_M_init_193 : decode b_M_init 193 = .ok (.aload_n 0, 1) := by decide +kernel
theorem d_M_init_194 : decode b_M_init 194 = .ok (.bipush 96, 2) := by decide +kernel
theorem d_M_init_196 : decode b_M_init 196 = .ok (.newarray .int, 2) := by decide +kernel
theorem d_M_init_198 : decode b_M_init 198 = .ok (.putfield 83, 3) := by decide +kernel
theorem d_M_init_201 : decode b_M_init 201 = .ok (.aload_n 0, 1) := by decide +kernel
theorem d_M_init_202 : decode b_M_init 202 = .ok (.iconst 4, 1) := by decide +kernel
theorem d_M_init_203 : decode b_M_init 203 = .ok (.newarray .int, 2) := by decide +kernel
theorem d_M_init_205 : decode b_M_init 205 = .ok (.putfield 86, 3) := by decide +kernel
theorem d_M_init_208 : decode b_M_init 208 = .ok (.return_, 1) := by decide +kernel
theorem d_M_thrown_0 : decode b_M_thrown 0 = .ok (.aload_n 0, 1) := by decide +kernel
theorem d_M_thrown_1 : decode b_M_thrown 1 = .ok (.getfield 89, 3) := by decide +kernel
theorem d_M_thrown_4 : decode b_M_thrown 4 = .ok (.ireturn, 1) := by decide +kernel
theorem d_M_throwing_0 : decode b_M_throwing 0 = .ok (.aload_n 0, 1) := by decide +kernel
theorem d_M_throwing_1 : decode b_M_throwing 1 = .ok (.iload_n 1, 1) := by decide +kernel
theorem d_M_throwing_2 : decode b_M_throwing 2 = .ok (.ifCond .eq 7, 3) := by decide +kernel
theorem d_M_throwing_5 : decode b_M_throwing 5 = .ok (.iconst 1, 1) := by decide +kernel
theorem d_M_throwing_6 : decode b_M_throwing 6 = .ok (.goto 12, 3) := by decide +kernel
theorem d_M_throwing_9 : decode b_M_throwing 9 = .ok (.iload_n 2, 1) := by decide +kernel
theorem d_M_throwing_10 : decode b_M_throwing 10 = .ok (.ifCond .eq 7, 3) := by decide +kernel
theorem d_M_throwing_13 : decode b_M_throwing 13 = .ok (.iconst 2, 1) := by decide +kernel
theorem d_M_throwing_14 : decode b_M_throwing 14 = .ok (.goto 4, 3) := by decide +kernel
theorem d_M_throwing_17 : decode b_M_throwing 17 = .ok (.iconst 0, 1) := by decide +kernel
theorem d_M_throwing_18 : decode b_M_throwing 18 = .ok (.putfield 89, 3) := by decide +kernel
theorem d_M_throwing_21 : decode b_M_throwing 21 = .ok (.aload_n 0, 1) := by decide +kernel
theorem d_M_throwing_22 : decode b_M_throwing 22 = .ok (.getfield 89, 3) := by decide +kernel
theorem d_M_throwing_25 : decode b_M_throwing 25 = .ok (.ifCond .le 7, 3) := by decide +kernel
theorem d_M_throwing_28 : decode b_M_throwing 28 = .ok (.iconst 1, 1) := by decide +kernel
theorem d_M_throwing_29 : decode b_M_throwing 29 = .ok (.goto 4, 3) := by decide +kernel
theorem d_M_throwing_32 : decode b_M_throwing 32 = .ok (.iconst 0, 1) := by decide +kernel
theorem d_M_throwing_33 : decode b_M_throwing 33 = .ok (.ireturn, 1) := by decide +kernel
theorem d_M_lettersOf_0 : decode b_M_lettersOf 0 = .ok (.iconst 0, 1) := by decide +kernel
theorem d_M_lettersOf_1 : decode b_M_lettersOf 1 = .ok (.istore_n 2, 1) := by decide +kernel
theorem d_M_lettersOf_2 : decode b_M_lettersOf 2 = .ok (.iload_n 2, 1) := by decide +kernel
theorem d_M_lettersOf_3 : decode b_M_lettersOf 3 = .ok (.bipush 8, 2) := by decide +kernel
theorem d_M_lettersOf_5 : decode b_M_lettersOf 5 = .ok (.if_icmp .ge 20, 3) := by decide +kernel
theorem d_M_lettersOf_8 : decode b_M_lettersOf 8 = .ok (.lload_n 0, 1) := by decide +kernel
theorem d_M_lettersOf_9 : decode b_M_lettersOf 9 = .ok (.bipush 8, 2) := by decide +kernel
theorem d_M_lettersOf_11 : decode b_M_lettersOf 11 = .ok (.iload_n 2, 1) := by decide +kernel
theorem d_M_lettersOf_12 : decode b_M_lettersOf 12 = .ok (.imul, 1) := by decide +kernel
theorem d_M_lettersOf_13 : decode b_M_lettersOf 13 = .ok (.lshr, 1) := by decide +kernel
theorem d_M_lettersOf_14 : decode b_M_lettersOf 14 = .ok (.lconst 0, 1) := by decide +kernel
theorem d_M_lettersOf_15 : decode b_M_lettersOf 15 = .ok (.lcmp, 1) := by decide +kernel
theorem d_M_lettersOf_16 : decode b_M_lettersOf 16 = .ok (.ifCond .eq 9, 3) := by decide +kernel
theorem d_M_lettersOf_19 : decode b_M_lettersOf 19 = .ok (.iinc 2 1, 3) := by decide +kernel
theorem d_M_lettersOf_22 : decode b_M_lettersOf 22 = .ok (.goto (-20), 3) := by decide +kernel
theorem d_M_lettersOf_25 : decode b_M_lettersOf 25 = .ok (.iload_n 2, 1) := by decide +kernel
theorem d_M_lettersOf_26 : decode b_M_lettersOf 26 = .ok (.ireturn, 1) := by decide +kernel
theorem d_M_isText_0 : decode b_M_isText 0 = .ok (.lload_n 0, 1) := by decide +kernel
theorem d_M_isText_1 : decode b_M_isText 1 = .ok (.lconst 0, 1) := by decide +kernel
theorem d_M_isText_2 : decode b_M_isText 2 = .ok (.lcmp, 1) := by decide +kernel
theorem d_M_isText_3 : decode b_M_isText 3 = .ok (.ifCond .lt 7, 3) := by decide +kernel
theorem d_M_isText_6 : decode b_M_isText 6 = .ok (.iconst 1, 1) := by decide +kernel
theorem d_M_isText_7 : decode b_M_isText 7 = .ok (.goto 4, 3) := by decide +kernel
theorem d_M_isText_10 : decode b_M_isText 10 = .ok (.iconst 0, 1) := by decide +kernel
theorem d_M_isText_11 : decode b_M_isText 11 = .ok (.istore_n 2, 1) := by decide +kernel
theorem d_M_isText_12 : decode b_M_isText 12 = .ok (.lload_n 0, 1) := by decide +kernel
theorem d_M_isText_13 : decode b_M_isText 13 = .ok (.invokestatic 93, 3) := by decide +kernel
theorem d_M_isText_16 : decode b_M_isText 16 = .ok (.istore_n 3, 1) := by decide +kernel
theorem d_M_isText_17 : decode b_M_isText 17 = .ok (.iconst 0, 1) := by decide +kernel
theorem d_M_isText_18 : decode b_M_isText 18 = .ok (.istore 4, 2) := by decide +kernel
theorem d_M_isText_20 : decode b_M_isText 20 = .ok (.iload 4, 2) := by decide +kernel
theorem d_M_isText_22 : decode b_M_isText 22 = .ok (.iload_n 3, 1) := by decide +kernel
theorem d_M_isText_23 : decode b_M_isText 23 = .ok (.if_icmp .ge 50, 3) := by decide +kernel
theorem d_M_isText_26 : decode b_M_isText 26 = .ok (.lload_n 0, 1) := by decide +kernel
theorem d_M_isText_27 : decode b_M_isText 27 = .ok (.bipush 8, 2) := by decide +kernel
theorem d_M_isText_29 : decode b_M_isText 29 = .ok (.iload 4, 2) := by decide +kernel
theorem d_M_isText_31 : decode b_M_isText 31 = .ok (.imul, 1) := by decide +kernel
theorem d_M_isText_32 : decode b_M_isText 32 = .ok (.lshr, 1) := by decide +kernel
theorem d_M_isText_33 : decode b_M_isText 33 = .ok (.ldc2_w 97, 3) := by decide +kernel
theorem d_M_isText_36 : decode b_M_isText 36 = .ok (.land, 1) := by decide +kernel
theorem d_M_isText_37 : decode b_M_isText 37 = .ok (.lstore 5, 2) := by decide +kernel
theorem d_M_isText_39 : decode b_M_isText 39 = .ok (.iload_n 2, 1) := by decide +kernel
theorem d_M_isText_40 : decode b_M_isText 40 = .ok (.ifCond .eq 25, 3) := by decide +kernel
theorem d_M_isText_43 : decode b_M_isText 43 = .ok (.lload 5, 2) := by decide +kernel
theorem d_M_isText_45 : decode b_M_isText 45 = .ok (.ldc2_w 99, 3) := by decide +kernel
theorem d_M_isText_48 : decode b_M_isText 48 = .ok (.lcmp, 1) := by decide +kernel
theorem d_M_isText_49 : decode b_M_isText 49 = .ok (.ifCond .lt 16, 3) := by decide +kernel
theorem d_M_isText_52 : decode b_M_isText 52 = .ok (.lload 5, 2) := by decide +kernel
theorem d_M_isText_54 : decode b_M_isText 54 = .ok (.ldc2_w 101, 3) := by decide +kernel
theorem d_M_isText_57 : decode b_M_isText 57 = .ok (.lcmp, 1) := by decide +kernel
theorem d_M_isText_58 : decode b_M_isText 58 = .ok (.ifCond .gt 7, 3) := by decide +kernel
theorem d_M_isText_61 : decode b_M_isText 61 = .ok (.iconst 1, 1) := by decide +kernel
theorem d_M_isText_62 : decode b_M_isText 62 = .ok (.goto 4, 3) := by decide +kernel
theorem d_M_isText_65 : decode b_M_isText 65 = .ok (.iconst 0, 1) := by decide +kernel
theorem d_M_isText_66 : decode b_M_isText 66 = .ok (.istore_n 2, 1) := by decide +kernel
theorem d_M_isText_67 : decode b_M_isText 67 = .ok (.iinc 4 1, 3) := by decide +kernel
theorem d_M_isText_70 : decode b_M_isText 70 = .ok (.goto (-50), 3) := by decide +kernel
theorem d_M_isText_73 : decode b_M_isText 73 = .ok (.iload_n 2, 1) := by decide +kernel
theorem d_M_isText_74 : decode b_M_isText 74 = .ok (.ireturn, 1) := by decide +kernel
theorem d_M_isWord_0 : decode b_M_isWord 0 = .ok (.lload_n 0, 1) := by decide +kernel
theorem d_M_isWord_1 : decode b_M_isWord 1 = .ok (.lconst 0, 1) := by decide +kernel
theorem d_M_isWord_2 : decode b_M_isWord 2 = .ok (.lcmp, 1) := by decide +kernel
theorem d_M_isWord_3 : decode b_M_isWord 3 = .ok (.ifCond .eq 14, 3) := by decide +kernel
theorem d_M_isWord_6 : decode b_M_isWord 6 = .ok (.lload_n 0, 1) := by decide +kernel
theorem d_M_isWord_7 : decode b_M_isWord 7 = .ok (.invokestatic 103, 3) := by decide +kernel
theorem d_M_isWord_10 : decode b_M_isWord 10 = .ok (.ifCond .eq 7, 3) := by decide +kernel
theorem d_M_isWord_13 : decode b_M_isWord 13 = .ok (.iconst 1, 1) := by decide +kernel
theorem d_M_isWord_14 : decode b_M_isWord 14 = .ok (.goto 4, 3) := by decide +kernel
theorem d_M_isWord_17 : decode b_M_isWord 17 = .ok (.iconst 0, 1) := by decide +kernel
theorem d_M_isWord_18 : decode b_M_isWord 18 = .ok (.ireturn, 1) := by decide +kernel
theorem d_M_at_0 : decode b_M_at 0 = .ok (.lload_n 0, 1) := by decide +kernel
theorem d_M_at_1 : decode b_M_at 1 = .ok (.invokestatic 93, 3) := by decide +kernel
theorem d_M_at_4 : decode b_M_at 4 = .ok (.istore_n 3, 1) := by decide +kernel
theorem d_M_at_5 : decode b_M_at 5 = .ok (.iload_n 2, 1) := by decide +kernel
theorem d_M_at_6 : decode b_M_at 6 = .ok (.iload_n 3, 1) := by decide +kernel
theorem d_M_at_7 : decode b_M_at 7 = .ok (.if_icmp .ge 21, 3) := by decide +kernel
theorem d_M_at_10 : decode b_M_at 10 = .ok (.lload_n 0, 1) := by decide +kernel
theorem d_M_at_11 : decode b_M_at 11 = .ok (.bipush 8, 2) := by decide +kernel
theorem d_M_at_13 : decode b_M_at 13 = .ok (.iload_n 3, 1) := by decide +kernel
theorem d_M_at_14 : decode b_M_at 14 = .ok (.iconst 1, 1) := by decide +kernel
theorem d_M_at_15 : decode b_M_at 15 = .ok (.isub, 1) := by decide +kernel
theorem d_M_at_16 : decode b_M_at 16 = .ok (.iload_n 2, 1) := by decide +kernel
theorem d_M_at_17 : decode b_M_at 17 = .ok (.isub, 1) := by decide +kernel
theorem d_M_at_18 : decode b_M_at 18 = .ok (.imul, 1) := by decide +kernel
theorem d_M_at_19 : decode b_M_at 19 = .ok (.lshr, 1) := by decide +kernel
theorem d_M_at_20 : decode b_M_at 20 = .ok (.ldc2_w 97, 3) := by decide +kernel
theorem d_M_at_23 : decode b_M_at 23 = .ok (.land, 1) := by decide +kernel
theorem d_M_at_24 : decode b_M_at 24 = .ok (.l2i, 1) := by decide +kernel
theorem d_M_at_25 : decode b_M_at 25 = .ok (.goto 4, 3) := by decide +kernel
theorem d_M_at_28 : decode b_M_at 28 = .ok (.iconst 0, 1) := by decide +kernel
theorem d_M_at_29 : decode b_M_at 29 = .ok (.ireturn, 1) := by decide +kernel
theorem d_M_isBefore_0 : decode b_M_isBefore 0 = .ok (.iconst 0, 1) := by decide +kernel
theorem d_M_isBefore_1 : decode b_M_isBefore 1 = .ok (.istore 4, 2) := by decide +kernel
theorem d_M_isBefore_3 : decode b_M_isBefore 3 = .ok (.iload 4, 2) := by decide +kernel
theorem d_M_isBefore_5 : decode b_M_isBefore 5 = .ok (.bipush 8, 2) := by decide +kernel
theorem d_M_isBefore_7 : decode b_M_isBefore 7 = .ok (.if_icmp .ge 45, 3) := by decide +kernel
theorem d_M_isBefore_10 : decode b_M_isBefore 10 = .ok (.lload_n 0, 1) := by decide +kernel
theorem d_M_isBefore_11 : decode b_M_isBefore 11 = .ok (.iload 4, 2) := by decide +kernel
theorem d_M_isBefore_13 : decode b_M_isBefore 13 = .ok (.invokestatic 107, 3) := by decide +kernel
theorem d_M_isBefore_16 : decode b_M_isBefore 16 = .ok (.lload_n 2, 1) := by decide +kernel
theorem d_M_isBefore_17 : decode b_M_isBefore 17 = .ok (.iload 4, 2) := by decide +kernel
theorem d_M_isBefore_19 : decode b_M_isBefore 19 = .ok (.invokestatic 107, 3) := by decide +kernel
theorem d_M_isBefore_22 : decode b_M_isBefore 22 = .ok (.if_icmp .eq 24, 3) := by decide +kernel
theorem d_M_isBefore_25 : decode b_M_isBefore 25 = .ok (.lload_n 0, 1) := by decide +kernel
theorem d_M_isBefore_26 : decode b_M_isBefore 26 = .ok (.iload 4, 2) := by decide +kernel
theorem d_M_isBefore_28 : decode b_M_isBefore 28 = .ok (.invokestatic 107, 3) := by decide +kernel
theorem d_M_isBefore_31 : decode b_M_isBefore 31 = .ok (.lload_n 2, 1) := by decide +kernel
theorem d_M_isBefore_32 : decode b_M_isBefore 32 = .ok (.iload 4, 2) := by decide +kernel
theorem d_M_isBefore_34 : decode b_M_isBefore 34 = .ok (.invokestatic 107, 3) := by decide +kernel
theorem d_M_isBefore_37 : decode b_M_isBefore 37 = .ok (.if_icmp .ge 7, 3) := by decide +kernel
theorem d_M_isBefore_40 : decode b_M_isBefore 40 = .ok (.iconst 1, 1) := by decide +kernel
theorem d_M_isBefore_41 : decode b_M_isBefore 41 = .ok (.goto 4, 3) := by decide +kernel
theorem d_M_isBefore_44 : decode b_M_isBefore 44 = .ok (.iconst 0, 1) := by decide +kernel
theorem d_M_isBefore_45 : decode b_M_isBefore 45 = .ok (.ireturn, 1) := by decide +kernel
theorem d_M_isBefore_46 : decode b_M_isBefore 46 = .ok (.iinc 4 1, 3) := by decide +kernel
theorem d_M_isBefore_49 : decode b_M_isBefore 49 = .ok (.goto (-46), 3) := by decide +kernel
theorem d_M_isBefore_52 : decode b_M_isBefore 52 = .ok (.iconst 0, 1) := by decide +kernel
theorem d_M_isBefore_53 : decode b_M_isBefore 53 = .ok (.ireturn, 1) := by decide +kernel
theorem d_M_common_0 : decode b_M_common 0 = .ok (.iconst 0, 1) := by decide +kernel
theorem d_M_common_1 : decode b_M_common 1 = .ok (.istore 4, 2) := by decide +kernel
theorem d_M_common_3 : decode b_M_common 3 = .ok (.iload 4, 2) := by decide +kernel
theorem d_M_common_5 : decode b_M_common 5 = .ok (.bipush 8, 2) := by decide +kernel
theorem d_M_common_7 : decode b_M_common 7 = .ok (.if_icmp .ge 33, 3) := by decide +kernel
theorem d_M_common_10 : decode b_M_common 10 = .ok (.lload_n 0, 1) := by decide +kernel
theorem d_M_common_11 : decode b_M_common 11 = .ok (.iload 4, 2) := by decide +kernel
theorem d_M_common_13 : decode b_M_common 13 = .ok (.invokestatic 107, 3) := by decide +kernel
theorem d_M_common_16 : decode b_M_common 16 = .ok (.ifCond .eq 24, 3) := by decide +kernel
theorem d_M_common_19 : decode b_M_common 19 = .ok (.lload_n 0, 1) := by decide +kernel
theorem d_M_common_20 : decode b_M_common 20 = .ok (.iload 4, 2) := by decide +kernel
theorem d_M_common_22 : decode b_M_common 22 = .ok (.invokestatic 107, 3) := by decide +kernel
theorem d_M_common_25 : decode b_M_common 25 = .ok (.lload_n 2, 1) := by decide +kernel
theorem d_M_common_26 : decode b_M_common 26 = .ok (.iload 4, 2) := by decide +kernel
theorem d_M_common_28 : decode b_M_common 28 = .ok (.invokestatic 107, 3) := by decide +kernel
theorem d_M_common_31 : decode b_M_common 31 = .ok (.if_icmp .ne 9, 3) := by decide +kernel
theorem d_M_common_34 : decode b_M_common 34 = .ok (.iinc 4 1, 3) := by decide +kernel
theorem d_M_common_37 : decode b_M_common 37 = .ok (.goto (-34), 3) := by decide +kernel
theorem d_M_common_40 : decode b_M_common 40 = .ok (.iload 4, 2) := by decide +kernel
theorem d_M_common_42 : decode b_M_common 42 = .ok (.ireturn, 1) := by decide +kernel
theorem d_M_word_0 : decode b_M_word 0 = .ok (.lload_n 1, 1) := by decide +kernel
theorem d_M_word_1 : decode b_M_word 1 = .ok (.invokestatic 111, 3) := by decide +kernel
theorem d_M_word_4 : decode b_M_word 4 = .ok (.ifCond .eq 14, 3) := by decide +kernel
theorem d_M_word_7 : decode b_M_word 7 = .ok (.iload_n 3, 1) := by decide +kernel
theorem d_M_word_8 : decode b_M_word 8 = .ok (.ifCond .lt 10, 3) := by decide +kernel
theorem d_M_word_11 : decode b_M_word 11 = .ok (.iload_n 3, 1) := by decide +kernel
theorem d_M_word_12 : decode b_M_word 12 = .ok (.sipush 9999, 3) := by decide +kernel
theorem d_M_word_15 : decode b_M_word 15 = .ok (.if_icmp .le 7, 3) := by decide +kernel
theorem d_M_word_18 : decode b_M_word 18 = .ok (.iconst 1, 1) := by decide +kernel
theorem d_M_word_19 : decode b_M_word 19 = .ok (.goto 4, 3) := by decide +kernel
theorem d_M_word_22 : decode b_M_word 22 = .ok (.iconst 0, 1) := by decide +kernel
theorem d_M_word_23 : decode b_M_word 23 = .ok (.istore 4, 2) := by decide +kernel
theorem d_M_word_25 : decode b_M_word 25 = .ok (.iconst 0, 1) := by decide +kernel
theorem d_M_word_26 : decode b_M_word 26 = .ok (.istore 5, 2) := by decide +kernel
theorem d_M_word_28 : decode b_M_word 28 = .ok (.iload 5, 2) := by decide +kernel
theorem d_M_word_30 : decode b_M_word 30 = .ok (.aload_n 0, 1) := by decide +kernel
theorem d_M_word_31 : decode b_M_word 31 = .ok (.getfield 114, 3) := by decide +kernel
theorem d_M_word_34 : decode b_M_word 34 = .ok (.if_icmp .ge 21, 3) := by decide +kernel
theorem d_M_word_37 : decode b_M_word 37 = .ok (.aload_n 0, 1) := by decide +kernel
theorem d_M_word_38 : decode b_M_word 38 = .ok (.getfield 7, 3) := by decide +kernel
theorem d_M_word_41 : decode b_M_word 41 = .ok (.iload 5, 2) := by decide +kernel
theorem d_M_word_43 : decode b_M_word 43 = .ok (.laload, 1) := by decide +kernel
theorem d_M_word_44 : decode b_M_word 44 = .ok (.lload_n 1, 1) := by decide +kernel
theorem d_M_word_45 : decode b_M_word 45 = .ok (.lcmp, 1) := by decide +kernel
theorem d_M_word_46 : decode b_M_word 46 = .ok (.ifCond .eq 9, 3) := by decide +kernel
theorem d_M_word_49 : decode b_M_word 49 = .ok (.iinc 5 1, 3) := by decide +kernel
theorem d_M_word_52 : decode b_M_word 52 = .ok (.goto (-24), 3) := by decide +kernel
theorem d_M_word_55 : decode b_M_word 55 = .ok (.aload_n 0, 1) := by decide +kernel
theorem d_M_word_56 : decode b_M_word 56 = .ok (.iload 4, 2) := by decide +kernel
theorem d_M_word_58 : decode b_M_word 58 = .ok (.iload 5, 2) := by decide +kernel
theorem d_M_word_60 : decode b_M_word 60 = .ok (.bipush 24, 2) := by decide +kernel
theorem d_M_word_62 : decode b_M_word 62 = .ok (.if_icmp .ne 7, 3) := by decide +kernel
theorem d_M_word_65 : decode b_M_word 65 = .ok (.iconst 1, 1) := by decide +kernel
theorem d_M_word_66 : decode b_M_word 66 = .ok (.goto 4, 3) := by decide +kernel
theorem d_M_word_69 : decode b_M_word 69 = .ok (.iconst 0, 1) := by decide +kernel
theorem d_M_word_70 : decode b_M_word 70 = .ok (.invokevirtual 117, 3) := by decide +kernel
theorem d_M_word_73 : decode b_M_word 73 = .ok (.ifCond .eq 5, 3) := by decide +kernel
theorem d_M_word_76 : decode b_M_word 76 = .ok (.iconst 0, 1) := by decide +kernel
theorem d_M_word_77 : decode b_M_word 77 = .ok (.ireturn, 1) := by decide +kernel
theorem d_M_word_78 : decode b_M_word 78 = .ok (.iload 5, 2) := by decide +kernel
theorem d_M_word_80 : decode b_M_word 80 = .ok (.aload_n 0, 1) := by decide +kernel
theorem d_M_word_81 : decode b_M_word 81 = .ok (.getfield 114, 3) := by decide +kernel
theorem d_M_word_84 : decode b_M_word 84 = .ok (.if_icmp .ne 13, 3) := by decide +kernel
theorem d_M_word_87 : decode b_M_word 87 = .ok (.aload_n 0, 1) := by decide +kernel
theorem d_M_word_88 : decode b_M_word 88 = .ok (.dup, 1) := by decide +kernel
theorem d_M_word_89 : decode b_M_word 89 = .ok (.getfield 114, 3) := by decide +kernel
theorem d_M_word_92 : decode b_M_word 92 = .ok (.iconst 1, 1) := by decide +kernel
theorem d_M_word_93 : decode b_M_word 93 = .ok (.iadd, 1) := by decide +kernel
theorem d_M_word_94 : decode b_M_word 94 = .ok (.putfield 114, 3) := by decide +kernel
theorem d_M_word_97 : decode b_M_word 97 = .ok (.aload_n 0, 1) := by decide +kernel
theorem d_M_word_98 : decode b_M_word 98 = .ok (.getfield 7, 3) := by decide +kernel
theorem d_M_word_101 : decode b_M_word 101 = .ok (.iload 5, 2) := by decide +kernel
theorem d_M_word_103 : decode b_M_word 103 = .ok (.lload_n 1, 1) := by decide +kernel
theorem d_M_word_104 : decode b_M_word 104 = .ok (.lastore, 1) := by decide +kernel
theorem d_M_word_105 : decode b_M_word 105 = .ok (.aload_n 0, 1) := by decide +kernel
theorem d_M_word_106 : decode b_M_word 106 = .ok (.getfield 13, 3) := by decide +kernel
theorem d_M_word_109 : decode b_M_word 109 = .ok (.iload 5, 2) := by decide +kernel
theorem d_M_word_111 : decode b_M_word 111 = .ok (.iload_n 3, 1) := by decide +kernel
theorem d_M_word_112 : decode b_M_word 112 = .ok (.iastore, 1) := by decide +kernel
theorem d_M_word_113 : decode b_M_word 113 = .ok (.aload_n 0, 1) := by decide +kernel
theorem d_M_word_114 : decode b_M_word 114 = .ok (.getfield 114, 3) := by decide +kernel
theorem d_M_word_117 : decode b_M_word 117 = .ok (.ireturn, 1) := by decide +kernel
theorem d_M_drop_0 : decode b_M_drop 0 = .ok (.aload_n 0, 1) := by decide +kernel
theorem d_M_drop_1 : decode b_M_drop 1 = .ok (.iconst 0, 1) := by decide +kernel
theorem d_M_drop_2 : decode b_M_drop 2 = .ok (.putfield 89, 3) := by decide +kernel
theorem d_M_drop_5 : decode b_M_drop 5 = .ok (.iconst 0, 1) := by decide +kernel
theorem d_M_drop_6 : decode b_M_drop 6 = .ok (.istore_n 3, 1) := by decide +kernel
theorem d_M_drop_7 : decode b_M_drop 7 = .ok (.iload_n 3, 1) := by decide +kernel
theorem d_M_drop_8 : decode b_M_drop 8 = .ok (.aload_n 0, 1) := by decide +kernel
theorem d_M_drop_9 : decode b_M_drop 9 = .ok (.getfield 114, 3) := by decide +kernel
theorem d_M_drop_12 : decode b_M_drop 12 = .ok (.if_icmp .ge 65, 3) := by decide +kernel
theorem d_M_drop_15 : decode b_M_drop 15 = .ok (.aload_n 0, 1) := by decide +kernel
theorem d_M_drop_16 : decode b_M_drop 16 = .ok (.getfield 7, 3) := by decide +kernel
theorem d_M_drop_19 : decode b_M_drop 19 = .ok (.iload_n 3, 1) := by decide +kernel
theorem d_M_drop_20 : decode b_M_drop 20 = .ok (.laload, 1) := by decide +kernel
theorem d_M_drop_21 : decode b_M_drop 21 = .ok (.lload_n 1, 1) := by decide +kernel
theorem d_M_drop_22 : decode b_M_drop 22 = .ok (.lcmp, 1) := by decide +kernel
