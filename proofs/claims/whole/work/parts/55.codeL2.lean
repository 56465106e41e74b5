/-! code rows of the law, the rest (written by wip/whole/mkcode.py: L_law) -/
theorem d_L_law_825 : decode b_L_law 825 = .ok (.aload_n 3, 1) := by decide +kernel
theorem d_L_law_826 : decode b_L_law 826 = .ok (.iconst 0, 1) := by decide +kernel
theorem d_L_law_827 : decode b_L_law 827 = .ok (.laload, 1) := by decide +kernel
theorem d_L_law_828 : decode b_L_law 828 = .ok (.iload 6, 2) := by decide +kernel
theorem d_L_law_830 : decode b_L_law 830 = .ok (.i2l, 1) := by decide +kernel
theorem d_L_law_831 : decode b_L_law 831 = .ok (.lcmp, 1) := by decide +kernel
theorem d_L_law_832 : decode b_L_law 832 = .ok (.ifCond .eq 5, 3) := by decide +kernel
theorem d_L_law_835 : decode b_L_law 835 = .ok (.iconst 0, 1) := by decide +kernel
theorem d_L_law_836 : decode b_L_law 836 = .ok (.ireturn, 1) := by decide +kernel
theorem d_L_law_837 : decode b_L_law 837 = .ok (.goto 712, 3) := by decide +kernel
theorem d_L_law_840 : decode b_L_law 840 = .ok (.aload_n 1, 1) := by decide +kernel
theorem d_L_law_841 : decode b_L_law 841 = .ok (.aload_n 0, 1) := by decide +kernel
theorem d_L_law_842 : decode b_L_law 842 = .ok (.iload 4, 2) := by decide +kernel
theorem d_L_law_844 : decode b_L_law 844 = .ok (.iconst 1, 1) := by decide +kernel
theorem d_L_law_845 : decode b_L_law 845 = .ok (.iadd, 1) := by decide +kernel
theorem d_L_law_846 : decode b_L_law 846 = .ok (.iaload, 1) := by decide +kernel
theorem d_L_law_847 : decode b_L_law 847 = .ok (.aload_n 0, 1) := by decide +kernel
theorem d_L_law_848 : decode b_L_law 848 = .ok (.iload 4, 2) := by decide +kernel
theorem d_L_law_850 : decode b_L_law 850 = .ok (.iconst 2, 1) := by decide +kernel
theorem d_L_law_851 : decode b_L_law 851 = .ok (.iadd, 1) := by decide +kernel
theorem d_L_law_852 : decode b_L_law 852 = .ok (.iaload, 1) := by decide +kernel
theorem d_L_law_853 : decode b_L_law 853 = .ok (.aload_n 0, 1) := by decide +kernel
theorem d_L_law_854 : decode b_L_law 854 = .ok (.iload 4, 2) := by decide +kernel
theorem d_L_law_856 : decode b_L_law 856 = .ok (.iconst 3, 1) := by decide +kernel
theorem d_L_law_857 : decode b_L_law 857 = .ok (.iadd, 1) := by decide +kernel
theorem d_L_law_858 : decode b_L_law 858 = .ok (.iaload, 1) := by decide +kernel
theorem d_L_law_859 : decode b_L_law 859 = .ok (.aload_n 3, 1) := by decide +kernel
theorem d_L_law_860 : decode b_L_law 860 = .ok (.invokestatic 119, 3) := by decide +kernel
theorem d_L_law_863 : decode b_L_law 863 = .ok (.istore 5, 2) := by decide +kernel
theorem d_L_law_865 : decode b_L_law 865 = .ok (.aload_n 2, 1) := by decide +kernel
theorem d_L_law_866 : decode b_L_law 866 = .ok (.aload_n 0, 1) := by decide +kernel
theorem d_L_law_867 : decode b_L_law 867 = .ok (.iload 4, 2) := by decide +kernel
theorem d_L_law_869 : decode b_L_law 869 = .ok (.iconst 1, 1) := by decide +kernel
theorem d_L_law_870 : decode b_L_law 870 = .ok (.iadd, 1) := by decide +kernel
theorem d_L_law_871 : decode b_L_law 871 = .ok (.iaload, 1) := by decide +kernel
theorem d_L_law_872 : decode b_L_law 872 = .ok (.aload_n 0, 1) := by decide +kernel
theorem d_L_law_873 : decode b_L_law 873 = .ok (.iload 4, 2) := by decide +kernel
theorem d_L_law_875 : decode b_L_law 875 = .ok (.iconst 2, 1) := by decide +kernel
theorem d_L_law_876 : decode b_L_law 876 = .ok (.iadd, 1) := by decide +kernel
theorem d_L_law_877 : decode b_L_law 877 = .ok (.iaload, 1) := by decide +kernel
theorem d_L_law_878 : decode b_L_law 878 = .ok (.aload_n 0, 1) := by decide +kernel
theorem d_L_law_879 : decode b_L_law 879 = .ok (.iload 4, 2) := by decide +kernel
theorem d_L_law_881 : decode b_L_law 881 = .ok (.iconst 3, 1) := by decide +kernel
theorem d_L_law_882 : decode b_L_law 882 = .ok (.iadd, 1) := by decide +kernel
theorem d_L_law_883 : decode b_L_law 883 = .ok (.iaload, 1) := by decide +kernel
theorem d_L_law_884 : decode b_L_law 884 = .ok (.invokevirtual 121, 3) := by decide +kernel
theorem d_L_law_887 : decode b_L_law 887 = .ok (.lstore 6, 2) := by decide +kernel
theorem d_L_law_889 : decode b_L_law 889 = .ok (.aload_n 2, 1) := by decide +kernel
theorem d_L_law_890 : decode b_L_law 890 = .ok (.invokevirtual 88, 3) := by decide +kernel
theorem d_L_law_893 : decode b_L_law 893 = .ok (.iload 5, 2) := by decide +kernel
theorem d_L_law_895 : decode b_L_law 895 = .ok (.if_icmp .eq 5, 3) := by decide +kernel
theorem d_L_law_898 : decode b_L_law 898 = .ok (.iconst 0, 1) := by decide +kernel
theorem d_L_law_899 : decode b_L_law 899 = .ok (.ireturn, 1) := by decide +kernel
theorem d_L_law_900 : decode b_L_law 900 = .ok (.iload 5, 2) := by decide +kernel
theorem d_L_law_902 : decode b_L_law 902 = .ok (.ifCond .ne 14, 3) := by decide +kernel
theorem d_L_law_905 : decode b_L_law 905 = .ok (.aload_n 3, 1) := by decide +kernel
theorem d_L_law_906 : decode b_L_law 906 = .ok (.iconst 0, 1) := by decide +kernel
theorem d_L_law_907 : decode b_L_law 907 = .ok (.laload, 1) := by decide +kernel
theorem d_L_law_908 : decode b_L_law 908 = .ok (.lload 6, 2) := by decide +kernel
theorem d_L_law_910 : decode b_L_law 910 = .ok (.lcmp, 1) := by decide +kernel
theorem d_L_law_911 : decode b_L_law 911 = .ok (.ifCond .eq 5, 3) := by decide +kernel
theorem d_L_law_914 : decode b_L_law 914 = .ok (.iconst 0, 1) := by decide +kernel
theorem d_L_law_915 : decode b_L_law 915 = .ok (.ireturn, 1) := by decide +kernel
theorem d_L_law_916 : decode b_L_law 916 = .ok (.goto 633, 3) := by decide +kernel
theorem d_L_law_919 : decode b_L_law 919 = .ok (.aload_n 1, 1) := by decide +kernel
theorem d_L_law_920 : decode b_L_law 920 = .ok (.aload_n 0, 1) := by decide +kernel
theorem d_L_law_921 : decode b_L_law 921 = .ok (.iload 4, 2) := by decide +kernel
theorem d_L_law_923 : decode b_L_law 923 = .ok (.iconst 1, 1) := by decide +kernel
theorem d_L_law_924 : decode b_L_law 924 = .ok (.iadd, 1) := by decide +kernel
theorem d_L_law_925 : decode b_L_law 925 = .ok (.iaload, 1) := by decide +kernel
theorem d_L_law_926 : decode b_L_law 926 = .ok (.aload_n 3, 1) := by decide +kernel
theorem d_L_law_927 : decode b_L_law 927 = .ok (.invokestatic 122, 3) := by decide +kernel
theorem d_L_law_930 : decode b_L_law 930 = .ok (.istore 5, 2) := by decide +kernel
theorem d_L_law_932 : decode b_L_law 932 = .ok (.aload_n 2, 1) := by decide +kernel
theorem d_L_law_933 : decode b_L_law 933 = .ok (.aload_n 0, 1) := by decide +kernel
theorem d_L_law_934 : decode b_L_law 934 = .ok (.iload 4, 2) := by decide +kernel
theorem d_L_law_936 : decode b_L_law 936 = .ok (.iconst 1, 1) := by decide +kernel
theorem d_L_law_937 : decode b_L_law 937 = .ok (.iadd, 1) := by decide +kernel
theorem d_L_law_938 : decode b_L_law 938 = .ok (.iaload, 1) := by decide +kernel
theorem d_L_law_939 : decode b_L_law 939 = .ok (.invokevirtual 125, 3) := by decide +kernel
theorem d_L_law_942 : decode b_L_law 942 = .ok (.istore 6, 2) := by decide +kernel
theorem d_L_law_944 : decode b_L_law 944 = .ok (.aload_n 2, 1) := by decide +kernel
theorem d_L_law_945 : decode b_L_law 945 = .ok (.invokevirtual 88, 3) := by decide +kernel
theorem d_L_law_948 : decode b_L_law 948 = .ok (.iload 5, 2) := by decide +kernel
theorem d_L_law_950 : decode b_L_law 950 = .ok (.if_icmp .eq 5, 3) := by decide +kernel
theorem d_L_law_953 : decode b_L_law 953 = .ok (.iconst 0, 1) := by decide +kernel
theorem d_L_law_954 : decode b_L_law 954 = .ok (.ireturn, 1) := by decide +kernel
theorem d_L_law_955 : decode b_L_law 955 = .ok (.iload 5, 2) := by decide +kernel
theorem d_L_law_957 : decode b_L_law 957 = .ok (.ifCond .ne 15, 3) := by decide +kernel
theorem d_L_law_960 : decode b_L_law 960 = .ok (.aload_n 3, 1) := by decide +kernel
theorem d_L_law_961 : decode b_L_law 961 = .ok (.iconst 0, 1) := by decide +kernel
theorem d_L_law_962 : decode b_L_law 962 = .ok (.laload, 1) := by decide +kernel
theorem d_L_law_963 : decode b_L_law 963 = .ok (.iload 6, 2) := by decide +kernel
theorem d_L_law_965 : decode b_L_law 965 = .ok (.i2l, 1) := by decide +kernel
theorem d_L_law_966 : decode b_L_law 966 = .ok (.lcmp, 1) := by decide +kernel
theorem d_L_law_967 : decode b_L_law 967 = .ok (.ifCond .eq 5, 3) := by decide +kernel
theorem d_L_law_970 : decode b_L_law 970 = .ok (.iconst 0, 1) := by decide +kernel
theorem d_L_law_971 : decode b_L_law 971 = .ok (.ireturn, 1) := by decide +kernel
theorem d_L_law_972 : decode b_L_law 972 = .ok (.goto 577, 3) := by decide +kernel
theorem d_L_law_975 : decode b_L_law 975 = .ok (.aload_n 1, 1) := by decide +kernel
theorem d_L_law_976 : decode b_L_law 976 = .ok (.aload_n 0, 1) := by decide +kernel
theorem d_L_law_977 : decode b_L_law 977 = .ok (.iload 4, 2) := by decide +kernel
theorem d_L_law_979 : decode b_L_law 979 = .ok (.iconst 1, 1) := by decide +kernel
theorem d_L_law_980 : decode b_L_law 980 = .ok (.iadd, 1) := by decide +kernel
theorem d_L_law_981 : decode b_L_law 981 = .ok (.iaload, 1) := by decide +kernel
theorem d_L_law_982 : decode b_L_law 982 = .ok (.aload_n 0, 1) := by decide +kernel
theorem d_L_law_983 : decode b_L_law 983 = .ok (.iload 4, 2) := by decide +kernel
theorem d_L_law_985 : decode b_L_law 985 = .ok (.iconst 2, 1) := by decide +kernel
theorem d_L_law_986 : decode b_L_law 986 = .ok (.iadd, 1) := by decide +kernel
theorem d_L_law_987 : decode b_L_law 987 = .ok (.iaload, 1) := by decide +kernel
theorem d_L_law_988 : decode b_L_law 988 = .ok (.aload_n 3, 1) := by decide +kernel
theorem d_L_law_989 : decode b_L_law 989 = .ok (.invokestatic 126, 3) := by decide +kernel
theorem d_L_law_992 : decode b_L_law 992 = .ok (.istore 5, 2) := by decide +kernel
theorem d_L_law_994 : decode b_L_law 994 = .ok (.aload_n 2, 1) := by decide +kernel
theorem d_L_law_995 : decode b_L_law 995 = .ok (.aload_n 0, 1) := by decide +kernel
theorem d_L_law_996 : decode b_L_law 996 = .ok (.iload 4, 2) := by decide +kernel
theorem d_L_law_998 : decode b_L_law 998 = .ok (.iconst 1, 1) := by decide +kernel
theorem d_L_law_999 : decode b_L_law 999 = .ok (.iadd, 1) := by decide +kernel
theorem d_L_law_1000 : decode b_L_law 1000 = .ok (.iaload, 1) := by decide +kernel
theorem d_L_law_1001 : decode b_L_law 1001 = .ok (.aload_n 0, 1) := by decide +kernel
theorem d_L_law_1002 : decode b_L_law 1002 = .ok (.iload 4, 2) := by decide +kernel
theorem d_L_law_1004 : decode b_L_law 1004 = .ok (.iconst 2, 1) := by decide +kernel
theorem d_L_law_1005 : decode b_L_law 1005 = .ok (.iadd, 1) := by decide +kernel
theorem d_L_law_1006 : decode b_L_law 1006 = .ok (.iaload, 1) := by decide +kernel
theorem d_L_law_1007 : decode b_L_law 1007 = .ok (.invokevirtual 128, 3) := by decide +kernel
theorem d_L_law_1010 : decode b_L_law 1010 = .ok (.lstore 6, 2) := by decide +kernel
theorem d_L_law_1012 : decode b_L_law 1012 = .ok (.aload_n 2, 1) := by decide +kernel
theorem d_L_law_1013 : decode b_L_law 1013 = .ok (.invokevirtual 88, 3) := by decide +kernel
theorem d_L_law_1016 : decode b_L_law 1016 = .ok (.iload 5, 2) := by decide +kernel
theorem d_L_law_1018 : decode b_L_law 1018 = .ok (.if_icmp .eq 5, 3) := by decide +kernel
theorem d_L_law_1021 : decode b_L_law 1021 = .ok (.iconst 0, 1) := by decide +kernel
theorem d_L_law_1022 : decode b_L_law 1022 = .ok (.ireturn, 1) := by decide +kernel
theorem d_L_law_1023 : decode b_L_law 1023 = .ok (.iload 5, 2) := by decide +kernel
theorem d_L_law_1025 : decode b_L_law 1025 = .ok (.ifCond .ne 14, 3) := by decide +kernel
theorem d_L_law_1028 : decode b_L_law 1028 = .ok (.aload_n 3, 1) := by decide +kernel
theorem d_L_law_1029 : decode b_L_law 1029 = .ok (.iconst 0, 1) := by decide +kernel
theorem d_L_law_1030 : decode b_L_law 1030 = .ok (.laload, 1) := by decide +kernel
theorem d_L_law_1031 : decode b_L_law 1031 = .ok (.lload 6, 2) := by decide +kernel
theorem d_L_law_1033 : decode b_L_law 1033 = .ok (.lcmp, 1) := by decide +kernel
theorem d_L_law_1034 : decode b_L_law 1034 = .ok (.ifCond .eq 5, 3) := by decide +kernel
theorem d_L_law_1037 : decode b_L_law 1037 = .ok (.iconst 0, 1) := by decide +kernel
theorem d_L_law_1038 : decode b_L_law 1038 = .ok (.ireturn, 1) := by decide +kernel
theorem d_L_law_1039 : decode b_L_law 1039 = .ok (.goto 510, 3) := by decide +kernel
theorem d_L_law_1042 : decode b_L_law 1042 = .ok (.aload_n 1, 1) := by decide +kernel
theorem d_L_law_1043 : decode b_L_law 1043 = .ok (.aload_n 0, 1) := by decide +kernel
theorem d_L_law_1044 : decode b_L_law 1044 = .ok (.iload 4, 2) := by decide +kernel
theorem d_L_law_1046 : decode b_L_law 1046 = .ok (.iconst 1, 1) := by decide +kernel
theorem d_L_law_1047 : decode b_L_law 1047 = .ok (.iadd, 1) := by decide +kernel
theorem d_L_law_1048 : decode b_L_law 1048 = .ok (.iaload, 1) := by decide +kernel
theorem d_L_law_1049 : decode b_L_law 1049 = .ok (.aload_n 0, 1) := by decide +kernel
theorem d_L_law_1050 : decode b_L_law 1050 = .ok (.iload 4, 2) := by decide +kernel
theorem d_L_law_1052 : decode b_L_law 1052 = .ok (.iconst 2, 1) := by decide +kernel
theorem d_L_law_1053 : decode b_L_law 1053 = .ok (.iadd, 1) := by decide +kernel
theorem d_L_law_1054 : decode b_L_law 1054 = .ok (.iaload, 1) := by decide +kernel
theorem d_L_law_1055 : decode b_L_law 1055 = .ok (.aload_n 0, 1) := by decide +kernel
theorem d_L_law_1056 : decode b_L_law 1056 = .ok (.iload 4, 2) := by decide +kernel
theorem d_L_law_1058 : decode b_L_law 1058 = .ok (.iconst 3, 1) := by decide +kernel
theorem d_L_law_1059 : decode b_L_law 1059 = .ok (.iadd, 1) := by decide +kernel
theorem d_L_law_1060 : decode b_L_law 1060 = .ok (.iaload, 1) := by decide +kernel
theorem d_L_law_1061 : decode b_L_law 1061 = .ok (.aload_n 3, 1) := by decide +kernel
theorem d_L_law_1062 : decode b_L_law 1062 = .ok (.invokestatic 129, 3) := by decide +kernel
theorem d_L_law_1065 : decode b_L_law 1065 = .ok (.istore 5, 2) := by decide +kernel
theorem d_L_law_1067 : decode b_L_law 1067 = .ok (.aload_n 2, 1) := by decide +kernel
theorem d_L_law_1068 : decode b_L_law 1068 = .ok (.aload_n 0, 1) := by decide +kernel
theorem d_L_law_1069 : decode b_L_law 1069 = .ok (.iload 4, 2) := by decide +kernel
theorem d_L_law_1071 : decode b_L_law 1071 = .ok (.iconst 1, 1) := by decide +kernel
theorem d_L_law_1072 : decode b_L_law 1072 = .ok (.iadd, 1) := by decide +kernel
theorem d_L_law_1073 : decode b_L_law 1073 = .ok (.iaload, 1) := by decide +kernel
theorem d_L_law_1074 : decode b_L_law 1074 = .ok (.aload_n 0, 1) := by decide +kernel
theorem d_L_law_1075 : decode b_L_law 1075 = .ok (.iload 4, 2) := by decide +kernel
theorem d_L_law_1077 : decode b_L_law 1077 = .ok (.iconst 2, 1) := by decide +kernel
theorem d_L_law_1078 : decode b_L_law 1078 = .ok (.iadd, 1) := by decide +kernel
theorem d_L_law_1079 : decode b_L_law 1079 = .ok (.iaload, 1) := by decide +kernel
theorem d_L_law_1080 : decode b_L_law 1080 = .ok (.aload_n 0, 1) := by decide +kernel
theorem d_L_law_1081 : decode b_L_law 1081 = .ok (.iload 4, 2) := by decide +kernel
theorem d_L_law_1083 : decode b_L_law 1083 = .ok (.iconst 3, 1) := by decide +kernel
theorem d_L_law_1084 : decode b_L_law 1084 = .ok (.iadd, 1) := by decide +kernel
theorem d_L_law_1085 : decode b_L_law 1085 = .ok (.iaload, 1) := by decide +kernel
theorem d_L_law_1086 : decode b_L_law 1086 = .ok (.invokevirtual 131, 3) := by decide +kernel
theorem d_L_law_1089 : decode b_L_law 1089 = .ok (.istore 6, 2) := by decide +kernel
theorem d_L_law_1091 : decode b_L_law 1091 = .ok (.aload_n 2, 1) := by decide +kernel
theorem d_L_law_1092 : decode b_L_law 1092 = .ok (.invokevirtual 88, 3) := by decide +kernel
theorem d_L_law_1095 : decode b_L_law 1095 = .ok (.iload 5, 2) := by decide +kernel
theorem d_L_law_1097 : decode b_L_law 1097 = .ok (.if_icmp .eq 5, 3) := by decide +kernel
theorem d_L_law_1100 : decode b_L_law 1100 = .ok (.iconst 0, 1) := by decide +kernel
theorem d_L_law_1101 : decode b_L_law 1101 = .ok (.ireturn, 1) := by decide +kernel
theorem d_L_law_1102 : decode b_L_law 1102 = .ok (.iload 5, 2) := by decide +kernel
theorem d_L_law_1104 : decode b_L_law 1104 = .ok (.ifCond .ne 15, 3) := by decide +kernel
theorem d_L_law_1107 : decode b_L_law 1107 = .ok (.aload_n 3, 1) := by decide +kernel
theorem d_L_law_1108 : decode b_L_law 1108 = .ok (.iconst 0, 1) := by decide +kernel
theorem d_L_law_1109 : decode b_L_law 1109 = .ok (.laload, 1) := by decide +kernel
theorem d_L_law_1110 : decode b_L_law 1110 = .ok (.iload 6, 2) := by decide +kernel
theorem d_L_law_1112 : decode b_L_law 1112 = .ok (.i2l, 1) := by decide +kernel
theorem d_L_law_1113 : decode b_L_law 1113 = .ok (.lcmp, 1) := by decide +kernel
theorem d_L_law_1114 : decode b_L_law 1114 = .ok (.ifCond .eq 5, 3) := by decide +kernel
theorem d_L_law_1117 : decode b_L_law 1117 = .ok (.iconst 0, 1) := by decide +kernel
theorem d_L_law_1118 : decode b_L_law 1118 = .ok (.ireturn, 1) := by decide +kernel
theorem d_L_law_1119 : decode b_L_law 1119 = .ok (.goto 430, 3) := by decide +kernel
theorem d_L_law_1122 : decode b_L_law 1122 = .ok (.aload_n 1, 1) := by decide +kernel
theorem d_L_law_1123 : decode b_L_law 1123 = .ok (.aload_n 0, 1) := by decide +kernel
theorem d_L_law_1124 : decode b_L_law 1124 = .ok (.iload 4, 2) := by decide +kernel
theorem d_L_law_1126 : decode b_L_law 1126 = .ok (.iconst 1, 1) := by decide +kernel
theorem d_L_law_1127 : decode b_L_law 1127 = .ok (.iadd, 1) := by decide +kernel
theorem d_L_law_1128 : decode b_L_law 1128 = .ok (.iaload, 1) := by decide +kernel
theorem d_L_law_1129 : decode b_L_law 1129 = .ok (.aload_n 0, 1) := by decide +kernel
theorem d_L_law_1130 : decode b_L_law 1130 = .ok (.iload 4, 2) := by decide +kernel
theorem d_L_law_1132 : decode b_L_law 1132 = .ok (.iconst 2, 1) := by decide +kernel
theorem d_L_law_1133 : decode b_L_law 1133 = .ok (.iadd, 1) := by decide +kernel
theorem d_L_law_1134 : decode b_L_law 1134 = .ok (.iaload, 1) := by decide +kernel
theorem d_L_law_1135 : decode b_L_law 1135 = .ok (.aload_n 0, 1) := by decide +kernel
theorem d_L_law_1136 : decode b_L_law 1136 = .ok (.iload 4, 2) := by decide +kernel
theorem d_L_law_1138 : decode b_L_law 1138 = .ok (.iconst 3, 1) := by decide +kernel
theorem d_L_law_1139 : decode b_L_law 1139 = .ok (.iadd, 1) := by decide +kernel
theorem d_L_law_1140 : decode b_L_law 1140 = .ok (.iaload, 1) := by decide +kernel
theorem d_L_law_1141 : decode b_L_law 1141 = .ok (.aload_n 0, 1) := by decide +kernel
theorem d_L_law_1142 : decode b_L_law 1142 = .ok (.iload 4, 2) := by decide +kernel
theorem d_L_law_1144 : decode b_L_law 1144 = .ok (.iconst 4, 1) := by decide +kernel
theorem d_L_law_1145 : decode b_L_law 1145 = .ok (.iadd, 1) := by decide +kernel
theorem d_L_law_1146 : decode b_L_law 1146 = .ok (.iaload, 1) := by decide +kernel
theorem d_L_law_1147 : decode b_L_law 1147 = .ok (.aload_n 3, 1) := by decide +kernel
theorem d_L_law_1148 : decode b_L_law 1148 = .ok (.invokestatic 132, 3) := by decide +kernel
theorem d_L_law_1151 : decode b_L_law 1151 = .ok (.istore 5, 2) := by decide +kernel
theorem d_L_law_1153 : decode b_L_law 1153 = .ok (.aload_n 2, 1) := by decide +kernel
theorem d_L_law_1154 : decode b_L_law 1154 = .ok (.aload_n 0, 1) := by decide +kernel
theorem d_L_law_1155 : decode b_L_law 1155 = .ok (.iload 4, 2) := by decide +kernel
theorem d_L_law_1157 : decode b_L_law 1157 = .ok (.iconst 1, 1) := by decide +kernel
theorem d_L_law_1158 : decode b_L_law 1158 = .ok (.iadd, 1) := by decide +kernel
theorem d_L_law_1159 : decode b_L_law 1159 = .ok (.iaload, 1) := by decide +kernel
theorem d_L_law_1160 : decode b_L_law 1160 = .ok (.aload_n 0, 1) := by decide +kernel
theorem d_L_law_1161 : decode b_L_law 1161 = .ok (.iload 4, 2) := by decide +kernel
theorem d_L_law_1163 : decode b_L_law 1163 = .ok (.iconst 2, 1) := by decide +kernel
theorem d_L_law_1164 : decode b_L_law 1164 = .ok (.iadd, 1) := by decide +kernel
theorem d_L_law_1165 : decode b_L_law 1165 = .ok (.iaload, 1) := by decide +kernel
theorem d_L_law_1166 : decode b_L_law 1166 = .ok (.aload_n 0, 1) := by decide +kernel
theorem d_L_law_1167 : decode b_L_law 1167 = .ok (.iload 4, 2) := by decide +kernel
theorem d_L_law_1169 : decode b_L_law 1169 = .ok (.iconst 3, 1) := by decide +kernel
theorem d_L_law_1170 : decode b_L_law 1170 = .ok (.iadd, 1) := by decide +kernel
theorem d_L_law_1171 : decode b_L_law 1171 = .ok (.iaload, 1) := by decide +kernel
theorem d_L_law_1172 : decode b_L_law 1172 = .ok (.aload_n 0, 1) := by decide +kernel
theorem d_L_law_1173 : decode b_L_law 1173 = .ok (.iload 4, 2) := by decide +kernel
theorem d_L_law_1175 : decode b_L_law 1175 = .ok (.iconst 4, 1) := by decide +kernel
theorem d_L_law_1176 : decode b_L_law 1176 = .ok (.iadd, 1) := by decide +kernel
theorem d_L_law_1177 : decode b_L_law 1177 = .ok (.iaload, 1) := by decide +kernel
theorem d_L_law_1178 : decode b_L_law 1178 = .ok (.invokevirtual 134, 3) := by decide +kernel
theorem d_L_law_1181 : decode b_L_law 1181 = .ok (.lstore 6, 2) := by decide +kernel
theorem d_L_law_1183 : decode b_L_law 1183 = .ok (.aload_n 2, 1) := by decide +kernel
theorem d_L_law_1184 : decode b_L_law 1184 = .ok (.invokevirtual 88, 3) := by decide +kernel
theorem d_L_law_1187 : decode b_L_law 1187 = .ok (.iload 5, 2) := by decide +kernel
theorem d_L_law_1189 : decode b_L_law 1189 = .ok (.if_icmp .eq 5, 3) := by decide +kernel
theorem d_L_law_1192 : decode b_L_law 1192 = .ok (.iconst 0, 1) := by decide +kernel
theorem d_L_law_1193 : decode b_L_law 1193 = .ok (.ireturn, 1) := by decide +kernel
theorem d_L_law_1194 : decode b_L_law 1194 = .ok (.iload 5, 2) := by decide +kernel
theorem d_L_law_1196 : decode b_L_law 1196 = .ok (.ifCond .ne 14, 3) := by decide +kernel
theorem d_L_law_1199 : decode b_L_law 1199 = .ok (.aload_n 3, 1) := by decide +kernel
theorem d_L_law_1200 : decode b_L_law 1200 = .ok (.iconst 0, 1) := by decide +kernel
theorem d_L_law_1201 : decode b_L_law 1201 = .ok (.laload, 1) := by decide +kernel
theorem d_L_law_1202 : decode b_L_law 1202 = .ok (.lload 6, 2) := by decide +kernel
theorem d_L_law_1204 : decode b_L_law 1204 = .ok (.lcmp, 1) := by decide +kernel
theorem d_L_law_1205 : decode b_L_law 1205 = .ok (.ifCond .eq 5, 3) := by decide +kernel
theorem d_L_law_1208 : decode b_L_law 1208 = .ok (.iconst 0, 1) := by decide +kernel
theorem d_L_law_1209 : decode b_L_law 1209 = .ok (.ireturn, 1) := by decide +kernel
theorem d_L_law_1210 : decode b_L_law 1210 = .ok (.goto 339, 3) := by decide +kernel
theorem d_L_law_1213 : decode b_L_law 1213 = .ok (.aload_n 1, 1) := by decide +kernel
theorem d_L_law_1214 : decode b_L_law 1214 = .ok (.aload_n 0, 1) := by decide +kernel
theorem d_L_law_1215 : decode b_L_law 1215 = .ok (.iload 4, 2) := by decide +kernel
theorem d_L_law_1217 : decode b_L_law 1217 = .ok (.iconst 1, 1) := by decide +kernel
theorem d_L_law_1218 : decode b_L_law 1218 = .ok (.iadd, 1) := by decide +kernel
theorem d_L_law_1219 : decode b_L_law 1219 = .ok (.iaload, 1) := by decide +kernel
theorem d_L_law_1220 : decode b_L_law 1220 = .ok (.aload_n 0, 1) := by decide +kernel
theorem d_L_law_1221 : decode b_L_law 1221 = .ok (.iload 4, 2) := by decide +kernel
theorem d_L_law_1223 : decode b_L_law 1223 = .ok (.iconst 2, 1) := by decide +kernel
theorem d_L_law_1224 : decode b_L_law 1224 = .ok (.iadd, 1) := by decide +kernel
theorem d_L_law_1225 : decode b_L_law 1225 = .ok (.iaload, 1) := by decide +kernel
theorem d_L_law_1226 : decode b_L_law 1226 = .ok (.aload_n 3, 1) := by decide +kernel
theorem d_L_law_1227 : decode b_L_law 1227 = .ok (.invokestatic 135, 3) := by decide +kernel
theorem d_L_law_1230 : decode b_L_law 1230 = .ok (.istore 5, 2) := by decide +kernel
theorem d_L_law_1232 : decode b_L_law 1232 = .ok (.aload_n 2, 1) := by decide +kernel
theorem d_L_law_1233 : decode b_L_law 1233 = .ok (.aload_n 0, 1) := by decide +kernel
theorem d_L_law_1234 : decode b_L_law 1234 = .ok (.iload 4, 2) := by decide +kernel
theorem d_L_law_1236 : decode b_L_law 1236 = .ok (.iconst 1, 1) := by decide +kernel
theorem d_L_law_1237 : decode b_L_law 1237 = .ok (.iadd, 1) := by decide +kernel
theorem d_L_law_1238 : decode b_L_law 1238 = .ok (.iaload, 1) := by decide +kernel
theorem d_L_law_1239 : decode b_L_law 1239 = .ok (.aload_n 0, 1) := by decide +kernel
theorem d_L_law_1240 : decode b_L_law 1240 = .ok (.iload 4, 2) := by decide +kernel
theorem d_L_law_1242 : decode b_L_law 1242 = .ok (.iconst 2, 1) := by decide +kernel
theorem d_L_law_1243 : decode b_L_law 1243 = .ok (.iadd, 1) := by decide +kernel
theorem d_L_law_1244 : decode b_L_law 1244 = .ok (.iaload, 1) := by decide +kernel
theorem d_L_law_1245 : decode b_L_law 1245 = .ok (.invokevirtual 137, 3) := by decide +kernel
theorem d_L_law_1248 : decode b_L_law 1248 = .ok (.lstore 6, 2) := by decide +kernel
theorem d_L_law_1250 : decode b_L_law 1250 = .ok (.aload_n 2, 1) := by decide +kernel
theorem d_L_law_1251 : decode b_L_law 1251 = .ok (.invokevirtual 88, 3) := by decide +kernel
theorem d_L_law_1254 : decode b_L_law 1254 = .ok (.iload 5, 2) := by decide +kernel
theorem d_L_law_1256 : decode b_L_law 1256 = .ok (.if_icmp .eq 5, 3) := by decide +kernel
theorem d_L_law_1259 : decode b_L_law 1259 = .ok (.iconst 0, 1) := by decide +kernel
theorem d_L_law_1260 : decode b_L_law 1260 = .ok (.ireturn, 1) := by decide +kernel
theorem d_L_law_1261 : decode b_L_law 1261 = .ok (.iload 5, 2) := by decide +kernel
theorem d_L_law_1263 : decode b_L_law 1263 = .ok (.ifCond .ne 14, 3) := by decide +kernel
theorem d_L_law_1266 : decode b_L_law 1266 = .ok (.aload_n 3, 1) := by decide +kernel
theorem d_L_law_1267 : decode b_L_law 1267 = .ok (.iconst 0, 1) := by decide +kernel
theorem d_L_law_1268 : decode b_L_law 1268 = .ok (.laload, 1) := by decide +kernel
theorem d_L_law_1269 : decode b_L_law 1269 = .ok (.lload 6, 2) := by decide +kernel
theorem d_L_law_1271 : decode b_L_law 1271 = .ok (.lcmp, 1) := by decide +kernel
theorem d_L_law_1272 : decode b_L_law 1272 = .ok (.ifCond .eq 5, 3) := by decide +kernel
theorem d_L_law_1275 : decode b_L_law 1275 = .ok (.iconst 0, 1) := by decide +kernel
theorem d_L_law_1276 : decode b_L_law 1276 = .ok (.ireturn, 1) := by decide +kernel
theorem d_L_law_1277 : decode b_L_law 1277 = .ok (.goto 272, 3) := by decide +kernel
theorem d_L_law_1280 : decode b_L_law 1280 = .ok (.aload_n 1, 1) := by decide +kernel
theorem d_L_law_1281 : decode b_L_law 1281 = .ok (.aload_n 0, 1) := by decide +kernel
theorem d_L_law_1282 : decode b_L_law 1282 = .ok (.iload 4, 2) := by decide +kernel
theorem d_L_law_1284 : decode b_L_law 1284 = .ok (.iconst 1, 1) := by decide +kernel
theorem d_L_law_1285 : decode b_L_law 1285 = .ok (.iadd, 1) := by decide +kernel
theorem d_L_law_1286 : decode b_L_law 1286 = .ok (.iaload, 1) := by decide +kernel
theorem d_L_law_1287 : decode b_L_law 1287 = .ok (.aload_n 0, 1) := by decide +kernel
theorem d_L_law_1288 : decode b_L_law 1288 = .ok (.iload 4, 2) := by decide +kernel
theorem d_L_law_1290 : decode b_L_law 1290 = .ok (.iconst 2, 1) := by decide +kernel
theorem d_L_law_1291 : decode b_L_law 1291 = .ok (.iadd, 1) := by decide +kernel
theorem d_L_law_1292 : decode b_L_law 1292 = .ok (.iaload, 1) := by decide +kernel
theorem d_L_law_1293 : decode b_L_law 1293 = .ok (.aload_n 0, 1) := by decide +kernel
theorem d_L_law_1294 : decode b_L_law 1294 = .ok (.iload 4, 2) := by decide +kernel
theorem d_L_law_1296 : decode b_L_law 1296 = .ok (.iconst 3, 1) := by decide +kernel
theorem d_L_law_1297 : decode b_L_law 1297 = .ok (.iadd, 1) := by decide +kernel
theorem d_L_law_1298 : decode b_L_law 1298 = .ok (.iaload, 1) := by decide +kernel
theorem d_L_law_1299 : decode b_L_law 1299 = .ok (.aload_n 3, 1) := by decide +kernel
theorem d_L_law_1300 : decode b_L_law 1300 = .ok (.invokestatic 138, 3) := by decide +kernel
theorem d_L_law_1303 : decode b_L_law 1303 = .ok (.istore 5, 2) := by decide +kernel
theorem d_L_law_1305 : decode b_L_law 1305 = .ok (.aload_n 2, 1) := by decide +kernel
theorem d_L_law_1306 : decode b_L_law 1306 = .ok (.aload_n 0, 1) := by decide +kernel
theorem d_L_law_1307 : decode b_L_law 1307 = .ok (.iload 4, 2) := by decide +kernel
theorem d_L_law_1309 : decode b_L_law 1309 = .ok (.iconst 1, 1) := by decide +kernel
theorem d_L_law_1310 : decode b_L_law 1310 = .ok (.iadd, 1) := by decide +kernel
theorem d_L_law_1311 : decode b_L_law 1311 = .ok (.iaload, 1) := by decide +kernel
theorem d_L_law_1312 : decode b_L_law 1312 = .ok (.aload_n 0, 1) := by decide +kernel
theorem d_L_law_1313 : decode b_L_law 1313 = .ok (.iload 4, 2) := by decide +kernel
theorem d_L_law_1315 : decode b_L_law 1315 = .ok (.iconst 2, 1) := by decide +kernel
theorem d_L_law_1316 : decode b_L_law 1316 = .ok (.iadd, 1) := by decide +kernel
theorem d_L_law_1317 : decode b_L_law 1317 = .ok (.iaload, 1) := by decide +kernel
theorem d_L_law_1318 : decode b_L_law 1318 = .ok (.aload_n 0, 1) := by decide +kernel
theorem d_L_law_1319 : decode b_L_law 1319 = .ok (.iload 4, 2) := by decide +kernel
theorem d_L_law_1321 : decode b_L_law 1321 = .ok (.iconst 3, 1) := by decide +kernel
theorem d_L_law_1322 : decode b_L_law 1322 = .ok (.iadd, 1) := by decide +kernel
theorem d_L_law_1323 : decode b_L_law 1323 = .ok (.iaload, 1) := by decide +kernel
theorem d_L_law_1324 : decode b_L_law 1324 = .ok (.invokevirtual 140, 3) := by decide +kernel
theorem d_L_law_1327 : decode b_L_law 1327 = .ok (.lstore 6, 2) := by decide +kernel
theorem d_L_law_1329 : decode b_L_law 1329 = .ok (.aload_n 2, 1) := by decide +kernel
theorem d_L_law_1330 : decode b_L_law 1330 = .ok (.invokevirtual 88, 3) := by decide +kernel
theorem d_L_law_1333 : decode b_L_law 1333 = .ok (.iload 5, 2) := by decide +kernel
theorem d_L_law_1335 : decode b_L_law 1335 = .ok (.if_icmp .eq 5, 3) := by decide +kernel
theorem d_L_law_1338 : decode b_L_law 1338 = .ok (.iconst 0, 1) := by decide +kernel
theorem d_L_law_1339 : decode b_L_law 1339 = .ok (.ireturn, 1) := by decide +kernel
theorem d_L_law_1340 : decode b_L_law 1340 = .ok (.iload 5, 2) := by decide +kernel
theorem d_L_law_1342 : decode b_L_law 1342 = .ok (.ifCond .ne 14, 3) := by decide +kernel
theorem d_L_law_1345 : decode b_L_law 1345 = .ok (.aload_n 3, 1) := by decide +kernel
theorem d_L_law_1346 : decode b_L_law 1346 = .ok (.iconst 0, 1) := by decide +kernel
theorem d_L_law_1347 : decode b_L_law 1347 = .ok (.laload, 1) := by decide +kernel
theorem d_L_law_1348 : decode b_L_law 1348 = .ok (.lload 6, 2) := by decide +kernel
theorem d_L_law_1350 : decode b_L_law 1350 = .ok (.lcmp, 1) := by decide +kernel
theorem d_L_law_1351 : decode b_L_law 1351 = .ok (.ifCond .eq 5, 3) := by decide +kernel
theorem d_L_law_1354 : decode b_L_law 1354 = .ok (.iconst 0, 1) := by decide +kernel
theorem d_L_law_1355 : decode b_L_law 1355 = .ok (.ireturn, 1) := by decide +kernel
theorem d_L_law_1356 : decode b_L_law 1356 = .ok (.goto 193, 3) := by decide +kernel
theorem d_L_law_1359 : decode b_L_law 1359 = .ok (.aload_n 1, 1) := by decide +kernel
theorem d_L_law_1360 : decode b_L_law 1360 = .ok (.aload_n 0, 1) := by decide +kernel
theorem d_L_law_1361 : decode b_L_law 1361 = .ok (.iload 4, 2) := by decide +kernel
theorem d_L_law_1363 : decode b_L_law 1363 = .ok (.iconst 1, 1) := by decide +kernel
theorem d_L_law_1364 : decode b_L_law 1364 = .ok (.iadd, 1) := by decide +kernel
theorem d_L_law_1365 : decode b_L_law 1365 = .ok (.iaload, 1) := by decide +kernel
theorem d_L_law_1366 : decode b_L_law 1366 = .ok (.aload_n 0, 1) := by decide +kernel
theorem d_L_law_1367 : decode b_L_law 1367 = .ok (.iload 4, 2) := by decide +kernel
theorem d_L_law_1369 : decode b_L_law 1369 = .ok (.iconst 2, 1) := by decide +kernel
theorem d_L_law_1370 : decode b_L_law 1370 = .ok (.iadd, 1) := by decide +kernel
theorem d_L_law_1371 : decode b_L_law 1371 = .ok (.iaload, 1) := by decide +kernel
theorem d_L_law_1372 : decode b_L_law 1372 = .ok (.aload_n 3, 1) := by decide +kernel
theorem d_L_law_1373 : decode b_L_law 1373 = .ok (.invokestatic 141, 3) := by decide +kernel
theorem d_L_law_1376 : decode b_L_law 1376 = .ok (.istore 5, 2) := by decide +kernel
theorem d_L_law_1378 : decode b_L_law 1378 = .ok (.aload_n 2, 1) := by decide +kernel
theorem d_L_law_1379 : decode b_L_law 1379 = .ok (.aload_n 0, 1) := by decide +kernel
theorem d_L_law_1380 : decode b_L_law 1380 = .ok (.iload 4, 2) := by decide +kernel
theorem d_L_law_1382 : decode b_L_law 1382 = .ok (.iconst 1, 1) := by decide +kernel
theorem d_L_law_1383 : decode b_L_law 1383 = .ok (.iadd, 1) := by decide +kernel
theorem d_L_law_1384 : decode b_L_law 1384 = .ok (.iaload, 1) := by decide +kernel
theorem d_L_law_1385 : decode b_L_law 1385 = .ok (.aload_n 0, 1) := by decide +kernel
theorem d_L_law_1386 : decode b_L_law 1386 = .ok (.iload 4, 2) := by decide +kernel
theorem d_L_law_1388 : decode b_L_law 1388 = .ok (.iconst 2, 1) := by decide +kernel
theorem d_L_law_1389 : decode b_L_law 1389 = .ok (.iadd, 1) := by decide +kernel
theorem d_L_law_1390 : decode b_L_law 1390 = .ok (.iaload, 1) := by decide +kernel
theorem d_L_law_1391 : decode b_L_law 1391 = .ok (.invokevirtual 143, 3) := by decide +kernel
theorem d_L_law_1394 : decode b_L_law 1394 = .ok (.lstore 6, 2) := by decide +kernel
theorem d_L_law_1396 : decode b_L_law 1396 = .ok (.aload_n 2, 1) := by decide +kernel
theorem d_L_law_1397 : decode b_L_law 1397 = .ok (.invokevirtual 88, 3) := by decide +kernel
theorem d_L_law_1400 : decode b_L_law 1400 = .ok (.iload 5, 2) := by decide +kernel
theorem d_L_law_1402 : decode b_L_law 1402 = .ok (.if_icmp .eq 5, 3) := by decide +kernel
theorem d_L_law_1405 : decode b_L_law 1405 = .ok (.iconst 0, 1) := by decide +kernel
theorem d_L_law_1406 : decode b_L_law 1406 = .ok (.ireturn, 1) := by decide +kernel
theorem d_L_law_1407 : decode b_L_law 1407 = .ok (.iload 5, 2) := by decide +kernel
theorem d_L_law_1409 : decode b_L_law 1409 = .ok (.ifCond .ne 14, 3) := by decide +kernel
theorem d_L_law_1412 : decode b_L_law 1412 = .ok (.aload_n 3, 1) := by decide +kernel
theorem d_L_law_1413 : decode b_L_law 1413 = .ok (.iconst 0, 1) := by decide +kernel
theorem d_L_law_1414 : decode b_L_law 1414 = .ok (.laload, 1) := by decide +kernel
theorem d_L_law_1415 : decode b_L_law 1415 = .ok (.lload 6, 2) := by decide +kernel
theorem d_L_law_1417 : decode b_L_law 1417 = .ok (.lcmp, 1) := by decide +kernel
theorem d_L_law_1418 : decode b_L_law 1418 = .ok (.ifCond .eq 5, 3) := by decide +kernel
theorem d_L_law_1421 : decode b_L_law 1421 = .ok (.iconst 0, 1) := by decide +kernel
theorem d_L_law_1422 : decode b_L_law 1422 = .ok (.ireturn, 1) := by decide +kernel
theorem d_L_law_1423 : decode b_L_law 1423 = .ok (.goto 126, 3) := by decide +kernel
theorem d_L_law_1426 : decode b_L_law 1426 = .ok (.aload_n 1, 1) := by decide +kernel
theorem d_L_law_1427 : decode b_L_law 1427 = .ok (.aload_n 0, 1) := by decide +kernel
theorem d_L_law_1428 : decode b_L_law 1428 = .ok (.iload 4, 2) := by decide +kernel
theorem d_L_law_1430 : decode b_L_law 1430 = .ok (.iconst 1, 1) := by decide +kernel
theorem d_L_law_1431 : decode b_L_law 1431 = .ok (.iadd, 1) := by decide +kernel
theorem d_L_law_1432 : decode b_L_law 1432 = .ok (.iaload, 1) := by decide +kernel
theorem d_L_law_1433 : decode b_L_law 1433 = .ok (.aload_n 0, 1) := by decide +kernel
theorem d_L_law_1434 : decode b_L_law 1434 = .ok (.iload 4, 2) := by decide +kernel
theorem d_L_law_1436 : decode b_L_law 1436 = .ok (.iconst 2, 1) := by decide +kernel
theorem d_L_law_1437 : decode b_L_law 1437 = .ok (.iadd, 1) := by decide +kernel
theorem d_L_law_1438 : decode b_L_law 1438 = .ok (.iaload, 1) := by decide +kernel
theorem d_L_law_1439 : decode b_L_law 1439 = .ok (.aload_n 3, 1) := by decide +kernel
theorem d_L_law_1440 : decode b_L_law 1440 = .ok (.invokestatic 144, 3) := by decide +kernel
theorem d_L_law_1443 : decode b_L_law 1443 = .ok (.istore 5, 2) := by decide +kernel
theorem d_L_law_1445 : decode b_L_law 1445 = .ok (.aload_n 2, 1) := by decide +kernel
theorem d_L_law_1446 : decode b_L_law 1446 = .ok (.aload_n 0, 1) := by decide +kernel
theorem d_L_law_1447 : decode b_L_law 1447 = .ok (.iload 4, 2) := by decide +kernel
theorem d_L_law_1449 : decode b_L_law 1449 = .ok (.iconst 1, 1) := by decide +kernel
theorem d_L_law_1450 : decode b_L_law 1450 = .ok (.iadd, 1) := by decide +kernel
theorem d_L_law_1451 : decode b_L_law 1451 = .ok (.iaload, 1) := by decide +kernel
theorem d_L_law_1452 : decode b_L_law 1452 = .ok (.aload_n 0, 1) := by decide +kernel
theorem d_L_law_1453 : decode b_L_law 1453 = .ok (.iload 4, 2) := by decide +kernel
theorem d_L_law_1455 : decode b_L_law 1455 = .ok (.iconst 2, 1) := by decide +kernel
theorem d_L_law_1456 : decode b_L_law 1456 = .ok (.iadd, 1) := by decide +kernel
theorem d_L_law_1457 : decode b_L_law 1457 = .ok (.iaload, 1) := by decide +kernel
theorem d_L_law_1458 : decode b_L_law 1458 = .ok (.invokevirtual 146, 3) := by decide +kernel
theorem d_L_law_1461 : decode b_L_law 1461 = .ok (.lstore 6, 2) := by decide +kernel
theorem d_L_law_1463 : decode b_L_law 1463 = .ok (.aload_n 2, 1) := by decide +kernel
theorem d_L_law_1464 : decode b_L_law 1464 = .ok (.invokevirtual 88, 3) := by decide +kernel
theorem d_L_law_1467 : decode b_L_law 1467 = .ok (.iload 5, 2) := by decide +kernel
theorem d_L_law_1469 : decode b_L_law 1469 = .ok (.if_icmp .eq 5, 3) := by decide +kernel
theorem d_L_law_1472 : decode b_L_law 1472 = .ok (.iconst 0, 1) := by decide +kernel
theorem d_L_law_1473 : decode b_L_law 1473 = .ok (.ireturn, 1) := by decide +kernel
theorem d_L_law_1474 : decode b_L_law 1474 = .ok (.iload 5, 2) := by decide +kernel
theorem d_L_law_1476 : decode b_L_law 1476 = .ok (.ifCond .ne 14, 3) := by decide +kernel
theorem d_L_law_1479 : decode b_L_law 1479 = .ok (.aload_n 3, 1) := by decide +kernel
theorem d_L_law_1480 : decode b_L_law 1480 = .ok (.iconst 0, 1) := by decide +kernel
theorem d_L_law_1481 : decode b_L_law 1481 = .ok (.laload, 1) := by decide +kernel
theorem d_L_law_1482 : decode b_L_law 1482 = .ok (.lload 6, 2) := by decide +kernel
theorem d_L_law_1484 : decode b_L_law 1484 = .ok (.lcmp, 1) := by decide +kernel
theorem d_L_law_1485 : decode b_L_law 1485 = .ok (.ifCond .eq 5, 3) := by decide +kernel
theorem d_L_law_1488 : decode b_L_law 1488 = .ok (.iconst 0, 1) := by decide +kernel
theorem d_L_law_1489 : decode b_L_law 1489 = .ok (.ireturn, 1) := by decide +kernel
theorem d_L_law_1490 : decode b_L_law 1490 = .ok (.goto 59, 3) := by decide +kernel
theorem d_L_law_1493 : decode b_L_law 1493 = .ok (.aload_n 1, 1) := by decide +kernel
theorem d_L_law_1494 : decode b_L_law 1494 = .ok (.aload_n 0, 1) := by decide +kernel
theorem d_L_law_1495 : decode b_L_law 1495 = .ok (.iload 4, 2) := by decide +kernel
theorem d_L_law_1497 : decode b_L_law 1497 = .ok (.iconst 1, 1) := by decide +kernel
theorem d_L_law_1498 : decode b_L_law 1498 = .ok (.iadd, 1) := by decide +kernel
theorem d_L_law_1499 : decode b_L_law 1499 = .ok (.iaload, 1) := by decide +kernel
theorem d_L_law_1500 : decode b_L_law 1500 = .ok (.aload_n 3, 1) := by decide +kernel
theorem d_L_law_1501 : decode b_L_law 1501 = .ok (.invokestatic 147, 3) := by decide +kernel
theorem d_L_law_1504 : decode b_L_law 1504 = .ok (.istore 5, 2) := by decide +kernel
theorem d_L_law_1506 : decode b_L_law 1506 = .ok (.aload_n 2, 1) := by decide +kernel
theorem d_L_law_1507 : decode b_L_law 1507 = .ok (.aload_n 0, 1) := by decide +kernel
theorem d_L_law_1508 : decode b_L_law 1508 = .ok (.iload 4, 2) := by decide +kernel
theorem d_L_law_1510 : decode b_L_law 1510 = .ok (.iconst 1, 1) := by decide +kernel
theorem d_L_law_1511 : decode b_L_law 1511 = .ok (.iadd, 1) := by decide +kernel
theorem d_L_law_1512 : decode b_L_law 1512 = .ok (.iaload, 1) := by decide +kernel
theorem d_L_law_1513 : decode b_L_law 1513 = .ok (.invokevirtual 149, 3) := by decide +kernel
theorem d_L_law_1516 : decode b_L_law 1516 = .ok (.istore 6, 2) := by decide +kernel
theorem d_L_law_1518 : decode b_L_law 1518 = .ok (.aload_n 2, 1) := by decide +kernel
theorem d_L_law_1519 : decode b_L_law 1519 = .ok (.invokevirtual 88, 3) := by decide +kernel
theorem d_L_law_1522 : decode b_L_law 1522 = .ok (.iload 5, 2) := by decide +kernel
theorem d_L_law_1524 : decode b_L_law 1524 = .ok (.if_icmp .eq 5, 3) := by decide +kernel
theorem d_L_law_1527 : decode b_L_law 1527 = .ok (.iconst 0, 1) := by decide +kernel
theorem d_L_law_1528 : decode b_L_law 1528 = .ok (.ireturn, 1) := by decide +kernel
theorem d_L_law_1529 : decode b_L_law 1529 = .ok (.iload 5, 2) := by decide +kernel
theorem d_L_law_1531 : decode b_L_law 1531 = .ok (.ifCond .ne 15, 3) := by decide +kernel
theorem d_L_law_1534 : decode b_L_law 1534 = .ok (.aload_n 3, 1) := by decide +kernel
theorem d_L_law_1535 : decode b_L_law 1535 = .ok (.iconst 0, 1) := by decide +kernel
theorem d_L_law_1536 : decode b_L_law 1536 = .ok (.laload, 1) := by decide +kernel
theorem d_L_law_1537 : decode b_L_law 1537 = .ok (.iload 6, 2) := by decide +kernel
theorem d_L_law_1539 : decode b_L_law 1539 = .ok (.i2l, 1) := by decide +kernel
theorem d_L_law_1540 : decode b_L_law 1540 = .ok (.lcmp, 1) := by decide +kernel
theorem d_L_law_1541 : decode b_L_law 1541 = .ok (.ifCond .eq 5, 3) := by decide +kernel
theorem d_L_law_1544 : decode b_L_law 1544 = .ok (.iconst 0, 1) := by decide +kernel
theorem d_L_law_1545 : decode b_L_law 1545 = .ok (.ireturn, 1) := by decide +kernel
theorem d_L_law_1546 : decode b_L_law 1546 = .ok (.goto 3, 3) := by decide +kernel
theorem d_L_law_1549 : decode b_L_law 1549 = .ok (.iinc 4 6, 3) := by decide +kernel
theorem d_L_law_1552 : decode b_L_law 1552 = .ok (.goto (-1529), 3) := by decide +kernel
theorem d_L_law_1555 : decode b_L_law 1555 = .ok (.iconst 1, 1) := by decide +kernel
theorem d_L_law_1556 : decode b_L_law 1556 = .ok (.ireturn, 1) := by decide +kernel
