theorem d_L_law_885 : decode code 885 = .ok (.aload_n 0, 1) := by decide +kernel
theorem d_L_law_886 : decode code 886 = .ok (.iload 4, 2) := by decide +kernel
theorem d_L_law_888 : decode code 888 = .ok (.iconst 3, 1) := by decide +kernel
theorem d_L_law_889 : decode code 889 = .ok (.iadd, 1) := by decide +kernel
theorem d_L_law_890 : decode code 890 = .ok (.iaload, 1) := by decide +kernel
theorem d_L_law_891 : decode code 891 = .ok (.aload_n 3, 1) := by decide +kernel
theorem d_L_law_892 : decode code 892 = .ok (.invokestatic 122, 3) := by decide +kernel
theorem d_L_law_895 : decode code 895 = .ok (.istore 5, 2) := by decide +kernel
theorem d_L_law_897 : decode code 897 = .ok (.aload_n 2, 1) := by decide +kernel
theorem d_L_law_898 : decode code 898 = .ok (.aload_n 0, 1) := by decide +kernel
theorem d_L_law_899 : decode code 899 = .ok (.iload 4, 2) := by decide +kernel
theorem d_L_law_901 : decode code 901 = .ok (.iconst 1, 1) := by decide +kernel
theorem d_L_law_902 : decode code 902 = .ok (.iadd, 1) := by decide +kernel
theorem d_L_law_903 : decode code 903 = .ok (.iaload, 1) := by decide +kernel
theorem d_L_law_904 : decode code 904 = .ok (.aload_n 0, 1) := by decide +kernel
theorem d_L_law_905 : decode code 905 = .ok (.iload 4, 2) := by decide +kernel
theorem d_L_law_907 : decode code 907 = .ok (.iconst 2, 1) := by decide +kernel
theorem d_L_law_908 : decode code 908 = .ok (.iadd, 1) := by decide +kernel
theorem d_L_law_909 : decode code 909 = .ok (.iaload, 1) := by decide +kernel
theorem d_L_law_910 : decode code 910 = .ok (.aload_n 0, 1) := by decide +kernel
theorem d_L_law_911 : decode code 911 = .ok (.iload 4, 2) := by decide +kernel
theorem d_L_law_913 : decode code 913 = .ok (.iconst 3, 1) := by decide +kernel
theorem d_L_law_914 : decode code 914 = .ok (.iadd, 1) := by decide +kernel
theorem d_L_law_915 : decode code 915 = .ok (.iaload, 1) := by decide +kernel
theorem d_L_law_916 : decode code 916 = .ok (.invokevirtual 124, 3) := by decide +kernel
theorem d_L_law_919 : decode code 919 = .ok (.istore 6, 2) := by decide +kernel
theorem d_L_law_921 : decode code 921 = .ok (.aload_n 2, 1) := by decide +kernel
theorem d_L_law_922 : decode code 922 = .ok (.invokevirtual 85, 3) := by decide +kernel
theorem d_L_law_925 : decode code 925 = .ok (.iload 5, 2) := by decide +kernel
theorem d_L_law_927 : decode code 927 = .ok (.if_icmp .eq 5, 3) := by decide +kernel
theorem d_L_law_932 : decode code 932 = .ok (.iload 5, 2) := by decide +kernel
theorem d_L_law_934 : decode code 934 = .ok (.ifCond .ne 15, 3) := by decide +kernel
theorem d_L_law_937 : decode code 937 = .ok (.aload_n 3, 1) := by decide +kernel
theorem d_L_law_938 : decode code 938 = .ok (.iconst 0, 1) := by decide +kernel
theorem d_L_law_939 : decode code 939 = .ok (.laload, 1) := by decide +kernel
theorem d_L_law_940 : decode code 940 = .ok (.iload 6, 2) := by decide +kernel
theorem d_L_law_942 : decode code 942 = .ok (.i2l, 1) := by decide +kernel
theorem d_L_law_943 : decode code 943 = .ok (.lcmp, 1) := by decide +kernel
theorem d_L_law_944 : decode code 944 = .ok (.ifCond .eq 5, 3) := by decide +kernel
theorem d_L_law_949 : decode code 949 = .ok (.goto 383, 3) := by decide +kernel
theorem d_L_law_952 : decode code 952 = .ok (.aload_n 1, 1) := by decide +kernel
theorem d_L_law_953 : decode code 953 = .ok (.aload_n 0, 1) := by decide +kernel
theorem d_L_law_954 : decode code 954 = .ok (.iload 4, 2) := by decide +kernel
theorem d_L_law_956 : decode code 956 = .ok (.iconst 1, 1) := by decide +kernel
theorem d_L_law_957 : decode code 957 = .ok (.iadd, 1) := by decide +kernel
theorem d_L_law_958 : decode code 958 = .ok (.iaload, 1) := by decide +kernel
theorem d_L_law_959 : decode code 959 = .ok (.aload_n 0, 1) := by decide +kernel
theorem d_L_law_960 : decode code 960 = .ok (.iload 4, 2) := by decide +kernel
theorem d_L_law_962 : decode code 962 = .ok (.iconst 2, 1) := by decide +kernel
theorem d_L_law_963 : decode code 963 = .ok (.iadd, 1) := by decide +kernel
theorem d_L_law_964 : decode code 964 = .ok (.iaload, 1) := by decide +kernel
theorem d_L_law_965 : decode code 965 = .ok (.aload_n 0, 1) := by decide +kernel
theorem d_L_law_966 : decode code 966 = .ok (.iload 4, 2) := by decide +kernel
theorem d_L_law_968 : decode code 968 = .ok (.iconst 3, 1) := by decide +kernel
theorem d_L_law_969 : decode code 969 = .ok (.iadd, 1) := by decide +kernel
theorem d_L_law_970 : decode code 970 = .ok (.iaload, 1) := by decide +kernel
theorem d_L_law_971 : decode code 971 = .ok (.aload_n 0, 1) := by decide +kernel
theorem d_L_law_972 : decode code 972 = .ok (.iload 4, 2) := by decide +kernel
theorem d_L_law_974 : decode code 974 = .ok (.iconst 4, 1) := by decide +kernel
theorem d_L_law_975 : decode code 975 = .ok (.iadd, 1) := by decide +kernel
theorem d_L_law_976 : decode code 976 = .ok (.iaload, 1) := by decide +kernel
theorem d_L_law_977 : decode code 977 = .ok (.aload_n 3, 1) := by decide +kernel
theorem d_L_law_978 : decode code 978 = .ok (.invokestatic 125, 3) := by decide +kernel
theorem d_L_law_981 : decode code 981 = .ok (.istore 5, 2) := by decide +kernel
theorem d_L_law_983 : decode code 983 = .ok (.aload_n 2, 1) := by decide +kernel
theorem d_L_law_984 : decode code 984 = .ok (.aload_n 0, 1) := by decide +kernel
theorem d_L_law_985 : decode code 985 = .ok (.iload 4, 2) := by decide +kernel
theorem d_L_law_987 : decode code 987 = .ok (.iconst 1, 1) := by decide +kernel
theorem d_L_law_988 : decode code 988 = .ok (.iadd, 1) := by decide +kernel
theorem d_L_law_989 : decode code 989 = .ok (.iaload, 1) := by decide +kernel
theorem d_L_law_990 : decode code 990 = .ok (.aload_n 0, 1) := by decide +kernel
theorem d_L_law_991 : decode code 991 = .ok (.iload 4, 2) := by decide +kernel
theorem d_L_law_993 : decode code 993 = .ok (.iconst 2, 1) := by decide +kernel
theorem d_L_law_994 : decode code 994 = .ok (.iadd, 1) := by decide +kernel
theorem d_L_law_995 : decode code 995 = .ok (.iaload, 1) := by decide +kernel
theorem d_L_law_996 : decode code 996 = .ok (.aload_n 0, 1) := by decide +kernel
theorem d_L_law_997 : decode code 997 = .ok (.iload 4, 2) := by decide +kernel
theorem d_L_law_999 : decode code 999 = .ok (.iconst 3, 1) := by decide +kernel
theorem d_L_law_1000 : decode code 1000 = .ok (.iadd, 1) := by decide +kernel
theorem d_L_law_1001 : decode code 1001 = .ok (.iaload, 1) := by decide +kernel
theorem d_L_law_1002 : decode code 1002 = .ok (.aload_n 0, 1) := by decide +kernel
theorem d_L_law_1003 : decode code 1003 = .ok (.iload 4, 2) := by decide +kernel
theorem d_L_law_1005 : decode code 1005 = .ok (.iconst 4, 1) := by decide +kernel
theorem d_L_law_1006 : decode code 1006 = .ok (.iadd, 1) := by decide +kernel
theorem d_L_law_1007 : decode code 1007 = .ok (.iaload, 1) := by decide +kernel
theorem d_L_law_1008 : decode code 1008 = .ok (.invokevirtual 128, 3) := by decide +kernel
theorem d_L_law_1011 : decode code 1011 = .ok (.istore 6, 2) := by decide +kernel
theorem d_L_law_1013 : decode code 1013 = .ok (.aload_n 2, 1) := by decide +kernel
theorem d_L_law_1014 : decode code 1014 = .ok (.invokevirtual 85, 3) := by decide +kernel
theorem d_L_law_1017 : decode code 1017 = .ok (.iload 5, 2) := by decide +kernel
theorem d_L_law_1019 : decode code 1019 = .ok (.if_icmp .eq 5, 3) := by decide +kernel
theorem d_L_law_1024 : decode code 1024 = .ok (.iload 5, 2) := by decide +kernel
theorem d_L_law_1026 : decode code 1026 = .ok (.ifCond .ne 22, 3) := by decide +kernel
theorem d_L_law_1029 : decode code 1029 = .ok (.aload_n 3, 1) := by decide +kernel
theorem d_L_law_1030 : decode code 1030 = .ok (.iconst 0, 1) := by decide +kernel
theorem d_L_law_1031 : decode code 1031 = .ok (.laload, 1) := by decide +kernel
theorem d_L_law_1032 : decode code 1032 = .ok (.iload 6, 2) := by decide +kernel
theorem d_L_law_1034 : decode code 1034 = .ok (.ifCond .eq 7, 3) := by decide +kernel
theorem d_L_law_1041 : decode code 1041 = .ok (.lconst 0, 1) := by decide +kernel
theorem d_L_law_1042 : decode code 1042 = .ok (.lcmp, 1) := by decide +kernel
theorem d_L_law_1043 : decode code 1043 = .ok (.ifCond .eq 5, 3) := by decide +kernel
theorem d_L_law_1048 : decode code 1048 = .ok (.goto 284, 3) := by decide +kernel
theorem d_L_law_1051 : decode code 1051 = .ok (.aload_n 1, 1) := by decide +kernel
theorem d_L_law_1052 : decode code 1052 = .ok (.aload_n 0, 1) := by decide +kernel
theorem d_L_law_1053 : decode code 1053 = .ok (.iload 4, 2) := by decide +kernel
theorem d_L_law_1055 : decode code 1055 = .ok (.iconst 1, 1) := by decide +kernel
theorem d_L_law_1056 : decode code 1056 = .ok (.iadd, 1) := by decide +kernel
theorem d_L_law_1057 : decode code 1057 = .ok (.iaload, 1) := by decide +kernel
theorem d_L_law_1058 : decode code 1058 = .ok (.aload_n 3, 1) := by decide +kernel
theorem d_L_law_1059 : decode code 1059 = .ok (.invokestatic 129, 3) := by decide +kernel
theorem d_L_law_1062 : decode code 1062 = .ok (.istore 5, 2) := by decide +kernel
theorem d_L_law_1064 : decode code 1064 = .ok (.aload_n 2, 1) := by decide +kernel
theorem d_L_law_1065 : decode code 1065 = .ok (.aload_n 0, 1) := by decide +kernel
theorem d_L_law_1066 : decode code 1066 = .ok (.iload 4, 2) := by decide +kernel
theorem d_L_law_1068 : decode code 1068 = .ok (.iconst 1, 1) := by decide +kernel
theorem d_L_law_1069 : decode code 1069 = .ok (.iadd, 1) := by decide +kernel
theorem d_L_law_1070 : decode code 1070 = .ok (.iaload, 1) := by decide +kernel
theorem d_L_law_1071 : decode code 1071 = .ok (.invokevirtual 131, 3) := by decide +kernel
theorem d_L_law_1074 : decode code 1074 = .ok (.istore 6, 2) := by decide +kernel
theorem d_L_law_1076 : decode code 1076 = .ok (.aload_n 2, 1) := by decide +kernel
theorem d_L_law_1077 : decode code 1077 = .ok (.invokevirtual 85, 3) := by decide +kernel
theorem d_L_law_1080 : decode code 1080 = .ok (.iload 5, 2) := by decide +kernel
theorem d_L_law_1082 : decode code 1082 = .ok (.if_icmp .eq 5, 3) := by decide +kernel
theorem d_L_law_1087 : decode code 1087 = .ok (.iload 5, 2) := by decide +kernel
theorem d_L_law_1089 : decode code 1089 = .ok (.ifCond .ne 15, 3) := by decide +kernel
theorem d_L_law_1092 : decode code 1092 = .ok (.aload_n 3, 1) := by decide +kernel
theorem d_L_law_1093 : decode code 1093 = .ok (.iconst 0, 1) := by decide +kernel
theorem d_L_law_1094 : decode code 1094 = .ok (.laload, 1) := by decide +kernel
theorem d_L_law_1095 : decode code 1095 = .ok (.iload 6, 2) := by decide +kernel
theorem d_L_law_1097 : decode code 1097 = .ok (.i2l, 1) := by decide +kernel
theorem d_L_law_1098 : decode code 1098 = .ok (.lcmp, 1) := by decide +kernel
theorem d_L_law_1099 : decode code 1099 = .ok (.ifCond .eq 5, 3) := by decide +kernel
theorem d_L_law_1104 : decode code 1104 = .ok (.goto 228, 3) := by decide +kernel
theorem d_L_law_1107 : decode code 1107 = .ok (.aload_n 1, 1) := by decide +kernel
theorem d_L_law_1108 : decode code 1108 = .ok (.aload_n 0, 1) := by decide +kernel
theorem d_L_law_1109 : decode code 1109 = .ok (.iload 4, 2) := by decide +kernel
theorem d_L_law_1111 : decode code 1111 = .ok (.iconst 1, 1) := by decide +kernel
theorem d_L_law_1112 : decode code 1112 = .ok (.iadd, 1) := by decide +kernel
theorem d_L_law_1113 : decode code 1113 = .ok (.iaload, 1) := by decide +kernel
theorem d_L_law_1114 : decode code 1114 = .ok (.aload_n 0, 1) := by decide +kernel
theorem d_L_law_1115 : decode code 1115 = .ok (.iload 4, 2) := by decide +kernel
theorem d_L_law_1117 : decode code 1117 = .ok (.iconst 2, 1) := by decide +kernel
theorem d_L_law_1118 : decode code 1118 = .ok (.iadd, 1) := by decide +kernel
theorem d_L_law_1119 : decode code 1119 = .ok (.iaload, 1) := by decide +kernel
theorem d_L_law_1120 : decode code 1120 = .ok (.aload_n 0, 1) := by decide +kernel
theorem d_L_law_1121 : decode code 1121 = .ok (.iload 4, 2) := by decide +kernel
theorem d_L_law_1123 : decode code 1123 = .ok (.iconst 3, 1) := by decide +kernel
theorem d_L_law_1124 : decode code 1124 = .ok (.iadd, 1) := by decide +kernel
theorem d_L_law_1125 : decode code 1125 = .ok (.iaload, 1) := by decide +kernel
theorem d_L_law_1126 : decode code 1126 = .ok (.aload_n 0, 1) := by decide +kernel
