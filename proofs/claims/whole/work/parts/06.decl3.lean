theorem qd_L_law_884 : decode qc_L_law 884 = .ok (.iconst 3, 1) := by decide +kernel
theorem qd_L_law_885 : decode qc_L_law 885 = .ok (.iadd, 1) := by decide +kernel
theorem qd_L_law_886 : decode qc_L_law 886 = .ok (.iaload, 1) := by decide +kernel
theorem qd_L_law_887 : decode qc_L_law 887 = .ok (.i2l, 1) := by decide +kernel
theorem qd_L_law_888 : decode qc_L_law 888 = .ok (.bipush 32, 2) := by decide +kernel
theorem qd_L_law_890 : decode qc_L_law 890 = .ok (.lshl, 1) := by decide +kernel
theorem qd_L_law_891 : decode qc_L_law 891 = .ok (.aload_n 0, 1) := by decide +kernel
theorem qd_L_law_892 : decode qc_L_law 892 = .ok (.iload 4, 2) := by decide +kernel
theorem qd_L_law_894 : decode qc_L_law 894 = .ok (.iconst 4, 1) := by decide +kernel
theorem qd_L_law_895 : decode qc_L_law 895 = .ok (.iadd, 1) := by decide +kernel
theorem qd_L_law_896 : decode qc_L_law 896 = .ok (.iaload, 1) := by decide +kernel
theorem qd_L_law_897 : decode qc_L_law 897 = .ok (.i2l, 1) := by decide +kernel
theorem qd_L_law_898 : decode qc_L_law 898 = .ok (.ldc2_w 62, 3) := by decide +kernel
theorem qd_L_law_901 : decode qc_L_law 901 = .ok (.land, 1) := by decide +kernel
theorem qd_L_law_902 : decode qc_L_law 902 = .ok (.lor, 1) := by decide +kernel
theorem qd_L_law_903 : decode qc_L_law 903 = .ok (.aload_n 0, 1) := by decide +kernel
theorem qd_L_law_904 : decode qc_L_law 904 = .ok (.iload 4, 2) := by decide +kernel
theorem qd_L_law_906 : decode qc_L_law 906 = .ok (.iconst 5, 1) := by decide +kernel
theorem qd_L_law_907 : decode qc_L_law 907 = .ok (.iadd, 1) := by decide +kernel
theorem qd_L_law_908 : decode qc_L_law 908 = .ok (.iaload, 1) := by decide +kernel
theorem qd_L_law_909 : decode qc_L_law 909 = .ok (.i2l, 1) := by decide +kernel
theorem qd_L_law_910 : decode qc_L_law 910 = .ok (.bipush 32, 2) := by decide +kernel
theorem qd_L_law_912 : decode qc_L_law 912 = .ok (.lshl, 1) := by decide +kernel
theorem qd_L_law_913 : decode qc_L_law 913 = .ok (.aload_n 0, 1) := by decide +kernel
theorem qd_L_law_914 : decode qc_L_law 914 = .ok (.iload 4, 2) := by decide +kernel
theorem qd_L_law_916 : decode qc_L_law 916 = .ok (.bipush 6, 2) := by decide +kernel
theorem qd_L_law_918 : decode qc_L_law 918 = .ok (.iadd, 1) := by decide +kernel
theorem qd_L_law_919 : decode qc_L_law 919 = .ok (.iaload, 1) := by decide +kernel
theorem qd_L_law_920 : decode qc_L_law 920 = .ok (.i2l, 1) := by decide +kernel
theorem qd_L_law_921 : decode qc_L_law 921 = .ok (.ldc2_w 62, 3) := by decide +kernel
theorem qd_L_law_924 : decode qc_L_law 924 = .ok (.land, 1) := by decide +kernel
theorem qd_L_law_925 : decode qc_L_law 925 = .ok (.lor, 1) := by decide +kernel
theorem qd_L_law_926 : decode qc_L_law 926 = .ok (.invokevirtual 105, 3) := by decide +kernel
theorem qd_L_law_929 : decode qc_L_law 929 = .ok (.aload_n 2, 1) := by decide +kernel
theorem qd_L_law_930 : decode qc_L_law 930 = .ok (.aload_n 0, 1) := by decide +kernel
theorem qd_L_law_931 : decode qc_L_law 931 = .ok (.iload 4, 2) := by decide +kernel
theorem qd_L_law_933 : decode qc_L_law 933 = .ok (.iconst 1, 1) := by decide +kernel
theorem qd_L_law_934 : decode qc_L_law 934 = .ok (.iadd, 1) := by decide +kernel
theorem qd_L_law_935 : decode qc_L_law 935 = .ok (.iaload, 1) := by decide +kernel
theorem qd_L_law_936 : decode qc_L_law 936 = .ok (.aload_n 0, 1) := by decide +kernel
theorem qd_L_law_937 : decode qc_L_law 937 = .ok (.iload 4, 2) := by decide +kernel
theorem qd_L_law_939 : decode qc_L_law 939 = .ok (.iconst 2, 1) := by decide +kernel
theorem qd_L_law_940 : decode qc_L_law 940 = .ok (.iadd, 1) := by decide +kernel
theorem qd_L_law_941 : decode qc_L_law 941 = .ok (.iaload, 1) := by decide +kernel
theorem qd_L_law_942 : decode qc_L_law 942 = .ok (.aload_n 0, 1) := by decide +kernel
theorem qd_L_law_943 : decode qc_L_law 943 = .ok (.iload 4, 2) := by decide +kernel
theorem qd_L_law_945 : decode qc_L_law 945 = .ok (.iconst 3, 1) := by decide +kernel
theorem qd_L_law_946 : decode qc_L_law 946 = .ok (.iadd, 1) := by decide +kernel
theorem qd_L_law_947 : decode qc_L_law 947 = .ok (.iaload, 1) := by decide +kernel
theorem qd_L_law_948 : decode qc_L_law 948 = .ok (.i2l, 1) := by decide +kernel
theorem qd_L_law_949 : decode qc_L_law 949 = .ok (.bipush 32, 2) := by decide +kernel
theorem qd_L_law_951 : decode qc_L_law 951 = .ok (.lshl, 1) := by decide +kernel
theorem qd_L_law_952 : decode qc_L_law 952 = .ok (.aload_n 0, 1) := by decide +kernel
theorem qd_L_law_953 : decode qc_L_law 953 = .ok (.iload 4, 2) := by decide +kernel
theorem qd_L_law_955 : decode qc_L_law 955 = .ok (.iconst 4, 1) := by decide +kernel
theorem qd_L_law_956 : decode qc_L_law 956 = .ok (.iadd, 1) := by decide +kernel
theorem qd_L_law_957 : decode qc_L_law 957 = .ok (.iaload, 1) := by decide +kernel
theorem qd_L_law_958 : decode qc_L_law 958 = .ok (.i2l, 1) := by decide +kernel
theorem qd_L_law_959 : decode qc_L_law 959 = .ok (.ldc2_w 62, 3) := by decide +kernel
theorem qd_L_law_962 : decode qc_L_law 962 = .ok (.land, 1) := by decide +kernel
theorem qd_L_law_963 : decode qc_L_law 963 = .ok (.lor, 1) := by decide +kernel
theorem qd_L_law_964 : decode qc_L_law 964 = .ok (.aload_n 0, 1) := by decide +kernel
theorem qd_L_law_965 : decode qc_L_law 965 = .ok (.iload 4, 2) := by decide +kernel
theorem qd_L_law_967 : decode qc_L_law 967 = .ok (.iconst 5, 1) := by decide +kernel
theorem qd_L_law_968 : decode qc_L_law 968 = .ok (.iadd, 1) := by decide +kernel
theorem qd_L_law_969 : decode qc_L_law 969 = .ok (.iaload, 1) := by decide +kernel
theorem qd_L_law_970 : decode qc_L_law 970 = .ok (.i2l, 1) := by decide +kernel
theorem qd_L_law_971 : decode qc_L_law 971 = .ok (.bipush 32, 2) := by decide +kernel
theorem qd_L_law_973 : decode qc_L_law 973 = .ok (.lshl, 1) := by decide +kernel
theorem qd_L_law_974 : decode qc_L_law 974 = .ok (.aload_n 0, 1) := by decide +kernel
theorem qd_L_law_975 : decode qc_L_law 975 = .ok (.iload 4, 2) := by decide +kernel
theorem qd_L_law_977 : decode qc_L_law 977 = .ok (.bipush 6, 2) := by decide +kernel
theorem qd_L_law_979 : decode qc_L_law 979 = .ok (.iadd, 1) := by decide +kernel
theorem qd_L_law_980 : decode qc_L_law 980 = .ok (.iaload, 1) := by decide +kernel
theorem qd_L_law_981 : decode qc_L_law 981 = .ok (.i2l, 1) := by decide +kernel
theorem qd_L_law_982 : decode qc_L_law 982 = .ok (.ldc2_w 62, 3) := by decide +kernel
theorem qd_L_law_985 : decode qc_L_law 985 = .ok (.land, 1) := by decide +kernel
theorem qd_L_law_986 : decode qc_L_law 986 = .ok (.lor, 1) := by decide +kernel
theorem qd_L_law_987 : decode qc_L_law 987 = .ok (.invokevirtual 109, 3) := by decide +kernel
theorem qd_L_law_990 : decode qc_L_law 990 = .ok (.if_icmp .eq 257, 3) := by decide +kernel
theorem qd_L_law_993 : decode qc_L_law 993 = .ok (.iconst 0, 1) := by decide +kernel
theorem qd_L_law_994 : decode qc_L_law 994 = .ok (.ireturn, 1) := by decide +kernel
theorem qd_L_law_995 : decode qc_L_law 995 = .ok (.aload_n 1, 1) := by decide +kernel
theorem qd_L_law_996 : decode qc_L_law 996 = .ok (.aload_n 0, 1) := by decide +kernel
theorem qd_L_law_997 : decode qc_L_law 997 = .ok (.iload 4, 2) := by decide +kernel
theorem qd_L_law_999 : decode qc_L_law 999 = .ok (.iconst 1, 1) := by decide +kernel
theorem qd_L_law_1000 : decode qc_L_law 1000 = .ok (.iadd, 1) := by decide +kernel
theorem qd_L_law_1001 : decode qc_L_law 1001 = .ok (.iaload, 1) := by decide +kernel
theorem qd_L_law_1002 : decode qc_L_law 1002 = .ok (.aload_n 0, 1) := by decide +kernel
theorem qd_L_law_1003 : decode qc_L_law 1003 = .ok (.iload 4, 2) := by decide +kernel
theorem qd_L_law_1005 : decode qc_L_law 1005 = .ok (.iconst 2, 1) := by decide +kernel
theorem qd_L_law_1006 : decode qc_L_law 1006 = .ok (.iadd, 1) := by decide +kernel
theorem qd_L_law_1007 : decode qc_L_law 1007 = .ok (.iaload, 1) := by decide +kernel
theorem qd_L_law_1008 : decode qc_L_law 1008 = .ok (.aload_n 0, 1) := by decide +kernel
theorem qd_L_law_1009 : decode qc_L_law 1009 = .ok (.iload 4, 2) := by decide +kernel
theorem qd_L_law_1011 : decode qc_L_law 1011 = .ok (.iconst 3, 1) := by decide +kernel
theorem qd_L_law_1012 : decode qc_L_law 1012 = .ok (.iadd, 1) := by decide +kernel
theorem qd_L_law_1013 : decode qc_L_law 1013 = .ok (.iaload, 1) := by decide +kernel
theorem qd_L_law_1014 : decode qc_L_law 1014 = .ok (.i2l, 1) := by decide +kernel
theorem qd_L_law_1015 : decode qc_L_law 1015 = .ok (.bipush 32, 2) := by decide +kernel
theorem qd_L_law_1017 : decode qc_L_law 1017 = .ok (.lshl, 1) := by decide +kernel
theorem qd_L_law_1018 : decode qc_L_law 1018 = .ok (.aload_n 0, 1) := by decide +kernel
theorem qd_L_law_1019 : decode qc_L_law 1019 = .ok (.iload 4, 2) := by decide +kernel
theorem qd_L_law_1021 : decode qc_L_law 1021 = .ok (.iconst 4, 1) := by decide +kernel
theorem qd_L_law_1022 : decode qc_L_law 1022 = .ok (.iadd, 1) := by decide +kernel
theorem qd_L_law_1023 : decode qc_L_law 1023 = .ok (.iaload, 1) := by decide +kernel
theorem qd_L_law_1024 : decode qc_L_law 1024 = .ok (.i2l, 1) := by decide +kernel
theorem qd_L_law_1025 : decode qc_L_law 1025 = .ok (.ldc2_w 62, 3) := by decide +kernel
theorem qd_L_law_1028 : decode qc_L_law 1028 = .ok (.land, 1) := by decide +kernel
theorem qd_L_law_1029 : decode qc_L_law 1029 = .ok (.lor, 1) := by decide +kernel
theorem qd_L_law_1030 : decode qc_L_law 1030 = .ok (.aload_n 0, 1) := by decide +kernel
theorem qd_L_law_1031 : decode qc_L_law 1031 = .ok (.iload 4, 2) := by decide +kernel
theorem qd_L_law_1033 : decode qc_L_law 1033 = .ok (.iconst 5, 1) := by decide +kernel
theorem qd_L_law_1034 : decode qc_L_law 1034 = .ok (.iadd, 1) := by decide +kernel
theorem qd_L_law_1035 : decode qc_L_law 1035 = .ok (.iaload, 1) := by decide +kernel
theorem qd_L_law_1036 : decode qc_L_law 1036 = .ok (.i2l, 1) := by decide +kernel
theorem qd_L_law_1037 : decode qc_L_law 1037 = .ok (.bipush 32, 2) := by decide +kernel
theorem qd_L_law_1039 : decode qc_L_law 1039 = .ok (.lshl, 1) := by decide +kernel
theorem qd_L_law_1040 : decode qc_L_law 1040 = .ok (.aload_n 0, 1) := by decide +kernel
theorem qd_L_law_1041 : decode qc_L_law 1041 = .ok (.iload 4, 2) := by decide +kernel
theorem qd_L_law_1043 : decode qc_L_law 1043 = .ok (.bipush 6, 2) := by decide +kernel
theorem qd_L_law_1045 : decode qc_L_law 1045 = .ok (.iadd, 1) := by decide +kernel
theorem qd_L_law_1046 : decode qc_L_law 1046 = .ok (.iaload, 1) := by decide +kernel
theorem qd_L_law_1047 : decode qc_L_law 1047 = .ok (.i2l, 1) := by decide +kernel
theorem qd_L_law_1048 : decode qc_L_law 1048 = .ok (.ldc2_w 62, 3) := by decide +kernel
theorem qd_L_law_1051 : decode qc_L_law 1051 = .ok (.land, 1) := by decide +kernel
theorem qd_L_law_1052 : decode qc_L_law 1052 = .ok (.lor, 1) := by decide +kernel
theorem qd_L_law_1053 : decode qc_L_law 1053 = .ok (.invokevirtual 110, 3) := by decide +kernel
theorem qd_L_law_1056 : decode qc_L_law 1056 = .ok (.aload_n 2, 1) := by decide +kernel
theorem qd_L_law_1057 : decode qc_L_law 1057 = .ok (.aload_n 0, 1) := by decide +kernel
theorem qd_L_law_1058 : decode qc_L_law 1058 = .ok (.iload 4, 2) := by decide +kernel
theorem qd_L_law_1060 : decode qc_L_law 1060 = .ok (.iconst 1, 1) := by decide +kernel
theorem qd_L_law_1061 : decode qc_L_law 1061 = .ok (.iadd, 1) := by decide +kernel
theorem qd_L_law_1062 : decode qc_L_law 1062 = .ok (.iaload, 1) := by decide +kernel
theorem qd_L_law_1063 : decode qc_L_law 1063 = .ok (.aload_n 0, 1) := by decide +kernel
theorem qd_L_law_1064 : decode qc_L_law 1064 = .ok (.iload 4, 2) := by decide +kernel
theorem qd_L_law_1066 : decode qc_L_law 1066 = .ok (.iconst 2, 1) := by decide +kernel
theorem qd_L_law_1067 : decode qc_L_law 1067 = .ok (.iadd, 1) := by decide +kernel
theorem qd_L_law_1068 : decode qc_L_law 1068 = .ok (.iaload, 1) := by decide +kernel
theorem qd_L_law_1069 : decode qc_L_law 1069 = .ok (.aload_n 0, 1) := by decide +kernel
theorem qd_L_law_1070 : decode qc_L_law 1070 = .ok (.iload 4, 2) := by decide +kernel
theorem qd_L_law_1072 : decode qc_L_law 1072 = .ok (.iconst 3, 1) := by decide +kernel
theorem qd_L_law_1073 : decode qc_L_law 1073 = .ok (.iadd, 1) := by decide +kernel
theorem qd_L_law_1074 : decode qc_L_law 1074 = .ok (.iaload, 1) := by decide +kernel
theorem qd_L_law_1075 : decode qc_L_law 1075 = .ok (.i2l, 1) := by decide +kernel
theorem qd_L_law_1076 : decode qc_L_law 1076 = .ok (.bipush 32, 2) := by decide +kernel
theorem qd_L_law_1078 : decode qc_L_law 1078 = .ok (.lshl, 1) := by decide +kernel
theorem qd_L_law_1079 : decode qc_L_law 1079 = .ok (.aload_n 0, 1) := by decide +kernel
theorem qd_L_law_1080 : decode qc_L_law 1080 = .ok (.iload 4, 2) := by decide +kernel
theorem qd_L_law_1082 : decode qc_L_law 1082 = .ok (.iconst 4, 1) := by decide +kernel
theorem qd_L_law_1083 : decode qc_L_law 1083 = .ok (.iadd, 1) := by decide +kernel
theorem qd_L_law_1084 : decode qc_L_law 1084 = .ok (.iaload, 1) := by decide +kernel
theorem qd_L_law_1085 : decode qc_L_law 1085 = .ok (.i2l, 1) := by decide +kernel
theorem qd_L_law_1086 : decode qc_L_law 1086 = .ok (.ldc2_w 62, 3) := by decide +kernel
theorem qd_L_law_1089 : decode qc_L_law 1089 = .ok (.land, 1) := by decide +kernel
theorem qd_L_law_1090 : decode qc_L_law 1090 = .ok (.lor, 1) := by decide +kernel
theorem qd_L_law_1091 : decode qc_L_law 1091 = .ok (.aload_n 0, 1) := by decide +kernel
theorem qd_L_law_1092 : decode qc_L_law 1092 = .ok (.iload 4, 2) := by decide +kernel
theorem qd_L_law_1094 : decode qc_L_law 1094 = .ok (.iconst 5, 1) := by decide +kernel
theorem qd_L_law_1095 : decode qc_L_law 1095 = .ok (.iadd, 1) := by decide +kernel
theorem qd_L_law_1096 : decode qc_L_law 1096 = .ok (.iaload, 1) := by decide +kernel
theorem qd_L_law_1097 : decode qc_L_law 1097 = .ok (.i2l, 1) := by decide +kernel
theorem qd_L_law_1098 : decode qc_L_law 1098 = .ok (.bipush 32, 2) := by decide +kernel
theorem qd_L_law_1100 : decode qc_L_law 1100 = .ok (.lshl, 1) := by decide +kernel
theorem qd_L_law_1101 : decode qc_L_law 1101 = .ok (.aload_n 0, 1) := by decide +kernel
theorem qd_L_law_1102 : decode qc_L_law 1102 = .ok (.iload 4, 2) := by decide +kernel
theorem qd_L_law_1104 : decode qc_L_law 1104 = .ok (.bipush 6, 2) := by decide +kernel
theorem qd_L_law_1106 : decode qc_L_law 1106 = .ok (.iadd, 1) := by decide +kernel
theorem qd_L_law_1107 : decode qc_L_law 1107 = .ok (.iaload, 1) := by decide +kernel
theorem qd_L_law_1108 : decode qc_L_law 1108 = .ok (.i2l, 1) := by decide +kernel
theorem qd_L_law_1109 : decode qc_L_law 1109 = .ok (.ldc2_w 62, 3) := by decide +kernel
theorem qd_L_law_1112 : decode qc_L_law 1112 = .ok (.land, 1) := by decide +kernel
theorem qd_L_law_1113 : decode qc_L_law 1113 = .ok (.lor, 1) := by decide +kernel
theorem qd_L_law_1114 : decode qc_L_law 1114 = .ok (.invokevirtual 113, 3) := by decide +kernel
theorem qd_L_law_1117 : decode qc_L_law 1117 = .ok (.if_icmp .eq 130, 3) := by decide +kernel
theorem qd_L_law_1120 : decode qc_L_law 1120 = .ok (.iconst 0, 1) := by decide +kernel
theorem qd_L_law_1121 : decode qc_L_law 1121 = .ok (.ireturn, 1) := by decide +kernel
theorem qd_L_law_1122 : decode qc_L_law 1122 = .ok (.aload_n 1, 1) := by decide +kernel
theorem qd_L_law_1123 : decode qc_L_law 1123 = .ok (.aload_n 0, 1) := by decide +kernel
theorem qd_L_law_1124 : decode qc_L_law 1124 = .ok (.iload 4, 2) := by decide +kernel
theorem qd_L_law_1126 : decode qc_L_law 1126 = .ok (.iconst 1, 1) := by decide +kernel
theorem qd_L_law_1127 : decode qc_L_law 1127 = .ok (.iadd, 1) := by decide +kernel
theorem qd_L_law_1128 : decode qc_L_law 1128 = .ok (.iaload, 1) := by decide +kernel
theorem qd_L_law_1129 : decode qc_L_law 1129 = .ok (.aload_n 0, 1) := by decide +kernel
theorem qd_L_law_1130 : decode qc_L_law 1130 = .ok (.iload 4, 2) := by decide +kernel
theorem qd_L_law_1132 : decode qc_L_law 1132 = .ok (.iconst 2, 1) := by decide +kernel
theorem qd_L_law_1133 : decode qc_L_law 1133 = .ok (.iadd, 1) := by decide +kernel
theorem qd_L_law_1134 : decode qc_L_law 1134 = .ok (.iaload, 1) := by decide +kernel
theorem qd_L_law_1135 : decode qc_L_law 1135 = .ok (.i2l, 1) := by decide +kernel
theorem qd_L_law_1136 : decode qc_L_law 1136 = .ok (.bipush 32, 2) := by decide +kernel
theorem qd_L_law_1138 : decode qc_L_law 1138 = .ok (.lshl, 1) := by decide +kernel
theorem qd_L_law_1139 : decode qc_L_law 1139 = .ok (.aload_n 0, 1) := by decide +kernel
theorem qd_L_law_1140 : decode qc_L_law 1140 = .ok (.iload 4, 2) := by decide +kernel
theorem qd_L_law_1142 : decode qc_L_law 1142 = .ok (.iconst 3, 1) := by decide +kernel
theorem qd_L_law_1143 : decode qc_L_law 1143 = .ok (.iadd, 1) := by decide +kernel
theorem qd_L_law_1144 : decode qc_L_law 1144 = .ok (.iaload, 1) := by decide +kernel
theorem qd_L_law_1145 : decode qc_L_law 1145 = .ok (.i2l, 1) := by decide +kernel
theorem qd_L_law_1146 : decode qc_L_law 1146 = .ok (.ldc2_w 62, 3) := by decide +kernel
theorem qd_L_law_1149 : decode qc_L_law 1149 = .ok (.land, 1) := by decide +kernel
theorem qd_L_law_1150 : decode qc_L_law 1150 = .ok (.lor, 1) := by decide +kernel
theorem qd_L_law_1151 : decode qc_L_law 1151 = .ok (.aload_n 3, 1) := by decide +kernel
theorem qd_L_law_1152 : decode qc_L_law 1152 = .ok (.invokestatic 114, 3) := by decide +kernel
theorem qd_L_law_1155 : decode qc_L_law 1155 = .ok (.istore 5, 2) := by decide +kernel
theorem qd_L_law_1157 : decode qc_L_law 1157 = .ok (.aload_n 2, 1) := by decide +kernel
theorem qd_L_law_1158 : decode qc_L_law 1158 = .ok (.aload_n 0, 1) := by decide +kernel
theorem qd_L_law_1159 : decode qc_L_law 1159 = .ok (.iload 4, 2) := by decide +kernel
theorem qd_L_law_1161 : decode qc_L_law 1161 = .ok (.iconst 1, 1) := by decide +kernel
theorem qd_L_law_1162 : decode qc_L_law 1162 = .ok (.iadd, 1) := by decide +kernel
theorem qd_L_law_1163 : decode qc_L_law 1163 = .ok (.iaload, 1) := by decide +kernel
theorem qd_L_law_1164 : decode qc_L_law 1164 = .ok (.aload_n 0, 1) := by decide +kernel
theorem qd_L_law_1165 : decode qc_L_law 1165 = .ok (.iload 4, 2) := by decide +kernel
theorem qd_L_law_1167 : decode qc_L_law 1167 = .ok (.iconst 2, 1) := by decide +kernel
theorem qd_L_law_1168 : decode qc_L_law 1168 = .ok (.iadd, 1) := by decide +kernel
theorem qd_L_law_1169 : decode qc_L_law 1169 = .ok (.iaload, 1) := by decide +kernel
theorem qd_L_law_1170 : decode qc_L_law 1170 = .ok (.i2l, 1) := by decide +kernel
theorem qd_L_law_1171 : decode qc_L_law 1171 = .ok (.bipush 32, 2) := by decide +kernel
theorem qd_L_law_1173 : decode qc_L_law 1173 = .ok (.lshl, 1) := by decide +kernel
theorem qd_L_law_1174 : decode qc_L_law 1174 = .ok (.aload_n 0, 1) := by decide +kernel
theorem qd_L_law_1175 : decode qc_L_law 1175 = .ok (.iload 4, 2) := by decide +kernel
theorem qd_L_law_1177 : decode qc_L_law 1177 = .ok (.iconst 3, 1) := by decide +kernel
theorem qd_L_law_1178 : decode qc_L_law 1178 = .ok (.iadd, 1) := by decide +kernel
theorem qd_L_law_1179 : decode qc_L_law 1179 = .ok (.iaload, 1) := by decide +kernel
theorem qd_L_law_1180 : decode qc_L_law 1180 = .ok (.i2l, 1) := by decide +kernel
theorem qd_L_law_1181 : decode qc_L_law 1181 = .ok (.ldc2_w 62, 3) := by decide +kernel
theorem qd_L_law_1184 : decode qc_L_law 1184 = .ok (.land, 1) := by decide +kernel
theorem qd_L_law_1185 : decode qc_L_law 1185 = .ok (.lor, 1) := by decide +kernel
theorem qd_L_law_1186 : decode qc_L_law 1186 = .ok (.invokevirtual 116, 3) := by decide +kernel
theorem qd_L_law_1189 : decode qc_L_law 1189 = .ok (.istore 6, 2) := by decide +kernel
theorem qd_L_law_1191 : decode qc_L_law 1191 = .ok (.aload_n 2, 1) := by decide +kernel
theorem qd_L_law_1192 : decode qc_L_law 1192 = .ok (.invokevirtual 70, 3) := by decide +kernel
theorem qd_L_law_1195 : decode qc_L_law 1195 = .ok (.iload 5, 2) := by decide +kernel
theorem qd_L_law_1197 : decode qc_L_law 1197 = .ok (.if_icmp .eq 5, 3) := by decide +kernel
theorem qd_L_law_1200 : decode qc_L_law 1200 = .ok (.iconst 0, 1) := by decide +kernel
theorem qd_L_law_1201 : decode qc_L_law 1201 = .ok (.ireturn, 1) := by decide +kernel
theorem qd_L_law_1202 : decode qc_L_law 1202 = .ok (.iload 5, 2) := by decide +kernel
theorem qd_L_law_1204 : decode qc_L_law 1204 = .ok (.ifCond .ne 15, 3) := by decide +kernel
theorem qd_L_law_1207 : decode qc_L_law 1207 = .ok (.aload_n 3, 1) := by decide +kernel
theorem qd_L_law_1208 : decode qc_L_law 1208 = .ok (.iconst 0, 1) := by decide +kernel
theorem qd_L_law_1209 : decode qc_L_law 1209 = .ok (.laload, 1) := by decide +kernel
theorem qd_L_law_1210 : decode qc_L_law 1210 = .ok (.iload 6, 2) := by decide +kernel
theorem qd_L_law_1212 : decode qc_L_law 1212 = .ok (.i2l, 1) := by decide +kernel
theorem qd_L_law_1213 : decode qc_L_law 1213 = .ok (.lcmp, 1) := by decide +kernel
theorem qd_L_law_1214 : decode qc_L_law 1214 = .ok (.ifCond .eq 5, 3) := by decide +kernel
theorem qd_L_law_1217 : decode qc_L_law 1217 = .ok (.iconst 0, 1) := by decide +kernel
theorem qd_L_law_1218 : decode qc_L_law 1218 = .ok (.ireturn, 1) := by decide +kernel
theorem qd_L_law_1219 : decode qc_L_law 1219 = .ok (.goto 28, 3) := by decide +kernel
theorem qd_L_law_1222 : decode qc_L_law 1222 = .ok (.aload_n 1, 1) := by decide +kernel
theorem qd_L_law_1223 : decode qc_L_law 1223 = .ok (.aload_n 0, 1) := by decide +kernel
theorem qd_L_law_1224 : decode qc_L_law 1224 = .ok (.iload 4, 2) := by decide +kernel
theorem qd_L_law_1226 : decode qc_L_law 1226 = .ok (.iconst 1, 1) := by decide +kernel
theorem qd_L_law_1227 : decode qc_L_law 1227 = .ok (.iadd, 1) := by decide +kernel
theorem qd_L_law_1228 : decode qc_L_law 1228 = .ok (.iaload, 1) := by decide +kernel
theorem qd_L_law_1229 : decode qc_L_law 1229 = .ok (.invokevirtual 117, 3) := by decide +kernel
theorem qd_L_law_1232 : decode qc_L_law 1232 = .ok (.aload_n 2, 1) := by decide +kernel
theorem qd_L_law_1233 : decode qc_L_law 1233 = .ok (.aload_n 0, 1) := by decide +kernel
theorem qd_L_law_1234 : decode qc_L_law 1234 = .ok (.iload 4, 2) := by decide +kernel
theorem qd_L_law_1236 : decode qc_L_law 1236 = .ok (.iconst 1, 1) := by decide +kernel
theorem qd_L_law_1237 : decode qc_L_law 1237 = .ok (.iadd, 1) := by decide +kernel
theorem qd_L_law_1238 : decode qc_L_law 1238 = .ok (.iaload, 1) := by decide +kernel
theorem qd_L_law_1239 : decode qc_L_law 1239 = .ok (.invokevirtual 120, 3) := by decide +kernel
theorem qd_L_law_1242 : decode qc_L_law 1242 = .ok (.if_icmp .eq 5, 3) := by decide +kernel
theorem qd_L_law_1245 : decode qc_L_law 1245 = .ok (.iconst 0, 1) := by decide +kernel
theorem qd_L_law_1246 : decode qc_L_law 1246 = .ok (.ireturn, 1) := by decide +kernel
theorem qd_L_law_1247 : decode qc_L_law 1247 = .ok (.iinc 4 7, 3) := by decide +kernel
theorem qd_L_law_1250 : decode qc_L_law 1250 = .ok (.goto (-1227), 3) := by decide +kernel
theorem qd_L_law_1253 : decode qc_L_law 1253 = .ok (.iconst 1, 1) := by decide +kernel
theorem qd_L_law_1254 : decode qc_L_law 1254 = .ok (.ireturn, 1) := by decide +kernel
