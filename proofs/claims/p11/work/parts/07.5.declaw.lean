theorem dL_law_968 : decode cL_law 968 = .ok (.iaload, 1) := by decide +kernel
theorem dL_law_969 : decode cL_law 969 = .ok (.invokevirtual 145, 3) := by decide +kernel
theorem dL_law_972 : decode cL_law 972 = .ok (.istore 6, 2) := by decide +kernel
theorem dL_law_974 : decode cL_law 974 = .ok (.goto 479, 3) := by decide +kernel
theorem dL_law_977 : decode cL_law 977 = .ok (.aload_n 1, 1) := by decide +kernel
theorem dL_law_978 : decode cL_law 978 = .ok (.aload_n 0, 1) := by decide +kernel
theorem dL_law_979 : decode cL_law 979 = .ok (.iload 4, 2) := by decide +kernel
theorem dL_law_981 : decode cL_law 981 = .ok (.iconst 1, 1) := by decide +kernel
theorem dL_law_982 : decode cL_law 982 = .ok (.iadd, 1) := by decide +kernel
theorem dL_law_983 : decode cL_law 983 = .ok (.iaload, 1) := by decide +kernel
theorem dL_law_984 : decode cL_law 984 = .ok (.aload_n 0, 1) := by decide +kernel
theorem dL_law_985 : decode cL_law 985 = .ok (.iload 4, 2) := by decide +kernel
theorem dL_law_987 : decode cL_law 987 = .ok (.iconst 2, 1) := by decide +kernel
theorem dL_law_988 : decode cL_law 988 = .ok (.iadd, 1) := by decide +kernel
theorem dL_law_989 : decode cL_law 989 = .ok (.iaload, 1) := by decide +kernel
theorem dL_law_990 : decode cL_law 990 = .ok (.aload_n 0, 1) := by decide +kernel
theorem dL_law_991 : decode cL_law 991 = .ok (.iload 4, 2) := by decide +kernel
theorem dL_law_993 : decode cL_law 993 = .ok (.iconst 3, 1) := by decide +kernel
theorem dL_law_994 : decode cL_law 994 = .ok (.iadd, 1) := by decide +kernel
theorem dL_law_995 : decode cL_law 995 = .ok (.iaload, 1) := by decide +kernel
theorem dL_law_996 : decode cL_law 996 = .ok (.invokevirtual 146, 3) := by decide +kernel
theorem dL_law_999 : decode cL_law 999 = .ok (.pop, 1) := by decide +kernel
theorem dL_law_1000 : decode cL_law 1000 = .ok (.aload_n 2, 1) := by decide +kernel
theorem dL_law_1001 : decode cL_law 1001 = .ok (.aload_n 0, 1) := by decide +kernel
theorem dL_law_1002 : decode cL_law 1002 = .ok (.iload 4, 2) := by decide +kernel
theorem dL_law_1004 : decode cL_law 1004 = .ok (.iconst 1, 1) := by decide +kernel
theorem dL_law_1005 : decode cL_law 1005 = .ok (.iadd, 1) := by decide +kernel
theorem dL_law_1006 : decode cL_law 1006 = .ok (.iaload, 1) := by decide +kernel
theorem dL_law_1007 : decode cL_law 1007 = .ok (.aload_n 0, 1) := by decide +kernel
theorem dL_law_1008 : decode cL_law 1008 = .ok (.iload 4, 2) := by decide +kernel
theorem dL_law_1010 : decode cL_law 1010 = .ok (.iconst 2, 1) := by decide +kernel
theorem dL_law_1011 : decode cL_law 1011 = .ok (.iadd, 1) := by decide +kernel
theorem dL_law_1012 : decode cL_law 1012 = .ok (.iaload, 1) := by decide +kernel
theorem dL_law_1013 : decode cL_law 1013 = .ok (.aload_n 0, 1) := by decide +kernel
theorem dL_law_1014 : decode cL_law 1014 = .ok (.iload 4, 2) := by decide +kernel
theorem dL_law_1016 : decode cL_law 1016 = .ok (.iconst 3, 1) := by decide +kernel
theorem dL_law_1017 : decode cL_law 1017 = .ok (.iadd, 1) := by decide +kernel
theorem dL_law_1018 : decode cL_law 1018 = .ok (.iaload, 1) := by decide +kernel
theorem dL_law_1019 : decode cL_law 1019 = .ok (.invokevirtual 149, 3) := by decide +kernel
theorem dL_law_1022 : decode cL_law 1022 = .ok (.pop, 1) := by decide +kernel
theorem dL_law_1023 : decode cL_law 1023 = .ok (.goto 430, 3) := by decide +kernel
theorem dL_law_1026 : decode cL_law 1026 = .ok (.aload_n 1, 1) := by decide +kernel
theorem dL_law_1027 : decode cL_law 1027 = .ok (.aload_n 0, 1) := by decide +kernel
theorem dL_law_1028 : decode cL_law 1028 = .ok (.iload 4, 2) := by decide +kernel
theorem dL_law_1030 : decode cL_law 1030 = .ok (.iconst 1, 1) := by decide +kernel
theorem dL_law_1031 : decode cL_law 1031 = .ok (.iadd, 1) := by decide +kernel
theorem dL_law_1032 : decode cL_law 1032 = .ok (.iaload, 1) := by decide +kernel
theorem dL_law_1033 : decode cL_law 1033 = .ok (.invokevirtual 150, 3) := by decide +kernel
theorem dL_law_1036 : decode cL_law 1036 = .ok (.pop, 1) := by decide +kernel
theorem dL_law_1037 : decode cL_law 1037 = .ok (.aload_n 2, 1) := by decide +kernel
theorem dL_law_1038 : decode cL_law 1038 = .ok (.aload_n 0, 1) := by decide +kernel
theorem dL_law_1039 : decode cL_law 1039 = .ok (.iload 4, 2) := by decide +kernel
theorem dL_law_1041 : decode cL_law 1041 = .ok (.iconst 1, 1) := by decide +kernel
theorem dL_law_1042 : decode cL_law 1042 = .ok (.iadd, 1) := by decide +kernel
theorem dL_law_1043 : decode cL_law 1043 = .ok (.iaload, 1) := by decide +kernel
theorem dL_law_1044 : decode cL_law 1044 = .ok (.invokevirtual 153, 3) := by decide +kernel
theorem dL_law_1047 : decode cL_law 1047 = .ok (.pop, 1) := by decide +kernel
theorem dL_law_1048 : decode cL_law 1048 = .ok (.goto 405, 3) := by decide +kernel
theorem dL_law_1051 : decode cL_law 1051 = .ok (.aload_n 1, 1) := by decide +kernel
theorem dL_law_1052 : decode cL_law 1052 = .ok (.aload_n 0, 1) := by decide +kernel
theorem dL_law_1053 : decode cL_law 1053 = .ok (.iload 4, 2) := by decide +kernel
theorem dL_law_1055 : decode cL_law 1055 = .ok (.iconst 1, 1) := by decide +kernel
theorem dL_law_1056 : decode cL_law 1056 = .ok (.iadd, 1) := by decide +kernel
theorem dL_law_1057 : decode cL_law 1057 = .ok (.iaload, 1) := by decide +kernel
theorem dL_law_1058 : decode cL_law 1058 = .ok (.aload_n 0, 1) := by decide +kernel
theorem dL_law_1059 : decode cL_law 1059 = .ok (.iload 4, 2) := by decide +kernel
theorem dL_law_1061 : decode cL_law 1061 = .ok (.iconst 2, 1) := by decide +kernel
theorem dL_law_1062 : decode cL_law 1062 = .ok (.iadd, 1) := by decide +kernel
theorem dL_law_1063 : decode cL_law 1063 = .ok (.iaload, 1) := by decide +kernel
theorem dL_law_1064 : decode cL_law 1064 = .ok (.invokevirtual 154, 3) := by decide +kernel
theorem dL_law_1067 : decode cL_law 1067 = .ok (.pop, 1) := by decide +kernel
theorem dL_law_1068 : decode cL_law 1068 = .ok (.aload_n 2, 1) := by decide +kernel
theorem dL_law_1069 : decode cL_law 1069 = .ok (.aload_n 0, 1) := by decide +kernel
theorem dL_law_1070 : decode cL_law 1070 = .ok (.iload 4, 2) := by decide +kernel
theorem dL_law_1072 : decode cL_law 1072 = .ok (.iconst 1, 1) := by decide +kernel
theorem dL_law_1073 : decode cL_law 1073 = .ok (.iadd, 1) := by decide +kernel
theorem dL_law_1074 : decode cL_law 1074 = .ok (.iaload, 1) := by decide +kernel
theorem dL_law_1075 : decode cL_law 1075 = .ok (.aload_n 0, 1) := by decide +kernel
theorem dL_law_1076 : decode cL_law 1076 = .ok (.iload 4, 2) := by decide +kernel
theorem dL_law_1078 : decode cL_law 1078 = .ok (.iconst 2, 1) := by decide +kernel
theorem dL_law_1079 : decode cL_law 1079 = .ok (.iadd, 1) := by decide +kernel
theorem dL_law_1080 : decode cL_law 1080 = .ok (.iaload, 1) := by decide +kernel
theorem dL_law_1081 : decode cL_law 1081 = .ok (.invokevirtual 157, 3) := by decide +kernel
theorem dL_law_1084 : decode cL_law 1084 = .ok (.pop, 1) := by decide +kernel
theorem dL_law_1085 : decode cL_law 1085 = .ok (.goto 368, 3) := by decide +kernel
theorem dL_law_1088 : decode cL_law 1088 = .ok (.aload_n 1, 1) := by decide +kernel
theorem dL_law_1089 : decode cL_law 1089 = .ok (.aload_n 0, 1) := by decide +kernel
theorem dL_law_1090 : decode cL_law 1090 = .ok (.iload 4, 2) := by decide +kernel
theorem dL_law_1092 : decode cL_law 1092 = .ok (.iconst 1, 1) := by decide +kernel
theorem dL_law_1093 : decode cL_law 1093 = .ok (.iadd, 1) := by decide +kernel
theorem dL_law_1094 : decode cL_law 1094 = .ok (.iaload, 1) := by decide +kernel
theorem dL_law_1095 : decode cL_law 1095 = .ok (.aload_n 0, 1) := by decide +kernel
theorem dL_law_1096 : decode cL_law 1096 = .ok (.iload 4, 2) := by decide +kernel
theorem dL_law_1098 : decode cL_law 1098 = .ok (.iconst 2, 1) := by decide +kernel
theorem dL_law_1099 : decode cL_law 1099 = .ok (.iadd, 1) := by decide +kernel
theorem dL_law_1100 : decode cL_law 1100 = .ok (.iaload, 1) := by decide +kernel
theorem dL_law_1101 : decode cL_law 1101 = .ok (.invokevirtual 158, 3) := by decide +kernel
theorem dL_law_1104 : decode cL_law 1104 = .ok (.pop, 1) := by decide +kernel
theorem dL_law_1105 : decode cL_law 1105 = .ok (.aload_n 2, 1) := by decide +kernel
theorem dL_law_1106 : decode cL_law 1106 = .ok (.aload_n 0, 1) := by decide +kernel
theorem dL_law_1107 : decode cL_law 1107 = .ok (.iload 4, 2) := by decide +kernel
theorem dL_law_1109 : decode cL_law 1109 = .ok (.iconst 1, 1) := by decide +kernel
theorem dL_law_1110 : decode cL_law 1110 = .ok (.iadd, 1) := by decide +kernel
theorem dL_law_1111 : decode cL_law 1111 = .ok (.iaload, 1) := by decide +kernel
theorem dL_law_1112 : decode cL_law 1112 = .ok (.aload_n 0, 1) := by decide +kernel
theorem dL_law_1113 : decode cL_law 1113 = .ok (.iload 4, 2) := by decide +kernel
theorem dL_law_1115 : decode cL_law 1115 = .ok (.iconst 2, 1) := by decide +kernel
theorem dL_law_1116 : decode cL_law 1116 = .ok (.iadd, 1) := by decide +kernel
theorem dL_law_1117 : decode cL_law 1117 = .ok (.iaload, 1) := by decide +kernel
theorem dL_law_1118 : decode cL_law 1118 = .ok (.invokevirtual 161, 3) := by decide +kernel
theorem dL_law_1121 : decode cL_law 1121 = .ok (.pop, 1) := by decide +kernel
theorem dL_law_1122 : decode cL_law 1122 = .ok (.goto 331, 3) := by decide +kernel
theorem dL_law_1125 : decode cL_law 1125 = .ok (.aload_n 1, 1) := by decide +kernel
theorem dL_law_1126 : decode cL_law 1126 = .ok (.aload_n 0, 1) := by decide +kernel
theorem dL_law_1127 : decode cL_law 1127 = .ok (.iload 4, 2) := by decide +kernel
