theorem dL_law_1011_c : decode cL_law 1011 = .ok (.iadd, 1) ∧ decode cL_law 1012 = .ok (.iaload, 1) ∧ decode cL_law 1013 = .ok (.invokevirtual 180, 3) ∧ decode cL_law 1016 = .ok (.istore 6, 2) ∧ decode cL_law 1018 = .ok (.goto 655, 3) ∧ decode cL_law 1021 = .ok (.aload_n 1, 1) ∧ decode cL_law 1022 = .ok (.aload_n 0, 1) ∧ decode cL_law 1023 = .ok (.iload 4, 2) ∧ decode cL_law 1025 = .ok (.iconst 1, 1) ∧ decode cL_law 1026 = .ok (.iadd, 1) ∧ decode cL_law 1027 = .ok (.iaload, 1) ∧ decode cL_law 1028 = .ok (.aload_n 0, 1) ∧ decode cL_law 1029 = .ok (.iload 4, 2) ∧ decode cL_law 1031 = .ok (.iconst 2, 1) ∧ decode cL_law 1032 = .ok (.iadd, 1) ∧ decode cL_law 1033 = .ok (.iaload, 1) := by decide +kernel
theorem dL_law_1011 : decode cL_law 1011 = .ok (.iadd, 1) := dL_law_1011_c.1
theorem dL_law_1012 : decode cL_law 1012 = .ok (.iaload, 1) := dL_law_1011_c.2.1
theorem dL_law_1013 : decode cL_law 1013 = .ok (.invokevirtual 180, 3) := dL_law_1011_c.2.2.1
theorem dL_law_1016 : decode cL_law 1016 = .ok (.istore 6, 2) := dL_law_1011_c.2.2.2.1
theorem dL_law_1018 : decode cL_law 1018 = .ok (.goto 655, 3) := dL_law_1011_c.2.2.2.2.1
theorem dL_law_1021 : decode cL_law 1021 = .ok (.aload_n 1, 1) := dL_law_1011_c.2.2.2.2.2.1
theorem dL_law_1022 : decode cL_law 1022 = .ok (.aload_n 0, 1) := dL_law_1011_c.2.2.2.2.2.2.1
theorem dL_law_1023 : decode cL_law 1023 = .ok (.iload 4, 2) := dL_law_1011_c.2.2.2.2.2.2.2.1
theorem dL_law_1025 : decode cL_law 1025 = .ok (.iconst 1, 1) := dL_law_1011_c.2.2.2.2.2.2.2.2.1
theorem dL_law_1026 : decode cL_law 1026 = .ok (.iadd, 1) := dL_law_1011_c.2.2.2.2.2.2.2.2.2.1
theorem dL_law_1027 : decode cL_law 1027 = .ok (.iaload, 1) := dL_law_1011_c.2.2.2.2.2.2.2.2.2.2.1
theorem dL_law_1028 : decode cL_law 1028 = .ok (.aload_n 0, 1) := dL_law_1011_c.2.2.2.2.2.2.2.2.2.2.2.1
theorem dL_law_1029 : decode cL_law 1029 = .ok (.iload 4, 2) := dL_law_1011_c.2.2.2.2.2.2.2.2.2.2.2.2.1
theorem dL_law_1031 : decode cL_law 1031 = .ok (.iconst 2, 1) := dL_law_1011_c.2.2.2.2.2.2.2.2.2.2.2.2.2.1
theorem dL_law_1032 : decode cL_law 1032 = .ok (.iadd, 1) := dL_law_1011_c.2.2.2.2.2.2.2.2.2.2.2.2.2.2.1
theorem dL_law_1033 : decode cL_law 1033 = .ok (.iaload, 1) := dL_law_1011_c.2.2.2.2.2.2.2.2.2.2.2.2.2.2.2
theorem dL_law_1034_c : decode cL_law 1034 = .ok (.aload_n 0, 1) ∧ decode cL_law 1035 = .ok (.iload 4, 2) ∧ decode cL_law 1037 = .ok (.iconst 3, 1) ∧ decode cL_law 1038 = .ok (.iadd, 1) ∧ decode cL_law 1039 = .ok (.iaload, 1) ∧ decode cL_law 1040 = .ok (.aload_n 0, 1) ∧ decode cL_law 1041 = .ok (.iload 4, 2) ∧ decode cL_law 1043 = .ok (.iconst 4, 1) ∧ decode cL_law 1044 = .ok (.iadd, 1) ∧ decode cL_law 1045 = .ok (.iaload, 1) ∧ decode cL_law 1046 = .ok (.aload_n 3, 1) ∧ decode cL_law 1047 = .ok (.invokestatic 181, 3) ∧ decode cL_law 1050 = .ok (.istore 5, 2) ∧ decode cL_law 1052 = .ok (.aload_n 2, 1) ∧ decode cL_law 1053 = .ok (.aload_n 0, 1) ∧ decode cL_law 1054 = .ok (.iload 4, 2) := by decide +kernel
theorem dL_law_1034 : decode cL_law 1034 = .ok (.aload_n 0, 1) := dL_law_1034_c.1
theorem dL_law_1035 : decode cL_law 1035 = .ok (.iload 4, 2) := dL_law_1034_c.2.1
theorem dL_law_1037 : decode cL_law 1037 = .ok (.iconst 3, 1) := dL_law_1034_c.2.2.1
theorem dL_law_1038 : decode cL_law 1038 = .ok (.iadd, 1) := dL_law_1034_c.2.2.2.1
theorem dL_law_1039 : decode cL_law 1039 = .ok (.iaload, 1) := dL_law_1034_c.2.2.2.2.1
theorem dL_law_1040 : decode cL_law 1040 = .ok (.aload_n 0, 1) := dL_law_1034_c.2.2.2.2.2.1
theorem dL_law_1041 : decode cL_law 1041 = .ok (.iload 4, 2) := dL_law_1034_c.2.2.2.2.2.2.1
theorem dL_law_1043 : decode cL_law 1043 = .ok (.iconst 4, 1) := dL_law_1034_c.2.2.2.2.2.2.2.1
theorem dL_law_1044 : decode cL_law 1044 = .ok (.iadd, 1) := dL_law_1034_c.2.2.2.2.2.2.2.2.1
theorem dL_law_1045 : decode cL_law 1045 = .ok (.iaload, 1) := dL_law_1034_c.2.2.2.2.2.2.2.2.2.1
theorem dL_law_1046 : decode cL_law 1046 = .ok (.aload_n 3, 1) := dL_law_1034_c.2.2.2.2.2.2.2.2.2.2.1
theorem dL_law_1047 : decode cL_law 1047 = .ok (.invokestatic 181, 3) := dL_law_1034_c.2.2.2.2.2.2.2.2.2.2.2.1
theorem dL_law_1050 : decode cL_law 1050 = .ok (.istore 5, 2) := dL_law_1034_c.2.2.2.2.2.2.2.2.2.2.2.2.1
theorem dL_law_1052 : decode cL_law 1052 = .ok (.aload_n 2, 1) := dL_law_1034_c.2.2.2.2.2.2.2.2.2.2.2.2.2.1
theorem dL_law_1053 : decode cL_law 1053 = .ok (.aload_n 0, 1) := dL_law_1034_c.2.2.2.2.2.2.2.2.2.2.2.2.2.2.1
theorem dL_law_1054 : decode cL_law 1054 = .ok (.iload 4, 2) := dL_law_1034_c.2.2.2.2.2.2.2.2.2.2.2.2.2.2.2
theorem dL_law_1056_c : decode cL_law 1056 = .ok (.iconst 1, 1) ∧ decode cL_law 1057 = .ok (.iadd, 1) ∧ decode cL_law 1058 = .ok (.iaload, 1) ∧ decode cL_law 1059 = .ok (.aload_n 0, 1) ∧ decode cL_law 1060 = .ok (.iload 4, 2) ∧ decode cL_law 1062 = .ok (.iconst 2, 1) ∧ decode cL_law 1063 = .ok (.iadd, 1) ∧ decode cL_law 1064 = .ok (.iaload, 1) ∧ decode cL_law 1065 = .ok (.aload_n 0, 1) ∧ decode cL_law 1066 = .ok (.iload 4, 2) ∧ decode cL_law 1068 = .ok (.iconst 3, 1) ∧ decode cL_law 1069 = .ok (.iadd, 1) ∧ decode cL_law 1070 = .ok (.iaload, 1) ∧ decode cL_law 1071 = .ok (.aload_n 0, 1) ∧ decode cL_law 1072 = .ok (.iload 4, 2) ∧ decode cL_law 1074 = .ok (.iconst 4, 1) := by decide +kernel
theorem dL_law_1056 : decode cL_law 1056 = .ok (.iconst 1, 1) := dL_law_1056_c.1
theorem dL_law_1057 : decode cL_law 1057 = .ok (.iadd, 1) := dL_law_1056_c.2.1
theorem dL_law_1058 : decode cL_law 1058 = .ok (.iaload, 1) := dL_law_1056_c.2.2.1
theorem dL_law_1059 : decode cL_law 1059 = .ok (.aload_n 0, 1) := dL_law_1056_c.2.2.2.1
theorem dL_law_1060 : decode cL_law 1060 = .ok (.iload 4, 2) := dL_law_1056_c.2.2.2.2.1
theorem dL_law_1062 : decode cL_law 1062 = .ok (.iconst 2, 1) := dL_law_1056_c.2.2.2.2.2.1
theorem dL_law_1063 : decode cL_law 1063 = .ok (.iadd, 1) := dL_law_1056_c.2.2.2.2.2.2.1
theorem dL_law_1064 : decode cL_law 1064 = .ok (.iaload, 1) := dL_law_1056_c.2.2.2.2.2.2.2.1
theorem dL_law_1065 : decode cL_law 1065 = .ok (.aload_n 0, 1) := dL_law_1056_c.2.2.2.2.2.2.2.2.1
theorem dL_law_1066 : decode cL_law 1066 = .ok (.iload 4, 2) := dL_law_1056_c.2.2.2.2.2.2.2.2.2.1
theorem dL_law_1068 : decode cL_law 1068 = .ok (.iconst 3, 1) := dL_law_1056_c.2.2.2.2.2.2.2.2.2.2.1
theorem dL_law_1069 : decode cL_law 1069 = .ok (.iadd, 1) := dL_law_1056_c.2.2.2.2.2.2.2.2.2.2.2.1
theorem dL_law_1070 : decode cL_law 1070 = .ok (.iaload, 1) := dL_law_1056_c.2.2.2.2.2.2.2.2.2.2.2.2.1
theorem dL_law_1071 : decode cL_law 1071 = .ok (.aload_n 0, 1) := dL_law_1056_c.2.2.2.2.2.2.2.2.2.2.2.2.2.1
theorem dL_law_1072 : decode cL_law 1072 = .ok (.iload 4, 2) := dL_law_1056_c.2.2.2.2.2.2.2.2.2.2.2.2.2.2.1
theorem dL_law_1074 : decode cL_law 1074 = .ok (.iconst 4, 1) := dL_law_1056_c.2.2.2.2.2.2.2.2.2.2.2.2.2.2.2
theorem dL_law_1075_c : decode cL_law 1075 = .ok (.iadd, 1) ∧ decode cL_law 1076 = .ok (.iaload, 1) ∧ decode cL_law 1077 = .ok (.invokevirtual 183, 3) ∧ decode cL_law 1080 = .ok (.istore 6, 2) ∧ decode cL_law 1082 = .ok (.goto 591, 3) ∧ decode cL_law 1085 = .ok (.aload_n 1, 1) ∧ decode cL_law 1086 = .ok (.aload_n 0, 1) ∧ decode cL_law 1087 = .ok (.iload 4, 2) ∧ decode cL_law 1089 = .ok (.iconst 1, 1) ∧ decode cL_law 1090 = .ok (.iadd, 1) ∧ decode cL_law 1091 = .ok (.iaload, 1) ∧ decode cL_law 1092 = .ok (.aload_n 0, 1) ∧ decode cL_law 1093 = .ok (.iload 4, 2) ∧ decode cL_law 1095 = .ok (.iconst 2, 1) ∧ decode cL_law 1096 = .ok (.iadd, 1) ∧ decode cL_law 1097 = .ok (.iaload, 1) := by decide +kernel
theorem dL_law_1075 : decode cL_law 1075 = .ok (.iadd, 1) := dL_law_1075_c.1
theorem dL_law_1076 : decode cL_law 1076 = .ok (.iaload, 1) := dL_law_1075_c.2.1
theorem dL_law_1077 : decode cL_law 1077 = .ok (.invokevirtual 183, 3) := dL_law_1075_c.2.2.1
theorem dL_law_1080 : decode cL_law 1080 = .ok (.istore 6, 2) := dL_law_1075_c.2.2.2.1
theorem dL_law_1082 : decode cL_law 1082 = .ok (.goto 591, 3) := dL_law_1075_c.2.2.2.2.1
theorem dL_law_1085 : decode cL_law 1085 = .ok (.aload_n 1, 1) := dL_law_1075_c.2.2.2.2.2.1
theorem dL_law_1086 : decode cL_law 1086 = .ok (.aload_n 0, 1) := dL_law_1075_c.2.2.2.2.2.2.1
theorem dL_law_1087 : decode cL_law 1087 = .ok (.iload 4, 2) := dL_law_1075_c.2.2.2.2.2.2.2.1
theorem dL_law_1089 : decode cL_law 1089 = .ok (.iconst 1, 1) := dL_law_1075_c.2.2.2.2.2.2.2.2.1
theorem dL_law_1090 : decode cL_law 1090 = .ok (.iadd, 1) := dL_law_1075_c.2.2.2.2.2.2.2.2.2.1
theorem dL_law_1091 : decode cL_law 1091 = .ok (.iaload, 1) := dL_law_1075_c.2.2.2.2.2.2.2.2.2.2.1
theorem dL_law_1092 : decode cL_law 1092 = .ok (.aload_n 0, 1) := dL_law_1075_c.2.2.2.2.2.2.2.2.2.2.2.1
theorem dL_law_1093 : decode cL_law 1093 = .ok (.iload 4, 2) := dL_law_1075_c.2.2.2.2.2.2.2.2.2.2.2.2.1
theorem dL_law_1095 : decode cL_law 1095 = .ok (.iconst 2, 1) := dL_law_1075_c.2.2.2.2.2.2.2.2.2.2.2.2.2.1
theorem dL_law_1096 : decode cL_law 1096 = .ok (.iadd, 1) := dL_law_1075_c.2.2.2.2.2.2.2.2.2.2.2.2.2.2.1
theorem dL_law_1097 : decode cL_law 1097 = .ok (.iaload, 1) := dL_law_1075_c.2.2.2.2.2.2.2.2.2.2.2.2.2.2.2
theorem dL_law_1098_c : decode cL_law 1098 = .ok (.aload_n 0, 1) ∧ decode cL_law 1099 = .ok (.iload 4, 2) ∧ decode cL_law 1101 = .ok (.iconst 3, 1) ∧ decode cL_law 1102 = .ok (.iadd, 1) ∧ decode cL_law 1103 = .ok (.iaload, 1) ∧ decode cL_law 1104 = .ok (.aload_n 3, 1) ∧ decode cL_law 1105 = .ok (.invokestatic 184, 3) ∧ decode cL_law 1108 = .ok (.istore 5, 2) ∧ decode cL_law 1110 = .ok (.aload_n 2, 1) ∧ decode cL_law 1111 = .ok (.aload_n 0, 1) ∧ decode cL_law 1112 = .ok (.iload 4, 2) ∧ decode cL_law 1114 = .ok (.iconst 1, 1) ∧ decode cL_law 1115 = .ok (.iadd, 1) ∧ decode cL_law 1116 = .ok (.iaload, 1) ∧ decode cL_law 1117 = .ok (.aload_n 0, 1) ∧ decode cL_law 1118 = .ok (.iload 4, 2) := by decide +kernel
theorem dL_law_1098 : decode cL_law 1098 = .ok (.aload_n 0, 1) := dL_law_1098_c.1
theorem dL_law_1099 : decode cL_law 1099 = .ok (.iload 4, 2) := dL_law_1098_c.2.1
theorem dL_law_1101 : decode cL_law 1101 = .ok (.iconst 3, 1) := dL_law_1098_c.2.2.1
theorem dL_law_1102 : decode cL_law 1102 = .ok (.iadd, 1) := dL_law_1098_c.2.2.2.1
theorem dL_law_1103 : decode cL_law 1103 = .ok (.iaload, 1) := dL_law_1098_c.2.2.2.2.1
theorem dL_law_1104 : decode cL_law 1104 = .ok (.aload_n 3, 1) := dL_law_1098_c.2.2.2.2.2.1
theorem dL_law_1105 : decode cL_law 1105 = .ok (.invokestatic 184, 3) := dL_law_1098_c.2.2.2.2.2.2.1
theorem dL_law_1108 : decode cL_law 1108 = .ok (.istore 5, 2) := dL_law_1098_c.2.2.2.2.2.2.2.1
theorem dL_law_1110 : decode cL_law 1110 = .ok (.aload_n 2, 1) := dL_law_1098_c.2.2.2.2.2.2.2.2.1
theorem dL_law_1111 : decode cL_law 1111 = .ok (.aload_n 0, 1) := dL_law_1098_c.2.2.2.2.2.2.2.2.2.1
theorem dL_law_1112 : decode cL_law 1112 = .ok (.iload 4, 2) := dL_law_1098_c.2.2.2.2.2.2.2.2.2.2.1
theorem dL_law_1114 : decode cL_law 1114 = .ok (.iconst 1, 1) := dL_law_1098_c.2.2.2.2.2.2.2.2.2.2.2.1
theorem dL_law_1115 : decode cL_law 1115 = .ok (.iadd, 1) := dL_law_1098_c.2.2.2.2.2.2.2.2.2.2.2.2.1
theorem dL_law_1116 : decode cL_law 1116 = .ok (.iaload, 1) := dL_law_1098_c.2.2.2.2.2.2.2.2.2.2.2.2.2.1
theorem dL_law_1117 : decode cL_law 1117 = .ok (.aload_n 0, 1) := dL_law_1098_c.2.2.2.2.2.2.2.2.2.2.2.2.2.2.1
theorem dL_law_1118 : decode cL_law 1118 = .ok (.iload 4, 2) := dL_law_1098_c.2.2.2.2.2.2.2.2.2.2.2.2.2.2.2
theorem dL_law_1120_c : decode cL_law 1120 = .ok (.iconst 2, 1) ∧ decode cL_law 1121 = .ok (.iadd, 1) ∧ decode cL_law 1122 = .ok (.iaload, 1) ∧ decode cL_law 1123 = .ok (.aload_n 0, 1) ∧ decode cL_law 1124 = .ok (.iload 4, 2) ∧ decode cL_law 1126 = .ok (.iconst 3, 1) ∧ decode cL_law 1127 = .ok (.iadd, 1) ∧ decode cL_law 1128 = .ok (.iaload, 1) ∧ decode cL_law 1129 = .ok (.invokevirtual 186, 3) ∧ decode cL_law 1132 = .ok (.istore 6, 2) ∧ decode cL_law 1134 = .ok (.goto 539, 3) ∧ decode cL_law 1137 = .ok (.aload_n 1, 1) ∧ decode cL_law 1138 = .ok (.aload_n 0, 1) ∧ decode cL_law 1139 = .ok (.iload 4, 2) ∧ decode cL_law 1141 = .ok (.iconst 1, 1) ∧ decode cL_law 1142 = .ok (.iadd, 1) := by decide +kernel
theorem dL_law_1120 : decode cL_law 1120 = .ok (.iconst 2, 1) := dL_law_1120_c.1
theorem dL_law_1121 : decode cL_law 1121 = .ok (.iadd, 1) := dL_law_1120_c.2.1
theorem dL_law_1122 : decode cL_law 1122 = .ok (.iaload, 1) := dL_law_1120_c.2.2.1
theorem dL_law_1123 : decode cL_law 1123 = .ok (.aload_n 0, 1) := dL_law_1120_c.2.2.2.1
theorem dL_law_1124 : decode cL_law 1124 = .ok (.iload 4, 2) := dL_law_1120_c.2.2.2.2.1
theorem dL_law_1126 : decode cL_law 1126 = .ok (.iconst 3, 1) := dL_law_1120_c.2.2.2.2.2.1
theorem dL_law_1127 : decode cL_law 1127 = .ok (.iadd, 1) := dL_law_1120_c.2.2.2.2.2.2.1
theorem dL_law_1128 : decode cL_law 1128 = .ok (.iaload, 1) := dL_law_1120_c.2.2.2.2.2.2.2.1
theorem dL_law_1129 : decode cL_law 1129 = .ok (.invokevirtual 186, 3) := dL_law_1120_c.2.2.2.2.2.2.2.2.1
theorem dL_law_1132 : decode cL_law 1132 = .ok (.istore 6, 2) := dL_law_1120_c.2.2.2.2.2.2.2.2.2.1
theorem dL_law_1134 : decode cL_law 1134 = .ok (.goto 539, 3) := dL_law_1120_c.2.2.2.2.2.2.2.2.2.2.1
theorem dL_law_1137 : decode cL_law 1137 = .ok (.aload_n 1, 1) := dL_law_1120_c.2.2.2.2.2.2.2.2.2.2.2.1
theorem dL_law_1138 : decode cL_law 1138 = .ok (.aload_n 0, 1) := dL_law_1120_c.2.2.2.2.2.2.2.2.2.2.2.2.1
theorem dL_law_1139 : decode cL_law 1139 = .ok (.iload 4, 2) := dL_law_1120_c.2.2.2.2.2.2.2.2.2.2.2.2.2.1
theorem dL_law_1141 : decode cL_law 1141 = .ok (.iconst 1, 1) := dL_law_1120_c.2.2.2.2.2.2.2.2.2.2.2.2.2.2.1
theorem dL_law_1142 : decode cL_law 1142 = .ok (.iadd, 1) := dL_law_1120_c.2.2.2.2.2.2.2.2.2.2.2.2.2.2.2
theorem dL_law_1143_c : decode cL_law 1143 = .ok (.iaload, 1) ∧ decode cL_law 1144 = .ok (.aload_n 0, 1) ∧ decode cL_law 1145 = .ok (.iload 4, 2) ∧ decode cL_law 1147 = .ok (.iconst 2, 1) ∧ decode cL_law 1148 = .ok (.iadd, 1) ∧ decode cL_law 1149 = .ok (.iaload, 1) ∧ decode cL_law 1150 = .ok (.aload_n 3, 1) ∧ decode cL_law 1151 = .ok (.invokestatic 187, 3) ∧ decode cL_law 1154 = .ok (.istore 5, 2) ∧ decode cL_law 1156 = .ok (.aload_n 2, 1) ∧ decode cL_law 1157 = .ok (.aload_n 0, 1) ∧ decode cL_law 1158 = .ok (.iload 4, 2) ∧ decode cL_law 1160 = .ok (.iconst 1, 1) ∧ decode cL_law 1161 = .ok (.iadd, 1) ∧ decode cL_law 1162 = .ok (.iaload, 1) ∧ decode cL_law 1163 = .ok (.aload_n 0, 1) := by decide +kernel
theorem dL_law_1143 : decode cL_law 1143 = .ok (.iaload, 1) := dL_law_1143_c.1
theorem dL_law_1144 : decode cL_law 1144 = .ok (.aload_n 0, 1) := dL_law_1143_c.2.1
theorem dL_law_1145 : decode cL_law 1145 = .ok (.iload 4, 2) := dL_law_1143_c.2.2.1
theorem dL_law_1147 : decode cL_law 1147 = .ok (.iconst 2, 1) := dL_law_1143_c.2.2.2.1
theorem dL_law_1148 : decode cL_law 1148 = .ok (.iadd, 1) := dL_law_1143_c.2.2.2.2.1
theorem dL_law_1149 : decode cL_law 1149 = .ok (.iaload, 1) := dL_law_1143_c.2.2.2.2.2.1
theorem dL_law_1150 : decode cL_law 1150 = .ok (.aload_n 3, 1) := dL_law_1143_c.2.2.2.2.2.2.1
theorem dL_law_1151 : decode cL_law 1151 = .ok (.invokestatic 187, 3) := dL_law_1143_c.2.2.2.2.2.2.2.1
theorem dL_law_1154 : decode cL_law 1154 = .ok (.istore 5, 2) := dL_law_1143_c.2.2.2.2.2.2.2.2.1
theorem dL_law_1156 : decode cL_law 1156 = .ok (.aload_n 2, 1) := dL_law_1143_c.2.2.2.2.2.2.2.2.2.1
theorem dL_law_1157 : decode cL_law 1157 = .ok (.aload_n 0, 1) := dL_law_1143_c.2.2.2.2.2.2.2.2.2.2.1
theorem dL_law_1158 : decode cL_law 1158 = .ok (.iload 4, 2) := dL_law_1143_c.2.2.2.2.2.2.2.2.2.2.2.1
theorem dL_law_1160 : decode cL_law 1160 = .ok (.iconst 1, 1) := dL_law_1143_c.2.2.2.2.2.2.2.2.2.2.2.2.1
theorem dL_law_1161 : decode cL_law 1161 = .ok (.iadd, 1) := dL_law_1143_c.2.2.2.2.2.2.2.2.2.2.2.2.2.1
theorem dL_law_1162 : decode cL_law 1162 = .ok (.iaload, 1) := dL_law_1143_c.2.2.2.2.2.2.2.2.2.2.2.2.2.2.1
theorem dL_law_1163 : decode cL_law 1163 = .ok (.aload_n 0, 1) := dL_law_1143_c.2.2.2.2.2.2.2.2.2.2.2.2.2.2.2
theorem dL_law_1164_c : decode cL_law 1164 = .ok (.iload 4, 2) ∧ decode cL_law 1166 = .ok (.iconst 2, 1) ∧ decode cL_law 1167 = .ok (.iadd, 1) ∧ decode cL_law 1168 = .ok (.iaload, 1) ∧ decode cL_law 1169 = .ok (.invokevirtual 189, 3) ∧ decode cL_law 1172 = .ok (.istore 6, 2) ∧ decode cL_law 1174 = .ok (.goto 499, 3) ∧ decode cL_law 1177 = .ok (.aload_n 1, 1) ∧ decode cL_law 1178 = .ok (.aload_n 0, 1) ∧ decode cL_law 1179 = .ok (.iload 4, 2) ∧ decode cL_law 1181 = .ok (.iconst 1, 1) ∧ decode cL_law 1182 = .ok (.iadd, 1) ∧ decode cL_law 1183 = .ok (.iaload, 1) ∧ decode cL_law 1184 = .ok (.aload_n 0, 1) ∧ decode cL_law 1185 = .ok (.iload 4, 2) ∧ decode cL_law 1187 = .ok (.iconst 2, 1) := by decide +kernel
theorem dL_law_1164 : decode cL_law 1164 = .ok (.iload 4, 2) := dL_law_1164_c.1
theorem dL_law_1166 : decode cL_law 1166 = .ok (.iconst 2, 1) := dL_law_1164_c.2.1
theorem dL_law_1167 : decode cL_law 1167 = .ok (.iadd, 1) := dL_law_1164_c.2.2.1
theorem dL_law_1168 : decode cL_law 1168 = .ok (.iaload, 1) := dL_law_1164_c.2.2.2.1
theorem dL_law_1169 : decode cL_law 1169 = .ok (.invokevirtual 189, 3) := dL_law_1164_c.2.2.2.2.1
theorem dL_law_1172 : decode cL_law 1172 = .ok (.istore 6, 2) := dL_law_1164_c.2.2.2.2.2.1
theorem dL_law_1174 : decode cL_law 1174 = .ok (.goto 499, 3) := dL_law_1164_c.2.2.2.2.2.2.1
theorem dL_law_1177 : decode cL_law 1177 = .ok (.aload_n 1, 1) := dL_law_1164_c.2.2.2.2.2.2.2.1
theorem dL_law_1178 : decode cL_law 1178 = .ok (.aload_n 0, 1) := dL_law_1164_c.2.2.2.2.2.2.2.2.1
theorem dL_law_1179 : decode cL_law 1179 = .ok (.iload 4, 2) := dL_law_1164_c.2.2.2.2.2.2.2.2.2.1
theorem dL_law_1181 : decode cL_law 1181 = .ok (.iconst 1, 1) := dL_law_1164_c.2.2.2.2.2.2.2.2.2.2.1
theorem dL_law_1182 : decode cL_law 1182 = .ok (.iadd, 1) := dL_law_1164_c.2.2.2.2.2.2.2.2.2.2.2.1
theorem dL_law_1183 : decode cL_law 1183 = .ok (.iaload, 1) := dL_law_1164_c.2.2.2.2.2.2.2.2.2.2.2.2.1
theorem dL_law_1184 : decode cL_law 1184 = .ok (.aload_n 0, 1) := dL_law_1164_c.2.2.2.2.2.2.2.2.2.2.2.2.2.1
theorem dL_law_1185 : decode cL_law 1185 = .ok (.iload 4, 2) := dL_law_1164_c.2.2.2.2.2.2.2.2.2.2.2.2.2.2.1
theorem dL_law_1187 : decode cL_law 1187 = .ok (.iconst 2, 1) := dL_law_1164_c.2.2.2.2.2.2.2.2.2.2.2.2.2.2.2
theorem dL_law_1188_c : decode cL_law 1188 = .ok (.iadd, 1) ∧ decode cL_law 1189 = .ok (.iaload, 1) ∧ decode cL_law 1190 = .ok (.aload_n 0, 1) ∧ decode cL_law 1191 = .ok (.iload 4, 2) ∧ decode cL_law 1193 = .ok (.iconst 3, 1) ∧ decode cL_law 1194 = .ok (.iadd, 1) ∧ decode cL_law 1195 = .ok (.iaload, 1) ∧ decode cL_law 1196 = .ok (.aload_n 3, 1) ∧ decode cL_law 1197 = .ok (.invokestatic 190, 3) ∧ decode cL_law 1200 = .ok (.istore 5, 2) ∧ decode cL_law 1202 = .ok (.aload_n 2, 1) ∧ decode cL_law 1203 = .ok (.aload_n 0, 1) ∧ decode cL_law 1204 = .ok (.iload 4, 2) ∧ decode cL_law 1206 = .ok (.iconst 1, 1) ∧ decode cL_law 1207 = .ok (.iadd, 1) ∧ decode cL_law 1208 = .ok (.iaload, 1) := by decide +kernel
theorem dL_law_1188 : decode cL_law 1188 = .ok (.iadd, 1) := dL_law_1188_c.1
theorem dL_law_1189 : decode cL_law 1189 = .ok (.iaload, 1) := dL_law_1188_c.2.1
theorem dL_law_1190 : decode cL_law 1190 = .ok (.aload_n 0, 1) := dL_law_1188_c.2.2.1
theorem dL_law_1191 : decode cL_law 1191 = .ok (.iload 4, 2) := dL_law_1188_c.2.2.2.1
theorem dL_law_1193 : decode cL_law 1193 = .ok (.iconst 3, 1) := dL_law_1188_c.2.2.2.2.1
theorem dL_law_1194 : decode cL_law 1194 = .ok (.iadd, 1) := dL_law_1188_c.2.2.2.2.2.1
theorem dL_law_1195 : decode cL_law 1195 = .ok (.iaload, 1) := dL_law_1188_c.2.2.2.2.2.2.1
theorem dL_law_1196 : decode cL_law 1196 = .ok (.aload_n 3, 1) := dL_law_1188_c.2.2.2.2.2.2.2.1
theorem dL_law_1197 : decode cL_law 1197 = .ok (.invokestatic 190, 3) := dL_law_1188_c.2.2.2.2.2.2.2.2.1
theorem dL_law_1200 : decode cL_law 1200 = .ok (.istore 5, 2) := dL_law_1188_c.2.2.2.2.2.2.2.2.2.1
theorem dL_law_1202 : decode cL_law 1202 = .ok (.aload_n 2, 1) := dL_law_1188_c.2.2.2.2.2.2.2.2.2.2.1
theorem dL_law_1203 : decode cL_law 1203 = .ok (.aload_n 0, 1) := dL_law_1188_c.2.2.2.2.2.2.2.2.2.2.2.1
theorem dL_law_1204 : decode cL_law 1204 = .ok (.iload 4, 2) := dL_law_1188_c.2.2.2.2.2.2.2.2.2.2.2.2.1
theorem dL_law_1206 : decode cL_law 1206 = .ok (.iconst 1, 1) := dL_law_1188_c.2.2.2.2.2.2.2.2.2.2.2.2.2.1
theorem dL_law_1207 : decode cL_law 1207 = .ok (.iadd, 1) := dL_law_1188_c.2.2.2.2.2.2.2.2.2.2.2.2.2.2.1
theorem dL_law_1208 : decode cL_law 1208 = .ok (.iaload, 1) := dL_law_1188_c.2.2.2.2.2.2.2.2.2.2.2.2.2.2.2
theorem dL_law_1209_c : decode cL_law 1209 = .ok (.aload_n 0, 1) ∧ decode cL_law 1210 = .ok (.iload 4, 2) ∧ decode cL_law 1212 = .ok (.iconst 2, 1) ∧ decode cL_law 1213 = .ok (.iadd, 1) ∧ decode cL_law 1214 = .ok (.iaload, 1) ∧ decode cL_law 1215 = .ok (.aload_n 0, 1) := by decide +kernel
theorem dL_law_1209 : decode cL_law 1209 = .ok (.aload_n 0, 1) := dL_law_1209_c.1
theorem dL_law_1210 : decode cL_law 1210 = .ok (.iload 4, 2) := dL_law_1209_c.2.1
theorem dL_law_1212 : decode cL_law 1212 = .ok (.iconst 2, 1) := dL_law_1209_c.2.2.1
theorem dL_law_1213 : decode cL_law 1213 = .ok (.iadd, 1) := dL_law_1209_c.2.2.2.1
theorem dL_law_1214 : decode cL_law 1214 = .ok (.iaload, 1) := dL_law_1209_c.2.2.2.2.1
theorem dL_law_1215 : decode cL_law 1215 = .ok (.aload_n 0, 1) := dL_law_1209_c.2.2.2.2.2
