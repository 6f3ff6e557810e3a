theorem d_La_law_986 : decode code 986 = .ok (.ireturn, 1) := by decide +kernel
theorem d_La_law_987 : decode code 987 = .ok (.iload 5, 2) := by decide +kernel
theorem d_La_law_989 : decode code 989 = .ok (.ifCond .ne 22, 3) := by decide +kernel
theorem d_La_law_992 : decode code 992 = .ok (.aload_n 3, 1) := by decide +kernel
theorem d_La_law_993 : decode code 993 = .ok (.iconst 0, 1) := by decide +kernel
theorem d_La_law_994 : decode code 994 = .ok (.laload, 1) := by decide +kernel
theorem d_La_law_995 : decode code 995 = .ok (.iload 6, 2) := by decide +kernel
theorem d_La_law_997 : decode code 997 = .ok (.ifCond .eq 7, 3) := by decide +kernel
theorem d_La_law_1000 : decode code 1000 = .ok (.lconst 1, 1) := by decide +kernel
theorem d_La_law_1001 : decode code 1001 = .ok (.goto 4, 3) := by decide +kernel
theorem d_La_law_1004 : decode code 1004 = .ok (.lconst 0, 1) := by decide +kernel
theorem d_La_law_1005 : decode code 1005 = .ok (.lcmp, 1) := by decide +kernel
theorem d_La_law_1006 : decode code 1006 = .ok (.ifCond .eq 5, 3) := by decide +kernel
theorem d_La_law_1009 : decode code 1009 = .ok (.iconst 0, 1) := by decide +kernel
theorem d_La_law_1010 : decode code 1010 = .ok (.ireturn, 1) := by decide +kernel
theorem d_La_law_1011 : decode code 1011 = .ok (.goto 516, 3) := by decide +kernel
theorem d_La_law_1014 : decode code 1014 = .ok (.aload_n 1, 1) := by decide +kernel
theorem d_La_law_1015 : decode code 1015 = .ok (.aload_n 0, 1) := by decide +kernel
theorem d_La_law_1016 : decode code 1016 = .ok (.iload 4, 2) := by decide +kernel
theorem d_La_law_1018 : decode code 1018 = .ok (.iconst 1, 1) := by decide +kernel
theorem d_La_law_1019 : decode code 1019 = .ok (.iadd, 1) := by decide +kernel
theorem d_La_law_1020 : decode code 1020 = .ok (.iaload, 1) := by decide +kernel
theorem d_La_law_1021 : decode code 1021 = .ok (.aload_n 0, 1) := by decide +kernel
theorem d_La_law_1022 : decode code 1022 = .ok (.iload 4, 2) := by decide +kernel
theorem d_La_law_1024 : decode code 1024 = .ok (.iconst 2, 1) := by decide +kernel
theorem d_La_law_1025 : decode code 1025 = .ok (.iadd, 1) := by decide +kernel
theorem d_La_law_1026 : decode code 1026 = .ok (.iaload, 1) := by decide +kernel
theorem d_La_law_1027 : decode code 1027 = .ok (.aload_n 3, 1) := by decide +kernel
theorem d_La_law_1028 : decode code 1028 = .ok (.invokestatic 129, 3) := by decide +kernel
theorem d_La_law_1031 : decode code 1031 = .ok (.istore 5, 2) := by decide +kernel
theorem d_La_law_1033 : decode code 1033 = .ok (.aload_n 2, 1) := by decide +kernel
theorem d_La_law_1034 : decode code 1034 = .ok (.aload_n 0, 1) := by decide +kernel
theorem d_La_law_1035 : decode code 1035 = .ok (.iload 4, 2) := by decide +kernel
theorem d_La_law_1037 : decode code 1037 = .ok (.iconst 1, 1) := by decide +kernel
theorem d_La_law_1038 : decode code 1038 = .ok (.iadd, 1) := by decide +kernel
theorem d_La_law_1039 : decode code 1039 = .ok (.iaload, 1) := by decide +kernel
theorem d_La_law_1040 : decode code 1040 = .ok (.aload_n 0, 1) := by decide +kernel
theorem d_La_law_1041 : decode code 1041 = .ok (.iload 4, 2) := by decide +kernel
theorem d_La_law_1043 : decode code 1043 = .ok (.iconst 2, 1) := by decide +kernel
theorem d_La_law_1044 : decode code 1044 = .ok (.iadd, 1) := by decide +kernel
theorem d_La_law_1045 : decode code 1045 = .ok (.iaload, 1) := by decide +kernel
theorem d_La_law_1046 : decode code 1046 = .ok (.invokevirtual 131, 3) := by decide +kernel
theorem d_La_law_1049 : decode code 1049 = .ok (.istore 6, 2) := by decide +kernel
theorem d_La_law_1051 : decode code 1051 = .ok (.aload_n 2, 1) := by decide +kernel
theorem d_La_law_1052 : decode code 1052 = .ok (.invokevirtual 92, 3) := by decide +kernel
theorem d_La_law_1055 : decode code 1055 = .ok (.iload 5, 2) := by decide +kernel
theorem d_La_law_1057 : decode code 1057 = .ok (.if_icmp .eq 5, 3) := by decide +kernel
theorem d_La_law_1060 : decode code 1060 = .ok (.iconst 0, 1) := by decide +kernel
theorem d_La_law_1061 : decode code 1061 = .ok (.ireturn, 1) := by decide +kernel
theorem d_La_law_1062 : decode code 1062 = .ok (.iload 5, 2) := by decide +kernel
theorem d_La_law_1064 : decode code 1064 = .ok (.ifCond .ne 15, 3) := by decide +kernel
theorem d_La_law_1067 : decode code 1067 = .ok (.aload_n 3, 1) := by decide +kernel
theorem d_La_law_1068 : decode code 1068 = .ok (.iconst 0, 1) := by decide +kernel
theorem d_La_law_1069 : decode code 1069 = .ok (.laload, 1) := by decide +kernel
theorem d_La_law_1070 : decode code 1070 = .ok (.iload 6, 2) := by decide +kernel
theorem d_La_law_1072 : decode code 1072 = .ok (.i2l, 1) := by decide +kernel
theorem d_La_law_1073 : decode code 1073 = .ok (.lcmp, 1) := by decide +kernel
theorem d_La_law_1074 : decode code 1074 = .ok (.ifCond .eq 5, 3) := by decide +kernel
theorem d_La_law_1077 : decode code 1077 = .ok (.iconst 0, 1) := by decide +kernel
theorem d_La_law_1078 : decode code 1078 = .ok (.ireturn, 1) := by decide +kernel
theorem d_La_law_1079 : decode code 1079 = .ok (.goto 448, 3) := by decide +kernel
theorem d_La_law_1082 : decode code 1082 = .ok (.aload_n 1, 1) := by decide +kernel
theorem d_La_law_1083 : decode code 1083 = .ok (.invokevirtual 132, 3) := by decide +kernel
theorem d_La_law_1086 : decode code 1086 = .ok (.aload_n 2, 1) := by decide +kernel
theorem d_La_law_1087 : decode code 1087 = .ok (.invokevirtual 135, 3) := by decide +kernel
theorem d_La_law_1090 : decode code 1090 = .ok (.if_icmp .eq 437, 3) := by decide +kernel
theorem d_La_law_1093 : decode code 1093 = .ok (.iconst 0, 1) := by decide +kernel
theorem d_La_law_1094 : decode code 1094 = .ok (.ireturn, 1) := by decide +kernel
theorem d_La_law_1095 : decode code 1095 = .ok (.aload_n 1, 1) := by decide +kernel
theorem d_La_law_1096 : decode code 1096 = .ok (.aload_n 0, 1) := by decide +kernel
theorem d_La_law_1097 : decode code 1097 = .ok (.iload 4, 2) := by decide +kernel
theorem d_La_law_1099 : decode code 1099 = .ok (.iconst 1, 1) := by decide +kernel
theorem d_La_law_1100 : decode code 1100 = .ok (.iadd, 1) := by decide +kernel
theorem d_La_law_1101 : decode code 1101 = .ok (.iaload, 1) := by decide +kernel
theorem d_La_law_1102 : decode code 1102 = .ok (.aload_n 3, 1) := by decide +kernel
theorem d_La_law_1103 : decode code 1103 = .ok (.invokestatic 136, 3) := by decide +kernel
theorem d_La_law_1106 : decode code 1106 = .ok (.istore 5, 2) := by decide +kernel
theorem d_La_law_1108 : decode code 1108 = .ok (.aload_n 2, 1) := by decide +kernel
theorem d_La_law_1109 : decode code 1109 = .ok (.aload_n 0, 1) := by decide +kernel
theorem d_La_law_1110 : decode code 1110 = .ok (.iload 4, 2) := by decide +kernel
theorem d_La_law_1112 : decode code 1112 = .ok (.iconst 1, 1) := by decide +kernel
theorem d_La_law_1113 : decode code 1113 = .ok (.iadd, 1) := by decide +kernel
theorem d_La_law_1114 : decode code 1114 = .ok (.iaload, 1) := by decide +kernel
theorem d_La_law_1115 : decode code 1115 = .ok (.invokevirtual 139, 3) := by decide +kernel
theorem d_La_law_1118 : decode code 1118 = .ok (.istore 6, 2) := by decide +kernel
theorem d_La_law_1120 : decode code 1120 = .ok (.aload_n 2, 1) := by decide +kernel
theorem d_La_law_1121 : decode code 1121 = .ok (.invokevirtual 92, 3) := by decide +kernel
theorem d_La_law_1124 : decode code 1124 = .ok (.iload 5, 2) := by decide +kernel
theorem d_La_law_1126 : decode code 1126 = .ok (.if_icmp .eq 5, 3) := by decide +kernel
theorem d_La_law_1129 : decode code 1129 = .ok (.iconst 0, 1) := by decide +kernel
theorem d_La_law_1130 : decode code 1130 = .ok (.ireturn, 1) := by decide +kernel
theorem d_La_law_1131 : decode code 1131 = .ok (.iload 5, 2) := by decide +kernel
theorem d_La_law_1133 : decode code 1133 = .ok (.ifCond .ne 22, 3) := by decide +kernel
theorem d_La_law_1136 : decode code 1136 = .ok (.aload_n 3, 1) := by decide +kernel
theorem d_La_law_1137 : decode code 1137 = .ok (.iconst 0, 1) := by decide +kernel
theorem d_La_law_1138 : decode code 1138 = .ok (.laload, 1) := by decide +kernel
theorem d_La_law_1139 : decode code 1139 = .ok (.iload 6, 2) := by decide +kernel
theorem d_La_law_1141 : decode code 1141 = .ok (.ifCond .eq 7, 3) := by decide +kernel
theorem d_La_law_1144 : decode code 1144 = .ok (.lconst 1, 1) := by decide +kernel
theorem d_La_law_1145 : decode code 1145 = .ok (.goto 4, 3) := by decide +kernel
theorem d_La_law_1148 : decode code 1148 = .ok (.lconst 0, 1) := by decide +kernel
theorem d_La_law_1149 : decode code 1149 = .ok (.lcmp, 1) := by decide +kernel
theorem d_La_law_1150 : decode code 1150 = .ok (.ifCond .eq 5, 3) := by decide +kernel
theorem d_La_law_1153 : decode code 1153 = .ok (.iconst 0, 1) := by decide +kernel
theorem d_La_law_1154 : decode code 1154 = .ok (.ireturn, 1) := by decide +kernel
theorem d_La_law_1155 : decode code 1155 = .ok (.goto 372, 3) := by decide +kernel
theorem d_La_law_1158 : decode code 1158 = .ok (.aload_n 1, 1) := by decide +kernel
theorem d_La_law_1159 : decode code 1159 = .ok (.aload_n 0, 1) := by decide +kernel
theorem d_La_law_1160 : decode code 1160 = .ok (.iload 4, 2) := by decide +kernel
theorem d_La_law_1162 : decode code 1162 = .ok (.iconst 1, 1) := by decide +kernel
theorem d_La_law_1163 : decode code 1163 = .ok (.iadd, 1) := by decide +kernel
theorem d_La_law_1164 : decode code 1164 = .ok (.iaload, 1) := by decide +kernel
theorem d_La_law_1165 : decode code 1165 = .ok (.aload_n 3, 1) := by decide +kernel
theorem d_La_law_1166 : decode code 1166 = .ok (.invokestatic 140, 3) := by decide +kernel
theorem d_La_law_1169 : decode code 1169 = .ok (.istore 5, 2) := by decide +kernel
theorem d_La_law_1171 : decode code 1171 = .ok (.aload_n 2, 1) := by decide +kernel
theorem d_La_law_1172 : decode code 1172 = .ok (.aload_n 0, 1) := by decide +kernel
theorem d_La_law_1173 : decode code 1173 = .ok (.iload 4, 2) := by decide +kernel
theorem d_La_law_1175 : decode code 1175 = .ok (.iconst 1, 1) := by decide +kernel
theorem d_La_law_1176 : decode code 1176 = .ok (.iadd, 1) := by decide +kernel
