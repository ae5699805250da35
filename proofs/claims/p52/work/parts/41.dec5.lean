theorem dL_law_1007 : decode code 1007 = .ok (.aload_n 1, 1) := by decide +kernel
theorem dL_law_1008 : decode code 1008 = .ok (.iconst 0, 1) := by decide +kernel
theorem dL_law_1009 : decode code 1009 = .ok (.iconst 2, 1) := by decide +kernel
theorem dL_law_1010 : decode code 1010 = .ok (.iload 12, 2) := by decide +kernel
theorem dL_law_1012 : decode code 1012 = .ok (.iload 12, 2) := by decide +kernel
theorem dL_law_1014 : decode code 1014 = .ok (.sipush 500, 3) := by decide +kernel
theorem dL_law_1017 : decode code 1017 = .ok (.iadd, 1) := by decide +kernel
theorem dL_law_1018 : decode code 1018 = .ok (.iconst 5, 1) := by decide +kernel
theorem dL_law_1019 : decode code 1019 = .ok (.invokevirtual 24, 3) := by decide +kernel
theorem dL_law_1022 : decode code 1022 = .ok (.iload 8, 2) := by decide +kernel
theorem dL_law_1024 : decode code 1024 = .ok (.ifCond .eq 7, 3) := by decide +kernel
theorem dL_law_1027 : decode code 1027 = .ok (.iconst 5, 1) := by decide +kernel
theorem dL_law_1028 : decode code 1028 = .ok (.goto 4, 3) := by decide +kernel
theorem dL_law_1031 : decode code 1031 = .ok (.iconst 4, 1) := by decide +kernel
theorem dL_law_1032 : decode code 1032 = .ok (.if_icmp .eq 5, 3) := by decide +kernel
theorem dL_law_1035 : decode code 1035 = .ok (.iconst 0, 1) := by decide +kernel
theorem dL_law_1036 : decode code 1036 = .ok (.ireturn, 1) := by decide +kernel
theorem dL_law_1037 : decode code 1037 = .ok (.iconst 0, 1) := by decide +kernel
theorem dL_law_1038 : decode code 1038 = .ok (.istore 15, 2) := by decide +kernel
theorem dL_law_1040 : decode code 1040 = .ok (.iload 15, 2) := by decide +kernel
theorem dL_law_1042 : decode code 1042 = .ok (.sipush 1024, 3) := by decide +kernel
theorem dL_law_1045 : decode code 1045 = .ok (.if_icmp .ge 114, 3) := by decide +kernel
theorem dL_law_1048 : decode code 1048 = .ok (.iload 15, 2) := by decide +kernel
theorem dL_law_1050 : decode code 1050 = .ok (.iconst 3, 1) := by decide +kernel
theorem dL_law_1051 : decode code 1051 = .ok (.ishr, 1) := by decide +kernel
theorem dL_law_1052 : decode code 1052 = .ok (.iconst 1, 1) := by decide +kernel
theorem dL_law_1053 : decode code 1053 = .ok (.iand, 1) := by decide +kernel
theorem dL_law_1054 : decode code 1054 = .ok (.iconst 2, 1) := by decide +kernel
theorem dL_law_1055 : decode code 1055 = .ok (.imul, 1) := by decide +kernel
theorem dL_law_1056 : decode code 1056 = .ok (.iload 15, 2) := by decide +kernel
theorem dL_law_1058 : decode code 1058 = .ok (.iconst 5, 1) := by decide +kernel
theorem dL_law_1059 : decode code 1059 = .ok (.ishr, 1) := by decide +kernel
theorem dL_law_1060 : decode code 1060 = .ok (.iconst 1, 1) := by decide +kernel
theorem dL_law_1061 : decode code 1061 = .ok (.iand, 1) := by decide +kernel
theorem dL_law_1062 : decode code 1062 = .ok (.iadd, 1) := by decide +kernel
theorem dL_law_1063 : decode code 1063 = .ok (.istore 16, 2) := by decide +kernel
theorem dL_law_1065 : decode code 1065 = .ok (.iconst 2, 1) := by decide +kernel
theorem dL_law_1066 : decode code 1066 = .ok (.iload 16, 2) := by decide +kernel
theorem dL_law_1068 : decode code 1068 = .ok (.imul, 1) := by decide +kernel
theorem dL_law_1069 : decode code 1069 = .ok (.iconst 3, 1) := by decide +kernel
theorem dL_law_1070 : decode code 1070 = .ok (.if_icmp .lt 7, 3) := by decide +kernel
theorem dL_law_1073 : decode code 1073 = .ok (.iconst 1, 1) := by decide +kernel
theorem dL_law_1074 : decode code 1074 = .ok (.goto 4, 3) := by decide +kernel
theorem dL_law_1077 : decode code 1077 = .ok (.iconst 0, 1) := by decide +kernel
theorem dL_law_1078 : decode code 1078 = .ok (.istore 17, 2) := by decide +kernel
theorem dL_law_1080 : decode code 1080 = .ok (.iload 17, 2) := by decide +kernel
theorem dL_law_1082 : decode code 1082 = .ok (.ifCond .eq 7, 3) := by decide +kernel
theorem dL_law_1085 : decode code 1085 = .ok (.iconst 0, 1) := by decide +kernel
theorem dL_law_1086 : decode code 1086 = .ok (.goto 19, 3) := by decide +kernel
theorem dL_law_1089 : decode code 1089 = .ok (.iload 15, 2) := by decide +kernel
theorem dL_law_1091 : decode code 1091 = .ok (.iconst 3, 1) := by decide +kernel
theorem dL_law_1092 : decode code 1092 = .ok (.ishr, 1) := by decide +kernel
theorem dL_law_1093 : decode code 1093 = .ok (.iconst 1, 1) := by decide +kernel
theorem dL_law_1094 : decode code 1094 = .ok (.iand, 1) := by decide +kernel
theorem dL_law_1095 : decode code 1095 = .ok (.ifCond .ne 8, 3) := by decide +kernel
theorem dL_law_1098 : decode code 1098 = .ok (.bipush 8, 2) := by decide +kernel
theorem dL_law_1100 : decode code 1100 = .ok (.goto 5, 3) := by decide +kernel
theorem dL_law_1103 : decode code 1103 = .ok (.bipush 32, 2) := by decide +kernel
theorem dL_law_1105 : decode code 1105 = .ok (.istore 18, 2) := by decide +kernel
theorem dL_law_1107 : decode code 1107 = .ok (.aload_n 1, 1) := by decide +kernel
theorem dL_law_1108 : decode code 1108 = .ok (.iconst 0, 1) := by decide +kernel
theorem dL_law_1109 : decode code 1109 = .ok (.iload 15, 2) := by decide +kernel
theorem dL_law_1111 : decode code 1111 = .ok (.invokevirtual 93, 3) := by decide +kernel
theorem dL_law_1114 : decode code 1114 = .ok (.iload 17, 2) := by decide +kernel
theorem dL_law_1116 : decode code 1116 = .ok (.ifCond .eq 7, 3) := by decide +kernel
theorem dL_law_1119 : decode code 1119 = .ok (.iconst 1, 1) := by decide +kernel
theorem dL_law_1120 : decode code 1120 = .ok (.goto 4, 3) := by decide +kernel
theorem dL_law_1123 : decode code 1123 = .ok (.iconst 0, 1) := by decide +kernel
theorem dL_law_1124 : decode code 1124 = .ok (.if_icmp .ne 15, 3) := by decide +kernel
theorem dL_law_1127 : decode code 1127 = .ok (.aload_n 1, 1) := by decide +kernel
theorem dL_law_1128 : decode code 1128 = .ok (.iconst 0, 1) := by decide +kernel
theorem dL_law_1129 : decode code 1129 = .ok (.iload 15, 2) := by decide +kernel
theorem dL_law_1131 : decode code 1131 = .ok (.invokevirtual 96, 3) := by decide +kernel
theorem dL_law_1134 : decode code 1134 = .ok (.iload 18, 2) := by decide +kernel
theorem dL_law_1136 : decode code 1136 = .ok (.if_icmp .eq 5, 3) := by decide +kernel
theorem dL_law_1139 : decode code 1139 = .ok (.iconst 0, 1) := by decide +kernel
theorem dL_law_1140 : decode code 1140 = .ok (.ireturn, 1) := by decide +kernel
theorem dL_law_1141 : decode code 1141 = .ok (.iload 15, 2) := by decide +kernel
theorem dL_law_1143 : decode code 1143 = .ok (.iconst 1, 1) := by decide +kernel
theorem dL_law_1144 : decode code 1144 = .ok (.aload_n 0, 1) := by decide +kernel
theorem dL_law_1145 : decode code 1145 = .ok (.bipush 8, 2) := by decide +kernel
theorem dL_law_1147 : decode code 1147 = .ok (.bipush 9, 2) := by decide +kernel
theorem dL_law_1149 : decode code 1149 = .ok (.invokestatic 14, 3) := by decide +kernel
theorem dL_law_1152 : decode code 1152 = .ok (.iadd, 1) := by decide +kernel
theorem dL_law_1153 : decode code 1153 = .ok (.iadd, 1) := by decide +kernel
theorem dL_law_1154 : decode code 1154 = .ok (.istore 15, 2) := by decide +kernel
theorem dL_law_1156 : decode code 1156 = .ok (.goto (-116), 3) := by decide +kernel
theorem dL_law_1159 : decode code 1159 = .ok (.aload_n 1, 1) := by decide +kernel
theorem dL_law_1160 : decode code 1160 = .ok (.iconst 3, 1) := by decide +kernel
theorem dL_law_1161 : decode code 1161 = .ok (.iconst 3, 1) := by decide +kernel
theorem dL_law_1162 : decode code 1162 = .ok (.invokevirtual 99, 3) := by decide +kernel
theorem dL_law_1165 : decode code 1165 = .ok (.iconst 1, 1) := by decide +kernel
theorem dL_law_1166 : decode code 1166 = .ok (.if_icmp .ne 28, 3) := by decide +kernel
theorem dL_law_1169 : decode code 1169 = .ok (.aload_n 1, 1) := by decide +kernel
theorem dL_law_1170 : decode code 1170 = .ok (.iconst 3, 1) := by decide +kernel
theorem dL_law_1171 : decode code 1171 = .ok (.iconst 2, 1) := by decide +kernel
theorem dL_law_1172 : decode code 1172 = .ok (.invokevirtual 102, 3) := by decide +kernel
theorem dL_law_1175 : decode code 1175 = .ok (.iload 12, 2) := by decide +kernel
theorem dL_law_1177 : decode code 1177 = .ok (.if_icmp .ne 17, 3) := by decide +kernel
theorem dL_law_1180 : decode code 1180 = .ok (.aload_n 1, 1) := by decide +kernel
theorem dL_law_1181 : decode code 1181 = .ok (.iconst 1, 1) := by decide +kernel
theorem dL_law_1182 : decode code 1182 = .ok (.invokevirtual 51, 3) := by decide +kernel
theorem dL_law_1185 : decode code 1185 = .ok (.bipush (-3), 2) := by decide +kernel
theorem dL_law_1187 : decode code 1187 = .ok (.if_icmp .ne 7, 3) := by decide +kernel
theorem dL_law_1190 : decode code 1190 = .ok (.iconst 1, 1) := by decide +kernel
theorem dL_law_1191 : decode code 1191 = .ok (.goto 4, 3) := by decide +kernel
theorem dL_law_1194 : decode code 1194 = .ok (.iconst 0, 1) := by decide +kernel
theorem dL_law_1195 : decode code 1195 = .ok (.ireturn, 1) := by decide +kernel
