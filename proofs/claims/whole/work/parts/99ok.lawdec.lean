theorem dL_law_1081 : decode cL_law 1081 = .ok (.iconst 0, 1) := by decide +kernel
theorem dL_law_1082 : decode cL_law 1082 = .ok (.laload, 1) := by decide +kernel
theorem dL_law_1083 : decode cL_law 1083 = .ok (.iload 6, 2) := by decide +kernel
theorem dL_law_1085 : decode cL_law 1085 = .ok (.i2l, 1) := by decide +kernel
theorem dL_law_1086 : decode cL_law 1086 = .ok (.lcmp, 1) := by decide +kernel
theorem dL_law_1087 : decode cL_law 1087 = .ok (.ifCond .eq 5, 3) := by decide +kernel
theorem dL_law_1090 : decode cL_law 1090 = .ok (.iconst 0, 1) := by decide +kernel
theorem dL_law_1091 : decode cL_law 1091 = .ok (.ireturn, 1) := by decide +kernel
theorem dL_law_1092 : decode cL_law 1092 = .ok (.goto 884, 3) := by decide +kernel
theorem dL_law_1095 : decode cL_law 1095 = .ok (.aload_n 1, 1) := by decide +kernel
theorem dL_law_1096 : decode cL_law 1096 = .ok (.aload_n 0, 1) := by decide +kernel
theorem dL_law_1097 : decode cL_law 1097 = .ok (.iload 4, 2) := by decide +kernel
theorem dL_law_1099 : decode cL_law 1099 = .ok (.iconst 1, 1) := by decide +kernel
theorem dL_law_1100 : decode cL_law 1100 = .ok (.iadd, 1) := by decide +kernel
theorem dL_law_1101 : decode cL_law 1101 = .ok (.iaload, 1) := by decide +kernel
theorem dL_law_1102 : decode cL_law 1102 = .ok (.aload_n 3, 1) := by decide +kernel
theorem dL_law_1103 : decode cL_law 1103 = .ok (.invokestatic 155, 3) := by decide +kernel
theorem dL_law_1106 : decode cL_law 1106 = .ok (.istore 5, 2) := by decide +kernel
theorem dL_law_1108 : decode cL_law 1108 = .ok (.aload_n 2, 1) := by decide +kernel
theorem dL_law_1109 : decode cL_law 1109 = .ok (.aload_n 0, 1) := by decide +kernel
theorem dL_law_1110 : decode cL_law 1110 = .ok (.iload 4, 2) := by decide +kernel
theorem dL_law_1112 : decode cL_law 1112 = .ok (.iconst 1, 1) := by decide +kernel
theorem dL_law_1113 : decode cL_law 1113 = .ok (.iadd, 1) := by decide +kernel
theorem dL_law_1114 : decode cL_law 1114 = .ok (.iaload, 1) := by decide +kernel
theorem dL_law_1115 : decode cL_law 1115 = .ok (.invokevirtual 157, 3) := by decide +kernel
theorem dL_law_1118 : decode cL_law 1118 = .ok (.istore 6, 2) := by decide +kernel
theorem dL_law_1120 : decode cL_law 1120 = .ok (.aload_n 2, 1) := by decide +kernel
theorem dL_law_1121 : decode cL_law 1121 = .ok (.invokevirtual 102, 3) := by decide +kernel
theorem dL_law_1124 : decode cL_law 1124 = .ok (.iload 5, 2) := by decide +kernel
theorem dL_law_1126 : decode cL_law 1126 = .ok (.if_icmp .eq 5, 3) := by decide +kernel
theorem dL_law_1129 : decode cL_law 1129 = .ok (.iconst 0, 1) := by decide +kernel
theorem dL_law_1130 : decode cL_law 1130 = .ok (.ireturn, 1) := by decide +kernel
theorem dL_law_1131 : decode cL_law 1131 = .ok (.iload 5, 2) := by decide +kernel
theorem dL_law_1133 : decode cL_law 1133 = .ok (.ifCond .ne 15, 3) := by decide +kernel
theorem dL_law_1136 : decode cL_law 1136 = .ok (.aload_n 3, 1) := by decide +kernel
theorem dL_law_1137 : decode cL_law 1137 = .ok (.iconst 0, 1) := by decide +kernel
theorem dL_law_1138 : decode cL_law 1138 = .ok (.laload, 1) := by decide +kernel
theorem dL_law_1139 : decode cL_law 1139 = .ok (.iload 6, 2) := by decide +kernel
theorem dL_law_1141 : decode cL_law 1141 = .ok (.i2l, 1) := by decide +kernel
theorem dL_law_1142 : decode cL_law 1142 = .ok (.lcmp, 1) := by decide +kernel
theorem dL_law_1143 : decode cL_law 1143 = .ok (.ifCond .eq 5, 3) := by decide +kernel
theorem dL_law_1146 : decode cL_law 1146 = .ok (.iconst 0, 1) := by decide +kernel
theorem dL_law_1147 : decode cL_law 1147 = .ok (.ireturn, 1) := by decide +kernel
theorem dL_law_1148 : decode cL_law 1148 = .ok (.goto 828, 3) := by decide +kernel
theorem dL_law_1151 : decode cL_law 1151 = .ok (.aload_n 1, 1) := by decide +kernel
theorem dL_law_1152 : decode cL_law 1152 = .ok (.invokevirtual 158, 3) := by decide +kernel
theorem dL_law_1155 : decode cL_law 1155 = .ok (.aload_n 2, 1) := by decide +kernel
theorem dL_law_1156 : decode cL_law 1156 = .ok (.invokevirtual 161, 3) := by decide +kernel
theorem dL_law_1159 : decode cL_law 1159 = .ok (.if_icmp .eq 817, 3) := by decide +kernel
theorem dL_law_1162 : decode cL_law 1162 = .ok (.iconst 0, 1) := by decide +kernel
theorem dL_law_1163 : decode cL_law 1163 = .ok (.ireturn, 1) := by decide +kernel
theorem dL_law_1164 : decode cL_law 1164 = .ok (.aload_n 1, 1) := by decide +kernel
theorem dL_law_1165 : decode cL_law 1165 = .ok (.aload_n 0, 1) := by decide +kernel
theorem dL_law_1166 : decode cL_law 1166 = .ok (.iload 4, 2) := by decide +kernel
theorem dL_law_1168 : decode cL_law 1168 = .ok (.iconst 1, 1) := by decide +kernel
theorem dL_law_1169 : decode cL_law 1169 = .ok (.iadd, 1) := by decide +kernel
theorem dL_law_1170 : decode cL_law 1170 = .ok (.iaload, 1) := by decide +kernel
theorem dL_law_1171 : decode cL_law 1171 = .ok (.aload_n 3, 1) := by decide +kernel
theorem dL_law_1172 : decode cL_law 1172 = .ok (.invokestatic 162, 3) := by decide +kernel
theorem dL_law_1175 : decode cL_law 1175 = .ok (.istore 5, 2) := by decide +kernel
