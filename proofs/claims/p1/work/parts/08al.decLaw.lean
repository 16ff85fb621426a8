theorem d_law_1117 : decode code 1117 = .ok (.iconst 0, 1) := by decide +kernel
theorem d_law_1118 : decode code 1118 = .ok (.ireturn, 1) := by decide +kernel
theorem d_law_1119 : decode code 1119 = .ok (.goto 232, 3) := by decide +kernel
theorem d_law_1122 : decode code 1122 = .ok (.aload_n 1, 1) := by decide +kernel
theorem d_law_1123 : decode code 1123 = .ok (.aload_n 0, 1) := by decide +kernel
theorem d_law_1124 : decode code 1124 = .ok (.iload 4, 2) := by decide +kernel
theorem d_law_1126 : decode code 1126 = .ok (.iconst 1, 1) := by decide +kernel
theorem d_law_1127 : decode code 1127 = .ok (.iadd, 1) := by decide +kernel
theorem d_law_1128 : decode code 1128 = .ok (.iaload, 1) := by decide +kernel
theorem d_law_1129 : decode code 1129 = .ok (.aload_n 0, 1) := by decide +kernel
theorem d_law_1130 : decode code 1130 = .ok (.iload 4, 2) := by decide +kernel
theorem d_law_1132 : decode code 1132 = .ok (.iconst 2, 1) := by decide +kernel
theorem d_law_1133 : decode code 1133 = .ok (.iadd, 1) := by decide +kernel
theorem d_law_1134 : decode code 1134 = .ok (.iaload, 1) := by decide +kernel
theorem d_law_1135 : decode code 1135 = .ok (.aload_n 3, 1) := by decide +kernel
theorem d_law_1136 : decode code 1136 = .ok (.invokestatic 133, 3) := by decide +kernel
theorem d_law_1139 : decode code 1139 = .ok (.istore 5, 2) := by decide +kernel
theorem d_law_1141 : decode code 1141 = .ok (.aload_n 2, 1) := by decide +kernel
theorem d_law_1142 : decode code 1142 = .ok (.aload_n 0, 1) := by decide +kernel
theorem d_law_1143 : decode code 1143 = .ok (.iload 4, 2) := by decide +kernel
theorem d_law_1145 : decode code 1145 = .ok (.iconst 1, 1) := by decide +kernel
theorem d_law_1146 : decode code 1146 = .ok (.iadd, 1) := by decide +kernel
theorem d_law_1147 : decode code 1147 = .ok (.iaload, 1) := by decide +kernel
theorem d_law_1148 : decode code 1148 = .ok (.aload_n 0, 1) := by decide +kernel
theorem d_law_1149 : decode code 1149 = .ok (.iload 4, 2) := by decide +kernel
theorem d_law_1151 : decode code 1151 = .ok (.iconst 2, 1) := by decide +kernel
theorem d_law_1152 : decode code 1152 = .ok (.iadd, 1) := by decide +kernel
theorem d_law_1153 : decode code 1153 = .ok (.iaload, 1) := by decide +kernel
theorem d_law_1154 : decode code 1154 = .ok (.invokevirtual 135, 3) := by decide +kernel
theorem d_law_1157 : decode code 1157 = .ok (.istore 6, 2) := by decide +kernel
theorem d_law_1159 : decode code 1159 = .ok (.aload_n 2, 1) := by decide +kernel
theorem d_law_1160 : decode code 1160 = .ok (.invokevirtual 86, 3) := by decide +kernel
theorem d_law_1163 : decode code 1163 = .ok (.iload 5, 2) := by decide +kernel
theorem d_law_1165 : decode code 1165 = .ok (.if_icmp .eq 5, 3) := by decide +kernel
theorem d_law_1168 : decode code 1168 = .ok (.iconst 0, 1) := by decide +kernel
theorem d_law_1169 : decode code 1169 = .ok (.ireturn, 1) := by decide +kernel
theorem d_law_1170 : decode code 1170 = .ok (.iload 5, 2) := by decide +kernel
theorem d_law_1172 : decode code 1172 = .ok (.ifCond .ne 15, 3) := by decide +kernel
theorem d_law_1175 : decode code 1175 = .ok (.aload_n 3, 1) := by decide +kernel
theorem d_law_1176 : decode code 1176 = .ok (.iconst 0, 1) := by decide +kernel
theorem d_law_1177 : decode code 1177 = .ok (.laload, 1) := by decide +kernel
theorem d_law_1178 : decode code 1178 = .ok (.iload 6, 2) := by decide +kernel
theorem d_law_1180 : decode code 1180 = .ok (.i2l, 1) := by decide +kernel
theorem d_law_1181 : decode code 1181 = .ok (.lcmp, 1) := by decide +kernel
theorem d_law_1182 : decode code 1182 = .ok (.ifCond .eq 5, 3) := by decide +kernel
theorem d_law_1185 : decode code 1185 = .ok (.iconst 0, 1) := by decide +kernel
theorem d_law_1186 : decode code 1186 = .ok (.ireturn, 1) := by decide +kernel
theorem d_law_1187 : decode code 1187 = .ok (.goto 164, 3) := by decide +kernel
theorem d_law_1190 : decode code 1190 = .ok (.aload_n 1, 1) := by decide +kernel
theorem d_law_1191 : decode code 1191 = .ok (.aload_n 0, 1) := by decide +kernel
theorem d_law_1192 : decode code 1192 = .ok (.iload 4, 2) := by decide +kernel
theorem d_law_1194 : decode code 1194 = .ok (.iconst 1, 1) := by decide +kernel
theorem d_law_1195 : decode code 1195 = .ok (.iadd, 1) := by decide +kernel
theorem d_law_1196 : decode code 1196 = .ok (.iaload, 1) := by decide +kernel
theorem d_law_1197 : decode code 1197 = .ok (.aload_n 0, 1) := by decide +kernel
theorem d_law_1198 : decode code 1198 = .ok (.iload 4, 2) := by decide +kernel
theorem d_law_1200 : decode code 1200 = .ok (.iconst 2, 1) := by decide +kernel
theorem d_law_1201 : decode code 1201 = .ok (.iadd, 1) := by decide +kernel
theorem d_law_1202 : decode code 1202 = .ok (.iaload, 1) := by decide +kernel
theorem d_law_1203 : decode code 1203 = .ok (.aload_n 3, 1) := by decide +kernel
