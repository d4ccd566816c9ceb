theorem d_L_law_1101 : decode b_L_law 1101 = .ok (.aload_n 2, 1) := by decide +kernel
theorem d_L_law_1102 : decode b_L_law 1102 = .ok (.aload_n 0, 1) := by decide +kernel
theorem d_L_law_1103 : decode b_L_law 1103 = .ok (.iload 4, 2) := by decide +kernel
theorem d_L_law_1105 : decode b_L_law 1105 = .ok (.iconst 1, 1) := by decide +kernel
theorem d_L_law_1106 : decode b_L_law 1106 = .ok (.iadd, 1) := by decide +kernel
theorem d_L_law_1107 : decode b_L_law 1107 = .ok (.iaload, 1) := by decide +kernel
theorem d_L_law_1108 : decode b_L_law 1108 = .ok (.aload_n 0, 1) := by decide +kernel
theorem d_L_law_1109 : decode b_L_law 1109 = .ok (.iload 4, 2) := by decide +kernel
theorem d_L_law_1111 : decode b_L_law 1111 = .ok (.iconst 2, 1) := by decide +kernel
theorem d_L_law_1112 : decode b_L_law 1112 = .ok (.iadd, 1) := by decide +kernel
theorem d_L_law_1113 : decode b_L_law 1113 = .ok (.iaload, 1) := by decide +kernel
theorem d_L_law_1114 : decode b_L_law 1114 = .ok (.invokevirtual 144, 3) := by decide +kernel
theorem d_L_law_1117 : decode b_L_law 1117 = .ok (.istore 6, 2) := by decide +kernel
theorem d_L_law_1119 : decode b_L_law 1119 = .ok (.aload_n 2, 1) := by decide +kernel
theorem d_L_law_1120 : decode b_L_law 1120 = .ok (.invokevirtual 82, 3) := by decide +kernel
theorem d_L_law_1123 : decode b_L_law 1123 = .ok (.iload 5, 2) := by decide +kernel
theorem d_L_law_1125 : decode b_L_law 1125 = .ok (.if_icmp .eq (5), 3) := by decide +kernel
theorem d_L_law_1128 : decode b_L_law 1128 = .ok (.iconst 0, 1) := by decide +kernel
theorem d_L_law_1129 : decode b_L_law 1129 = .ok (.ireturn, 1) := by decide +kernel
theorem d_L_law_1130 : decode b_L_law 1130 = .ok (.iload 5, 2) := by decide +kernel
theorem d_L_law_1132 : decode b_L_law 1132 = .ok (.ifCond .ne (15), 3) := by decide +kernel
theorem d_L_law_1135 : decode b_L_law 1135 = .ok (.aload_n 3, 1) := by decide +kernel
theorem d_L_law_1136 : decode b_L_law 1136 = .ok (.iconst 0, 1) := by decide +kernel
theorem d_L_law_1137 : decode b_L_law 1137 = .ok (.laload, 1) := by decide +kernel
theorem d_L_law_1138 : decode b_L_law 1138 = .ok (.iload 6, 2) := by decide +kernel
theorem d_L_law_1140 : decode b_L_law 1140 = .ok (.i2l, 1) := by decide +kernel
theorem d_L_law_1141 : decode b_L_law 1141 = .ok (.lcmp, 1) := by decide +kernel
theorem d_L_law_1142 : decode b_L_law 1142 = .ok (.ifCond .eq (5), 3) := by decide +kernel
theorem d_L_law_1145 : decode b_L_law 1145 = .ok (.iconst 0, 1) := by decide +kernel
theorem d_L_law_1146 : decode b_L_law 1146 = .ok (.ireturn, 1) := by decide +kernel
theorem d_L_law_1147 : decode b_L_law 1147 = .ok (.goto (28), 3) := by decide +kernel
theorem d_L_law_1150 : decode b_L_law 1150 = .ok (.aload_n 1, 1) := by decide +kernel
theorem d_L_law_1151 : decode b_L_law 1151 = .ok (.aload_n 0, 1) := by decide +kernel
theorem d_L_law_1152 : decode b_L_law 1152 = .ok (.iload 4, 2) := by decide +kernel
theorem d_L_law_1154 : decode b_L_law 1154 = .ok (.iconst 1, 1) := by decide +kernel
theorem d_L_law_1155 : decode b_L_law 1155 = .ok (.iadd, 1) := by decide +kernel
theorem d_L_law_1156 : decode b_L_law 1156 = .ok (.iaload, 1) := by decide +kernel
theorem d_L_law_1157 : decode b_L_law 1157 = .ok (.invokevirtual 145, 3) := by decide +kernel
theorem d_L_law_1160 : decode b_L_law 1160 = .ok (.aload_n 2, 1) := by decide +kernel
theorem d_L_law_1161 : decode b_L_law 1161 = .ok (.aload_n 0, 1) := by decide +kernel
theorem d_L_law_1162 : decode b_L_law 1162 = .ok (.iload 4, 2) := by decide +kernel
theorem d_L_law_1164 : decode b_L_law 1164 = .ok (.iconst 1, 1) := by decide +kernel
theorem d_L_law_1165 : decode b_L_law 1165 = .ok (.iadd, 1) := by decide +kernel
theorem d_L_law_1166 : decode b_L_law 1166 = .ok (.iaload, 1) := by decide +kernel
theorem d_L_law_1167 : decode b_L_law 1167 = .ok (.invokevirtual 148, 3) := by decide +kernel
theorem d_L_law_1170 : decode b_L_law 1170 = .ok (.if_icmp .eq (5), 3) := by decide +kernel
theorem d_L_law_1173 : decode b_L_law 1173 = .ok (.iconst 0, 1) := by decide +kernel
theorem d_L_law_1174 : decode b_L_law 1174 = .ok (.ireturn, 1) := by decide +kernel
theorem d_L_law_1175 : decode b_L_law 1175 = .ok (.iinc 4 5, 3) := by decide +kernel
theorem d_L_law_1178 : decode b_L_law 1178 = .ok (.goto (-1155), 3) := by decide +kernel
theorem d_L_law_1181 : decode b_L_law 1181 = .ok (.iconst 1, 1) := by decide +kernel
theorem d_L_law_1182 : decode b_L_law 1182 = .ok (.ireturn, 1) := by decide +kernel
