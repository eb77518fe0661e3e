/-! decode rows of the law -/
theorem dL_law_1076 : decode mL.2.1 1076 = .ok (.aload_n 2, 1) := by decide +kernel
theorem dL_law_1077 : decode mL.2.1 1077 = .ok (.aload_n 0, 1) := by decide +kernel
theorem dL_law_1078 : decode mL.2.1 1078 = .ok (.iload_n 3, 1) := by decide +kernel
theorem dL_law_1079 : decode mL.2.1 1079 = .ok (.iconst 1, 1) := by decide +kernel
theorem dL_law_1080 : decode mL.2.1 1080 = .ok (.iadd, 1) := by decide +kernel
theorem dL_law_1081 : decode mL.2.1 1081 = .ok (.iaload, 1) := by decide +kernel
theorem dL_law_1082 : decode mL.2.1 1082 = .ok (.invokevirtual 149, 3) := by decide +kernel
theorem dL_law_1085 : decode mL.2.1 1085 = .ok (.if_icmp .eq 410, 3) := by decide +kernel
theorem dL_law_1090 : decode mL.2.1 1090 = .ok (.aload_n 1, 1) := by decide +kernel
theorem dL_law_1091 : decode mL.2.1 1091 = .ok (.aload_n 0, 1) := by decide +kernel
theorem dL_law_1092 : decode mL.2.1 1092 = .ok (.iload_n 3, 1) := by decide +kernel
theorem dL_law_1093 : decode mL.2.1 1093 = .ok (.iconst 1, 1) := by decide +kernel
theorem dL_law_1094 : decode mL.2.1 1094 = .ok (.iadd, 1) := by decide +kernel
theorem dL_law_1095 : decode mL.2.1 1095 = .ok (.iaload, 1) := by decide +kernel
theorem dL_law_1096 : decode mL.2.1 1096 = .ok (.aload_n 0, 1) := by decide +kernel
theorem dL_law_1097 : decode mL.2.1 1097 = .ok (.iload_n 3, 1) := by decide +kernel
theorem dL_law_1098 : decode mL.2.1 1098 = .ok (.iconst 2, 1) := by decide +kernel
theorem dL_law_1099 : decode mL.2.1 1099 = .ok (.iadd, 1) := by decide +kernel
theorem dL_law_1100 : decode mL.2.1 1100 = .ok (.iaload, 1) := by decide +kernel
theorem dL_law_1101 : decode mL.2.1 1101 = .ok (.invokevirtual 150, 3) := by decide +kernel
theorem dL_law_1104 : decode mL.2.1 1104 = .ok (.aload_n 2, 1) := by decide +kernel
theorem dL_law_1105 : decode mL.2.1 1105 = .ok (.aload_n 0, 1) := by decide +kernel
theorem dL_law_1106 : decode mL.2.1 1106 = .ok (.iload_n 3, 1) := by decide +kernel
theorem dL_law_1107 : decode mL.2.1 1107 = .ok (.iconst 1, 1) := by decide +kernel
theorem dL_law_1108 : decode mL.2.1 1108 = .ok (.iadd, 1) := by decide +kernel
theorem dL_law_1109 : decode mL.2.1 1109 = .ok (.iaload, 1) := by decide +kernel
theorem dL_law_1110 : decode mL.2.1 1110 = .ok (.aload_n 0, 1) := by decide +kernel
theorem dL_law_1111 : decode mL.2.1 1111 = .ok (.iload_n 3, 1) := by decide +kernel
theorem dL_law_1112 : decode mL.2.1 1112 = .ok (.iconst 2, 1) := by decide +kernel
theorem dL_law_1113 : decode mL.2.1 1113 = .ok (.iadd, 1) := by decide +kernel
theorem dL_law_1114 : decode mL.2.1 1114 = .ok (.iaload, 1) := by decide +kernel
theorem dL_law_1115 : decode mL.2.1 1115 = .ok (.invokevirtual 153, 3) := by decide +kernel
theorem dL_law_1118 : decode mL.2.1 1118 = .ok (.if_icmp .eq 377, 3) := by decide +kernel
theorem dL_law_1123 : decode mL.2.1 1123 = .ok (.aload_n 1, 1) := by decide +kernel
theorem dL_law_1124 : decode mL.2.1 1124 = .ok (.invokevirtual 154, 3) := by decide +kernel
theorem dL_law_1127 : decode mL.2.1 1127 = .ok (.aload_n 2, 1) := by decide +kernel
theorem dL_law_1128 : decode mL.2.1 1128 = .ok (.invokevirtual 157, 3) := by decide +kernel
theorem dL_law_1131 : decode mL.2.1 1131 = .ok (.if_icmp .eq 364, 3) := by decide +kernel
theorem dL_law_1136 : decode mL.2.1 1136 = .ok (.aload_n 1, 1) := by decide +kernel
theorem dL_law_1137 : decode mL.2.1 1137 = .ok (.invokevirtual 158, 3) := by decide +kernel
theorem dL_law_1140 : decode mL.2.1 1140 = .ok (.aload_n 2, 1) := by decide +kernel
theorem dL_law_1141 : decode mL.2.1 1141 = .ok (.invokevirtual 161, 3) := by decide +kernel
theorem dL_law_1144 : decode mL.2.1 1144 = .ok (.if_icmp .eq 351, 3) := by decide +kernel
theorem dL_law_1149 : decode mL.2.1 1149 = .ok (.aload_n 1, 1) := by decide +kernel
theorem dL_law_1150 : decode mL.2.1 1150 = .ok (.aload_n 0, 1) := by decide +kernel
theorem dL_law_1151 : decode mL.2.1 1151 = .ok (.iload_n 3, 1) := by decide +kernel
theorem dL_law_1152 : decode mL.2.1 1152 = .ok (.iconst 1, 1) := by decide +kernel
theorem dL_law_1153 : decode mL.2.1 1153 = .ok (.iadd, 1) := by decide +kernel
theorem dL_law_1154 : decode mL.2.1 1154 = .ok (.iaload, 1) := by decide +kernel
theorem dL_law_1155 : decode mL.2.1 1155 = .ok (.aload_n 0, 1) := by decide +kernel
theorem dL_law_1156 : decode mL.2.1 1156 = .ok (.iload_n 3, 1) := by decide +kernel
theorem dL_law_1157 : decode mL.2.1 1157 = .ok (.iconst 2, 1) := by decide +kernel
theorem dL_law_1158 : decode mL.2.1 1158 = .ok (.iadd, 1) := by decide +kernel
theorem dL_law_1159 : decode mL.2.1 1159 = .ok (.iaload, 1) := by decide +kernel
theorem dL_law_1160 : decode mL.2.1 1160 = .ok (.invokevirtual 162, 3) := by decide +kernel
theorem dL_law_1163 : decode mL.2.1 1163 = .ok (.aload_n 2, 1) := by decide +kernel
theorem dL_law_1164 : decode mL.2.1 1164 = .ok (.aload_n 0, 1) := by decide +kernel
theorem dL_law_1165 : decode mL.2.1 1165 = .ok (.iload_n 3, 1) := by decide +kernel
theorem dL_law_1166 : decode mL.2.1 1166 = .ok (.iconst 1, 1) := by decide +kernel
theorem dL_law_1167 : decode mL.2.1 1167 = .ok (.iadd, 1) := by decide +kernel
theorem dL_law_1168 : decode mL.2.1 1168 = .ok (.iaload, 1) := by decide +kernel
theorem dL_law_1169 : decode mL.2.1 1169 = .ok (.aload_n 0, 1) := by decide +kernel
theorem dL_law_1170 : decode mL.2.1 1170 = .ok (.iload_n 3, 1) := by decide +kernel
theorem dL_law_1171 : decode mL.2.1 1171 = .ok (.iconst 2, 1) := by decide +kernel
theorem dL_law_1172 : decode mL.2.1 1172 = .ok (.iadd, 1) := by decide +kernel
theorem dL_law_1173 : decode mL.2.1 1173 = .ok (.iaload, 1) := by decide +kernel
theorem dL_law_1174 : decode mL.2.1 1174 = .ok (.invokevirtual 165, 3) := by decide +kernel
theorem dL_law_1177 : decode mL.2.1 1177 = .ok (.if_icmp .eq 318, 3) := by decide +kernel
theorem dL_law_1182 : decode mL.2.1 1182 = .ok (.aload_n 1, 1) := by decide +kernel
theorem dL_law_1183 : decode mL.2.1 1183 = .ok (.aload_n 0, 1) := by decide +kernel
theorem dL_law_1184 : decode mL.2.1 1184 = .ok (.iload_n 3, 1) := by decide +kernel
theorem dL_law_1185 : decode mL.2.1 1185 = .ok (.iconst 1, 1) := by decide +kernel
theorem dL_law_1186 : decode mL.2.1 1186 = .ok (.iadd, 1) := by decide +kernel
theorem dL_law_1187 : decode mL.2.1 1187 = .ok (.iaload, 1) := by decide +kernel
theorem dL_law_1188 : decode mL.2.1 1188 = .ok (.aload_n 0, 1) := by decide +kernel
