/-! decode rows of the law -/
theorem dL_law_1189 : decode mL.2.1 1189 = .ok (.iload_n 3, 1) := by decide +kernel
theorem dL_law_1190 : decode mL.2.1 1190 = .ok (.iconst 2, 1) := by decide +kernel
theorem dL_law_1191 : decode mL.2.1 1191 = .ok (.iadd, 1) := by decide +kernel
theorem dL_law_1192 : decode mL.2.1 1192 = .ok (.iaload, 1) := by decide +kernel
theorem dL_law_1193 : decode mL.2.1 1193 = .ok (.invokevirtual 166, 3) := by decide +kernel
theorem dL_law_1196 : decode mL.2.1 1196 = .ok (.aload_n 2, 1) := by decide +kernel
theorem dL_law_1197 : decode mL.2.1 1197 = .ok (.aload_n 0, 1) := by decide +kernel
theorem dL_law_1198 : decode mL.2.1 1198 = .ok (.iload_n 3, 1) := by decide +kernel
theorem dL_law_1199 : decode mL.2.1 1199 = .ok (.iconst 1, 1) := by decide +kernel
theorem dL_law_1200 : decode mL.2.1 1200 = .ok (.iadd, 1) := by decide +kernel
theorem dL_law_1201 : decode mL.2.1 1201 = .ok (.iaload, 1) := by decide +kernel
theorem dL_law_1202 : decode mL.2.1 1202 = .ok (.aload_n 0, 1) := by decide +kernel
theorem dL_law_1203 : decode mL.2.1 1203 = .ok (.iload_n 3, 1) := by decide +kernel
theorem dL_law_1204 : decode mL.2.1 1204 = .ok (.iconst 2, 1) := by decide +kernel
theorem dL_law_1205 : decode mL.2.1 1205 = .ok (.iadd, 1) := by decide +kernel
theorem dL_law_1206 : decode mL.2.1 1206 = .ok (.iaload, 1) := by decide +kernel
theorem dL_law_1207 : decode mL.2.1 1207 = .ok (.invokevirtual 169, 3) := by decide +kernel
theorem dL_law_1210 : decode mL.2.1 1210 = .ok (.if_icmp .eq 285, 3) := by decide +kernel
theorem dL_law_1215 : decode mL.2.1 1215 = .ok (.aload_n 1, 1) := by decide +kernel
theorem dL_law_1216 : decode mL.2.1 1216 = .ok (.aload_n 0, 1) := by decide +kernel
theorem dL_law_1217 : decode mL.2.1 1217 = .ok (.iload_n 3, 1) := by decide +kernel
theorem dL_law_1218 : decode mL.2.1 1218 = .ok (.iconst 1, 1) := by decide +kernel
theorem dL_law_1219 : decode mL.2.1 1219 = .ok (.iadd, 1) := by decide +kernel
theorem dL_law_1220 : decode mL.2.1 1220 = .ok (.iaload, 1) := by decide +kernel
theorem dL_law_1221 : decode mL.2.1 1221 = .ok (.aload_n 0, 1) := by decide +kernel
theorem dL_law_1222 : decode mL.2.1 1222 = .ok (.iload_n 3, 1) := by decide +kernel
theorem dL_law_1223 : decode mL.2.1 1223 = .ok (.iconst 2, 1) := by decide +kernel
theorem dL_law_1224 : decode mL.2.1 1224 = .ok (.iadd, 1) := by decide +kernel
theorem dL_law_1225 : decode mL.2.1 1225 = .ok (.iaload, 1) := by decide +kernel
theorem dL_law_1226 : decode mL.2.1 1226 = .ok (.aload_n 0, 1) := by decide +kernel
theorem dL_law_1227 : decode mL.2.1 1227 = .ok (.iload_n 3, 1) := by decide +kernel
theorem dL_law_1228 : decode mL.2.1 1228 = .ok (.iconst 3, 1) := by decide +kernel
theorem dL_law_1229 : decode mL.2.1 1229 = .ok (.iadd, 1) := by decide +kernel
theorem dL_law_1230 : decode mL.2.1 1230 = .ok (.iaload, 1) := by decide +kernel
theorem dL_law_1231 : decode mL.2.1 1231 = .ok (.invokevirtual 170, 3) := by decide +kernel
theorem dL_law_1234 : decode mL.2.1 1234 = .ok (.aload_n 2, 1) := by decide +kernel
theorem dL_law_1235 : decode mL.2.1 1235 = .ok (.aload_n 0, 1) := by decide +kernel
theorem dL_law_1236 : decode mL.2.1 1236 = .ok (.iload_n 3, 1) := by decide +kernel
theorem dL_law_1237 : decode mL.2.1 1237 = .ok (.iconst 1, 1) := by decide +kernel
theorem dL_law_1238 : decode mL.2.1 1238 = .ok (.iadd, 1) := by decide +kernel
theorem dL_law_1239 : decode mL.2.1 1239 = .ok (.iaload, 1) := by decide +kernel
theorem dL_law_1240 : decode mL.2.1 1240 = .ok (.aload_n 0, 1) := by decide +kernel
theorem dL_law_1241 : decode mL.2.1 1241 = .ok (.iload_n 3, 1) := by decide +kernel
theorem dL_law_1242 : decode mL.2.1 1242 = .ok (.iconst 2, 1) := by decide +kernel
theorem dL_law_1243 : decode mL.2.1 1243 = .ok (.iadd, 1) := by decide +kernel
theorem dL_law_1244 : decode mL.2.1 1244 = .ok (.iaload, 1) := by decide +kernel
theorem dL_law_1245 : decode mL.2.1 1245 = .ok (.aload_n 0, 1) := by decide +kernel
theorem dL_law_1246 : decode mL.2.1 1246 = .ok (.iload_n 3, 1) := by decide +kernel
theorem dL_law_1247 : decode mL.2.1 1247 = .ok (.iconst 3, 1) := by decide +kernel
theorem dL_law_1248 : decode mL.2.1 1248 = .ok (.iadd, 1) := by decide +kernel
theorem dL_law_1249 : decode mL.2.1 1249 = .ok (.iaload, 1) := by decide +kernel
theorem dL_law_1250 : decode mL.2.1 1250 = .ok (.invokevirtual 173, 3) := by decide +kernel
theorem dL_law_1253 : decode mL.2.1 1253 = .ok (.if_icmp .eq 242, 3) := by decide +kernel
theorem dL_law_1258 : decode mL.2.1 1258 = .ok (.aload_n 1, 1) := by decide +kernel
theorem dL_law_1259 : decode mL.2.1 1259 = .ok (.aload_n 0, 1) := by decide +kernel
theorem dL_law_1260 : decode mL.2.1 1260 = .ok (.iload_n 3, 1) := by decide +kernel
theorem dL_law_1261 : decode mL.2.1 1261 = .ok (.iconst 1, 1) := by decide +kernel
theorem dL_law_1262 : decode mL.2.1 1262 = .ok (.iadd, 1) := by decide +kernel
theorem dL_law_1263 : decode mL.2.1 1263 = .ok (.iaload, 1) := by decide +kernel
theorem dL_law_1264 : decode mL.2.1 1264 = .ok (.aload_n 0, 1) := by decide +kernel
theorem dL_law_1265 : decode mL.2.1 1265 = .ok (.iload_n 3, 1) := by decide +kernel
theorem dL_law_1266 : decode mL.2.1 1266 = .ok (.iconst 2, 1) := by decide +kernel
theorem dL_law_1267 : decode mL.2.1 1267 = .ok (.iadd, 1) := by decide +kernel
theorem dL_law_1268 : decode mL.2.1 1268 = .ok (.iaload, 1) := by decide +kernel
theorem dL_law_1269 : decode mL.2.1 1269 = .ok (.aload_n 0, 1) := by decide +kernel
theorem dL_law_1270 : decode mL.2.1 1270 = .ok (.iload_n 3, 1) := by decide +kernel
theorem dL_law_1271 : decode mL.2.1 1271 = .ok (.iconst 3, 1) := by decide +kernel
theorem dL_law_1272 : decode mL.2.1 1272 = .ok (.iadd, 1) := by decide +kernel
theorem dL_law_1273 : decode mL.2.1 1273 = .ok (.iaload, 1) := by decide +kernel
theorem dL_law_1274 : decode mL.2.1 1274 = .ok (.invokevirtual 174, 3) := by decide +kernel
theorem dL_law_1277 : decode mL.2.1 1277 = .ok (.aload_n 2, 1) := by decide +kernel
theorem dL_law_1278 : decode mL.2.1 1278 = .ok (.aload_n 0, 1) := by decide +kernel
theorem dL_law_1279 : decode mL.2.1 1279 = .ok (.iload_n 3, 1) := by decide +kernel
theorem dL_law_1280 : decode mL.2.1 1280 = .ok (.iconst 1, 1) := by decide +kernel
theorem dL_law_1281 : decode mL.2.1 1281 = .ok (.iadd, 1) := by decide +kernel
