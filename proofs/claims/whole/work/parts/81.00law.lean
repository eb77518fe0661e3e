/-! decode rows of the law -/
theorem dL_law_0 : decode mL.2.1 0 = .ok (.new 7, 3) := by decide +kernel
theorem dL_law_3 : decode mL.2.1 3 = .ok (.dup, 1) := by decide +kernel
theorem dL_law_4 : decode mL.2.1 4 = .ok (.invokespecial 9, 3) := by decide +kernel
theorem dL_law_7 : decode mL.2.1 7 = .ok (.astore_n 1, 1) := by decide +kernel
theorem dL_law_8 : decode mL.2.1 8 = .ok (.new 10, 3) := by decide +kernel
theorem dL_law_11 : decode mL.2.1 11 = .ok (.dup, 1) := by decide +kernel
theorem dL_law_12 : decode mL.2.1 12 = .ok (.invokespecial 12, 3) := by decide +kernel
theorem dL_law_15 : decode mL.2.1 15 = .ok (.astore_n 2, 1) := by decide +kernel
theorem dL_law_16 : decode mL.2.1 16 = .ok (.iconst 0, 1) := by decide +kernel
theorem dL_law_17 : decode mL.2.1 17 = .ok (.istore_n 3, 1) := by decide +kernel
theorem dL_law_18 : decode mL.2.1 18 = .ok (.iload_n 3, 1) := by decide +kernel
theorem dL_law_19 : decode mL.2.1 19 = .ok (.aload_n 0, 1) := by decide +kernel
theorem dL_law_20 : decode mL.2.1 20 = .ok (.arraylength, 1) := by decide +kernel
theorem dL_law_21 : decode mL.2.1 21 = .ok (.bipush 6, 2) := by decide +kernel
theorem dL_law_23 : decode mL.2.1 23 = .ok (.isub, 1) := by decide +kernel
theorem dL_law_24 : decode mL.2.1 24 = .ok (.if_icmp .gt 1477, 3) := by decide +kernel
theorem dL_law_27 : decode mL.2.1 27 = .ok (.aload_n 0, 1) := by decide +kernel
theorem dL_law_28 : decode mL.2.1 28 = .ok (.iload_n 3, 1) := by decide +kernel
theorem dL_law_29 : decode mL.2.1 29 = .ok (.iaload, 1) := by decide +kernel
theorem dL_law_30 : decode mL.2.1 30 = .ok (.bipush 63, 2) := by decide +kernel
theorem dL_law_32 : decode mL.2.1 32 = .ok (.iand, 1) := by decide +kernel
theorem dL_law_33 : decode mL.2.1 33 = .ok (.tableswitch 1462 0 47 #[207, 240, 273, 306, 349, 382, 395, 408, 421, 434, 457, 480, 503, 526, 569, 592, 615, 628, 651, 674, 697, 720, 743, 766, 799, 812, 845, 878, 911, 944, 977, 1000, 1034, 1057, 1090, 1103, 1116, 1149, 1182, 1225, 1268, 1331, 1354, 1377, 1390, 1403, 1416, 1439], 207) := by decide +kernel
theorem dL_law_240 : decode mL.2.1 240 = .ok (.aload_n 1, 1) := by decide +kernel
theorem dL_law_241 : decode mL.2.1 241 = .ok (.aload_n 0, 1) := by decide +kernel
theorem dL_law_242 : decode mL.2.1 242 = .ok (.iload_n 3, 1) := by decide +kernel
theorem dL_law_243 : decode mL.2.1 243 = .ok (.iconst 1, 1) := by decide +kernel
theorem dL_law_244 : decode mL.2.1 244 = .ok (.iadd, 1) := by decide +kernel
theorem dL_law_245 : decode mL.2.1 245 = .ok (.iaload, 1) := by decide +kernel
theorem dL_law_246 : decode mL.2.1 246 = .ok (.aload_n 0, 1) := by decide +kernel
theorem dL_law_247 : decode mL.2.1 247 = .ok (.iload_n 3, 1) := by decide +kernel
theorem dL_law_248 : decode mL.2.1 248 = .ok (.iconst 2, 1) := by decide +kernel
theorem dL_law_249 : decode mL.2.1 249 = .ok (.iadd, 1) := by decide +kernel
theorem dL_law_250 : decode mL.2.1 250 = .ok (.iaload, 1) := by decide +kernel
theorem dL_law_251 : decode mL.2.1 251 = .ok (.invokevirtual 13, 3) := by decide +kernel
theorem dL_law_254 : decode mL.2.1 254 = .ok (.aload_n 2, 1) := by decide +kernel
theorem dL_law_255 : decode mL.2.1 255 = .ok (.aload_n 0, 1) := by decide +kernel
theorem dL_law_256 : decode mL.2.1 256 = .ok (.iload_n 3, 1) := by decide +kernel
theorem dL_law_257 : decode mL.2.1 257 = .ok (.iconst 1, 1) := by decide +kernel
theorem dL_law_258 : decode mL.2.1 258 = .ok (.iadd, 1) := by decide +kernel
theorem dL_law_259 : decode mL.2.1 259 = .ok (.iaload, 1) := by decide +kernel
theorem dL_law_260 : decode mL.2.1 260 = .ok (.aload_n 0, 1) := by decide +kernel
theorem dL_law_261 : decode mL.2.1 261 = .ok (.iload_n 3, 1) := by decide +kernel
theorem dL_law_262 : decode mL.2.1 262 = .ok (.iconst 2, 1) := by decide +kernel
theorem dL_law_263 : decode mL.2.1 263 = .ok (.iadd, 1) := by decide +kernel
theorem dL_law_264 : decode mL.2.1 264 = .ok (.iaload, 1) := by decide +kernel
theorem dL_law_265 : decode mL.2.1 265 = .ok (.invokevirtual 17, 3) := by decide +kernel
theorem dL_law_268 : decode mL.2.1 268 = .ok (.if_icmp .eq 1227, 3) := by decide +kernel
theorem dL_law_273 : decode mL.2.1 273 = .ok (.aload_n 1, 1) := by decide +kernel
theorem dL_law_274 : decode mL.2.1 274 = .ok (.aload_n 0, 1) := by decide +kernel
theorem dL_law_275 : decode mL.2.1 275 = .ok (.iload_n 3, 1) := by decide +kernel
theorem dL_law_276 : decode mL.2.1 276 = .ok (.iconst 1, 1) := by decide +kernel
theorem dL_law_277 : decode mL.2.1 277 = .ok (.iadd, 1) := by decide +kernel
theorem dL_law_278 : decode mL.2.1 278 = .ok (.iaload, 1) := by decide +kernel
theorem dL_law_279 : decode mL.2.1 279 = .ok (.aload_n 0, 1) := by decide +kernel
theorem dL_law_280 : decode mL.2.1 280 = .ok (.iload_n 3, 1) := by decide +kernel
theorem dL_law_281 : decode mL.2.1 281 = .ok (.iconst 2, 1) := by decide +kernel
theorem dL_law_282 : decode mL.2.1 282 = .ok (.iadd, 1) := by decide +kernel
theorem dL_law_283 : decode mL.2.1 283 = .ok (.iaload, 1) := by decide +kernel
theorem dL_law_284 : decode mL.2.1 284 = .ok (.invokevirtual 18, 3) := by decide +kernel
theorem dL_law_287 : decode mL.2.1 287 = .ok (.aload_n 2, 1) := by decide +kernel
theorem dL_law_288 : decode mL.2.1 288 = .ok (.aload_n 0, 1) := by decide +kernel
theorem dL_law_289 : decode mL.2.1 289 = .ok (.iload_n 3, 1) := by decide +kernel
theorem dL_law_290 : decode mL.2.1 290 = .ok (.iconst 1, 1) := by decide +kernel
theorem dL_law_291 : decode mL.2.1 291 = .ok (.iadd, 1) := by decide +kernel
theorem dL_law_292 : decode mL.2.1 292 = .ok (.iaload, 1) := by decide +kernel
theorem dL_law_293 : decode mL.2.1 293 = .ok (.aload_n 0, 1) := by decide +kernel
theorem dL_law_294 : decode mL.2.1 294 = .ok (.iload_n 3, 1) := by decide +kernel
theorem dL_law_295 : decode mL.2.1 295 = .ok (.iconst 2, 1) := by decide +kernel
theorem dL_law_296 : decode mL.2.1 296 = .ok (.iadd, 1) := by decide +kernel
theorem dL_law_297 : decode mL.2.1 297 = .ok (.iaload, 1) := by decide +kernel
theorem dL_law_298 : decode mL.2.1 298 = .ok (.invokevirtual 21, 3) := by decide +kernel
theorem dL_law_301 : decode mL.2.1 301 = .ok (.if_icmp .eq 1194, 3) := by decide +kernel
theorem dL_law_306 : decode mL.2.1 306 = .ok (.aload_n 1, 1) := by decide +kernel
theorem dL_law_307 : decode mL.2.1 307 = .ok (.aload_n 0, 1) := by decide +kernel
theorem dL_law_308 : decode mL.2.1 308 = .ok (.iload_n 3, 1) := by decide +kernel
