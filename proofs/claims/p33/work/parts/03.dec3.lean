theorem dL_law_1258 : decode cL_law 1258 = .ok (.iconst 1, 1) := by decide +kernel
theorem dL_law_1259 : decode cL_law 1259 = .ok (.iadd, 1) := by decide +kernel
theorem dL_law_1260 : decode cL_law 1260 = .ok (.iaload, 1) := by decide +kernel
theorem dL_law_1261 : decode cL_law 1261 = .ok (.invokevirtual 162, 3) := by decide +kernel
theorem dL_law_1264 : decode cL_law 1264 = .ok (.pop, 1) := by decide +kernel
theorem dL_law_1265 : decode cL_law 1265 = .ok (.goto 16, 3) := by decide +kernel
theorem dL_law_1268 : decode cL_law 1268 = .ok (.aload_n 1, 1) := by decide +kernel
theorem dL_law_1269 : decode cL_law 1269 = .ok (.invokevirtual 163, 3) := by decide +kernel
theorem dL_law_1272 : decode cL_law 1272 = .ok (.pop, 1) := by decide +kernel
theorem dL_law_1273 : decode cL_law 1273 = .ok (.aload_n 2, 1) := by decide +kernel
theorem dL_law_1274 : decode cL_law 1274 = .ok (.invokevirtual 166, 3) := by decide +kernel
theorem dL_law_1277 : decode cL_law 1277 = .ok (.pop, 1) := by decide +kernel
theorem dL_law_1278 : decode cL_law 1278 = .ok (.goto 3, 3) := by decide +kernel
theorem dL_law_1281 : decode cL_law 1281 = .ok (.iinc 4 6, 3) := by decide +kernel
theorem dL_law_1284 : decode cL_law 1284 = .ok (.goto (-1261), 3) := by decide +kernel
theorem dL_law_1287 : decode cL_law 1287 = .ok (.iconst 1, 1) := by decide +kernel
