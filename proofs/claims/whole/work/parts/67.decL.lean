theorem d_L_law_1230 : decode code 1230 = .ok (.iconst 0, 1) := by decide +kernel
theorem d_L_law_1231 : decode code 1231 = .ok (.ireturn, 1) := by decide +kernel
theorem d_L_law_1232 : decode code 1232 = .ok (.iload 5, 2) := by decide +kernel
theorem d_L_law_1234 : decode code 1234 = .ok (.ifCond .ne 15, 3) := by decide +kernel
theorem d_L_law_1237 : decode code 1237 = .ok (.aload_n 3, 1) := by decide +kernel
theorem d_L_law_1238 : decode code 1238 = .ok (.iconst 0, 1) := by decide +kernel
theorem d_L_law_1239 : decode code 1239 = .ok (.laload, 1) := by decide +kernel
theorem d_L_law_1240 : decode code 1240 = .ok (.iload 6, 2) := by decide +kernel
theorem d_L_law_1242 : decode code 1242 = .ok (.i2l, 1) := by decide +kernel
theorem d_L_law_1243 : decode code 1243 = .ok (.lcmp, 1) := by decide +kernel
theorem d_L_law_1244 : decode code 1244 = .ok (.ifCond .eq 5, 3) := by decide +kernel
theorem d_L_law_1247 : decode code 1247 = .ok (.iconst 0, 1) := by decide +kernel
theorem d_L_law_1248 : decode code 1248 = .ok (.ireturn, 1) := by decide +kernel
theorem d_L_law_1249 : decode code 1249 = .ok (.goto 59, 3) := by decide +kernel
theorem d_L_law_1252 : decode code 1252 = .ok (.aload_n 1, 1) := by decide +kernel
theorem d_L_law_1253 : decode code 1253 = .ok (.aload_n 0, 1) := by decide +kernel
theorem d_L_law_1254 : decode code 1254 = .ok (.iload 4, 2) := by decide +kernel
theorem d_L_law_1256 : decode code 1256 = .ok (.iconst 1, 1) := by decide +kernel
theorem d_L_law_1257 : decode code 1257 = .ok (.iadd, 1) := by decide +kernel
theorem d_L_law_1258 : decode code 1258 = .ok (.iaload, 1) := by decide +kernel
theorem d_L_law_1259 : decode code 1259 = .ok (.aload_n 3, 1) := by decide +kernel
theorem d_L_law_1260 : decode code 1260 = .ok (.invokestatic 148, 3) := by decide +kernel
theorem d_L_law_1263 : decode code 1263 = .ok (.istore 5, 2) := by decide +kernel
theorem d_L_law_1265 : decode code 1265 = .ok (.aload_n 2, 1) := by decide +kernel
theorem d_L_law_1266 : decode code 1266 = .ok (.aload_n 0, 1) := by decide +kernel
theorem d_L_law_1267 : decode code 1267 = .ok (.iload 4, 2) := by decide +kernel
theorem d_L_law_1269 : decode code 1269 = .ok (.iconst 1, 1) := by decide +kernel
theorem d_L_law_1270 : decode code 1270 = .ok (.iadd, 1) := by decide +kernel
theorem d_L_law_1271 : decode code 1271 = .ok (.iaload, 1) := by decide +kernel
theorem d_L_law_1272 : decode code 1272 = .ok (.invokevirtual 150, 3) := by decide +kernel
theorem d_L_law_1275 : decode code 1275 = .ok (.istore 6, 2) := by decide +kernel
theorem d_L_law_1277 : decode code 1277 = .ok (.aload_n 2, 1) := by decide +kernel
theorem d_L_law_1278 : decode code 1278 = .ok (.invokevirtual 89, 3) := by decide +kernel
theorem d_L_law_1281 : decode code 1281 = .ok (.iload 5, 2) := by decide +kernel
theorem d_L_law_1283 : decode code 1283 = .ok (.if_icmp .eq 5, 3) := by decide +kernel
theorem d_L_law_1286 : decode code 1286 = .ok (.iconst 0, 1) := by decide +kernel
theorem d_L_law_1287 : decode code 1287 = .ok (.ireturn, 1) := by decide +kernel
theorem d_L_law_1288 : decode code 1288 = .ok (.iload 5, 2) := by decide +kernel
theorem d_L_law_1290 : decode code 1290 = .ok (.ifCond .ne 15, 3) := by decide +kernel
theorem d_L_law_1293 : decode code 1293 = .ok (.aload_n 3, 1) := by decide +kernel
theorem d_L_law_1294 : decode code 1294 = .ok (.iconst 0, 1) := by decide +kernel
theorem d_L_law_1295 : decode code 1295 = .ok (.laload, 1) := by decide +kernel
theorem d_L_law_1296 : decode code 1296 = .ok (.iload 6, 2) := by decide +kernel
theorem d_L_law_1298 : decode code 1298 = .ok (.i2l, 1) := by decide +kernel
theorem d_L_law_1299 : decode code 1299 = .ok (.lcmp, 1) := by decide +kernel
theorem d_L_law_1300 : decode code 1300 = .ok (.ifCond .eq 5, 3) := by decide +kernel
theorem d_L_law_1303 : decode code 1303 = .ok (.iconst 0, 1) := by decide +kernel
theorem d_L_law_1304 : decode code 1304 = .ok (.ireturn, 1) := by decide +kernel
theorem d_L_law_1305 : decode code 1305 = .ok (.goto 3, 3) := by decide +kernel
theorem d_L_law_1308 : decode code 1308 = .ok (.iinc 4 6, 3) := by decide +kernel
theorem d_L_law_1311 : decode code 1311 = .ok (.goto (-1288), 3) := by decide +kernel
theorem d_L_law_1314 : decode code 1314 = .ok (.iconst 1, 1) := by decide +kernel
theorem d_L_law_1315 : decode code 1315 = .ok (.ireturn, 1) := by decide +kernel
