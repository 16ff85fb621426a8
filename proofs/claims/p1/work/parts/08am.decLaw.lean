theorem d_law_1204 : decode code 1204 = .ok (.invokestatic 136, 3) := by decide +kernel
theorem d_law_1207 : decode code 1207 = .ok (.istore 5, 2) := by decide +kernel
theorem d_law_1209 : decode code 1209 = .ok (.aload_n 2, 1) := by decide +kernel
theorem d_law_1210 : decode code 1210 = .ok (.aload_n 0, 1) := by decide +kernel
theorem d_law_1211 : decode code 1211 = .ok (.iload 4, 2) := by decide +kernel
theorem d_law_1213 : decode code 1213 = .ok (.iconst 1, 1) := by decide +kernel
theorem d_law_1214 : decode code 1214 = .ok (.iadd, 1) := by decide +kernel
theorem d_law_1215 : decode code 1215 = .ok (.iaload, 1) := by decide +kernel
theorem d_law_1216 : decode code 1216 = .ok (.aload_n 0, 1) := by decide +kernel
theorem d_law_1217 : decode code 1217 = .ok (.iload 4, 2) := by decide +kernel
theorem d_law_1219 : decode code 1219 = .ok (.iconst 2, 1) := by decide +kernel
theorem d_law_1220 : decode code 1220 = .ok (.iadd, 1) := by decide +kernel
theorem d_law_1221 : decode code 1221 = .ok (.iaload, 1) := by decide +kernel
theorem d_law_1222 : decode code 1222 = .ok (.invokevirtual 138, 3) := by decide +kernel
theorem d_law_1225 : decode code 1225 = .ok (.istore 6, 2) := by decide +kernel
theorem d_law_1227 : decode code 1227 = .ok (.aload_n 2, 1) := by decide +kernel
theorem d_law_1228 : decode code 1228 = .ok (.invokevirtual 86, 3) := by decide +kernel
theorem d_law_1231 : decode code 1231 = .ok (.iload 5, 2) := by decide +kernel
theorem d_law_1233 : decode code 1233 = .ok (.if_icmp .eq 5, 3) := by decide +kernel
theorem d_law_1236 : decode code 1236 = .ok (.iconst 0, 1) := by decide +kernel
theorem d_law_1237 : decode code 1237 = .ok (.ireturn, 1) := by decide +kernel
theorem d_law_1238 : decode code 1238 = .ok (.iload 5, 2) := by decide +kernel
theorem d_law_1240 : decode code 1240 = .ok (.ifCond .ne 15, 3) := by decide +kernel
theorem d_law_1243 : decode code 1243 = .ok (.aload_n 3, 1) := by decide +kernel
theorem d_law_1244 : decode code 1244 = .ok (.iconst 0, 1) := by decide +kernel
theorem d_law_1245 : decode code 1245 = .ok (.laload, 1) := by decide +kernel
theorem d_law_1246 : decode code 1246 = .ok (.iload 6, 2) := by decide +kernel
theorem d_law_1248 : decode code 1248 = .ok (.i2l, 1) := by decide +kernel
theorem d_law_1249 : decode code 1249 = .ok (.lcmp, 1) := by decide +kernel
theorem d_law_1250 : decode code 1250 = .ok (.ifCond .eq 5, 3) := by decide +kernel
theorem d_law_1253 : decode code 1253 = .ok (.iconst 0, 1) := by decide +kernel
theorem d_law_1254 : decode code 1254 = .ok (.ireturn, 1) := by decide +kernel
theorem d_law_1255 : decode code 1255 = .ok (.goto 96, 3) := by decide +kernel
theorem d_law_1258 : decode code 1258 = .ok (.aload_n 1, 1) := by decide +kernel
theorem d_law_1259 : decode code 1259 = .ok (.aload_n 0, 1) := by decide +kernel
theorem d_law_1260 : decode code 1260 = .ok (.iload 4, 2) := by decide +kernel
theorem d_law_1262 : decode code 1262 = .ok (.iconst 1, 1) := by decide +kernel
theorem d_law_1263 : decode code 1263 = .ok (.iadd, 1) := by decide +kernel
theorem d_law_1264 : decode code 1264 = .ok (.iaload, 1) := by decide +kernel
theorem d_law_1265 : decode code 1265 = .ok (.aload_n 0, 1) := by decide +kernel
theorem d_law_1266 : decode code 1266 = .ok (.iload 4, 2) := by decide +kernel
theorem d_law_1268 : decode code 1268 = .ok (.iconst 2, 1) := by decide +kernel
theorem d_law_1269 : decode code 1269 = .ok (.iadd, 1) := by decide +kernel
theorem d_law_1270 : decode code 1270 = .ok (.iaload, 1) := by decide +kernel
theorem d_law_1271 : decode code 1271 = .ok (.aload_n 3, 1) := by decide +kernel
theorem d_law_1272 : decode code 1272 = .ok (.invokestatic 139, 3) := by decide +kernel
theorem d_law_1275 : decode code 1275 = .ok (.istore 5, 2) := by decide +kernel
theorem d_law_1277 : decode code 1277 = .ok (.aload_n 2, 1) := by decide +kernel
theorem d_law_1278 : decode code 1278 = .ok (.aload_n 0, 1) := by decide +kernel
theorem d_law_1279 : decode code 1279 = .ok (.iload 4, 2) := by decide +kernel
theorem d_law_1281 : decode code 1281 = .ok (.iconst 1, 1) := by decide +kernel
theorem d_law_1282 : decode code 1282 = .ok (.iadd, 1) := by decide +kernel
theorem d_law_1283 : decode code 1283 = .ok (.iaload, 1) := by decide +kernel
theorem d_law_1284 : decode code 1284 = .ok (.aload_n 0, 1) := by decide +kernel
theorem d_law_1285 : decode code 1285 = .ok (.iload 4, 2) := by decide +kernel
theorem d_law_1287 : decode code 1287 = .ok (.iconst 2, 1) := by decide +kernel
theorem d_law_1288 : decode code 1288 = .ok (.iadd, 1) := by decide +kernel
theorem d_law_1289 : decode code 1289 = .ok (.iaload, 1) := by decide +kernel
theorem d_law_1290 : decode code 1290 = .ok (.invokevirtual 141, 3) := by decide +kernel
theorem d_law_1293 : decode code 1293 = .ok (.istore 6, 2) := by decide +kernel
