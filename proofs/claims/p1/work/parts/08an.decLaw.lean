theorem d_law_1295 : decode code 1295 = .ok (.aload_n 2, 1) := by decide +kernel
theorem d_law_1296 : decode code 1296 = .ok (.invokevirtual 86, 3) := by decide +kernel
theorem d_law_1299 : decode code 1299 = .ok (.iload 5, 2) := by decide +kernel
theorem d_law_1301 : decode code 1301 = .ok (.if_icmp .eq 5, 3) := by decide +kernel
theorem d_law_1304 : decode code 1304 = .ok (.iconst 0, 1) := by decide +kernel
theorem d_law_1305 : decode code 1305 = .ok (.ireturn, 1) := by decide +kernel
theorem d_law_1306 : decode code 1306 = .ok (.iload 5, 2) := by decide +kernel
theorem d_law_1308 : decode code 1308 = .ok (.ifCond .ne 15, 3) := by decide +kernel
theorem d_law_1311 : decode code 1311 = .ok (.aload_n 3, 1) := by decide +kernel
theorem d_law_1312 : decode code 1312 = .ok (.iconst 0, 1) := by decide +kernel
theorem d_law_1313 : decode code 1313 = .ok (.laload, 1) := by decide +kernel
theorem d_law_1314 : decode code 1314 = .ok (.iload 6, 2) := by decide +kernel
theorem d_law_1316 : decode code 1316 = .ok (.i2l, 1) := by decide +kernel
theorem d_law_1317 : decode code 1317 = .ok (.lcmp, 1) := by decide +kernel
theorem d_law_1318 : decode code 1318 = .ok (.ifCond .eq 5, 3) := by decide +kernel
theorem d_law_1321 : decode code 1321 = .ok (.iconst 0, 1) := by decide +kernel
theorem d_law_1322 : decode code 1322 = .ok (.ireturn, 1) := by decide +kernel
theorem d_law_1323 : decode code 1323 = .ok (.goto 28, 3) := by decide +kernel
theorem d_law_1326 : decode code 1326 = .ok (.aload_n 1, 1) := by decide +kernel
theorem d_law_1327 : decode code 1327 = .ok (.aload_n 0, 1) := by decide +kernel
theorem d_law_1328 : decode code 1328 = .ok (.iload 4, 2) := by decide +kernel
theorem d_law_1330 : decode code 1330 = .ok (.iconst 1, 1) := by decide +kernel
theorem d_law_1331 : decode code 1331 = .ok (.iadd, 1) := by decide +kernel
theorem d_law_1332 : decode code 1332 = .ok (.iaload, 1) := by decide +kernel
theorem d_law_1333 : decode code 1333 = .ok (.invokevirtual 142, 3) := by decide +kernel
theorem d_law_1336 : decode code 1336 = .ok (.aload_n 2, 1) := by decide +kernel
theorem d_law_1337 : decode code 1337 = .ok (.aload_n 0, 1) := by decide +kernel
theorem d_law_1338 : decode code 1338 = .ok (.iload 4, 2) := by decide +kernel
theorem d_law_1340 : decode code 1340 = .ok (.iconst 1, 1) := by decide +kernel
theorem d_law_1341 : decode code 1341 = .ok (.iadd, 1) := by decide +kernel
theorem d_law_1342 : decode code 1342 = .ok (.iaload, 1) := by decide +kernel
theorem d_law_1343 : decode code 1343 = .ok (.invokevirtual 145, 3) := by decide +kernel
theorem d_law_1346 : decode code 1346 = .ok (.if_icmp .eq 5, 3) := by decide +kernel
theorem d_law_1349 : decode code 1349 = .ok (.iconst 0, 1) := by decide +kernel
theorem d_law_1350 : decode code 1350 = .ok (.ireturn, 1) := by decide +kernel
theorem d_law_1351 : decode code 1351 = .ok (.iinc 4 6, 3) := by decide +kernel
theorem d_law_1354 : decode code 1354 = .ok (.goto (-1331), 3) := by decide +kernel
theorem d_law_1357 : decode code 1357 = .ok (.iconst 1, 1) := by decide +kernel
theorem d_law_1358 : decode code 1358 = .ok (.ireturn, 1) := by decide +kernel
