theorem d_law_276 : decode code 276 = .ok (.iload 5, 2) := by decide +kernel
theorem d_law_278 : decode code 278 = .ok (.ifCond .ne 15, 3) := by decide +kernel
theorem d_law_281 : decode code 281 = .ok (.aload_n 3, 1) := by decide +kernel
theorem d_law_282 : decode code 282 = .ok (.iconst 0, 1) := by decide +kernel
theorem d_law_283 : decode code 283 = .ok (.laload, 1) := by decide +kernel
theorem d_law_284 : decode code 284 = .ok (.iload 6, 2) := by decide +kernel
theorem d_law_286 : decode code 286 = .ok (.i2l, 1) := by decide +kernel
theorem d_law_287 : decode code 287 = .ok (.lcmp, 1) := by decide +kernel
theorem d_law_288 : decode code 288 = .ok (.ifCond .eq 5, 3) := by decide +kernel
theorem d_law_291 : decode code 291 = .ok (.iconst 0, 1) := by decide +kernel
theorem d_law_292 : decode code 292 = .ok (.ireturn, 1) := by decide +kernel
theorem d_law_293 : decode code 293 = .ok (.goto 596, 3) := by decide +kernel
theorem d_law_296 : decode code 296 = .ok (.aload_n 1, 1) := by decide +kernel
theorem d_law_297 : decode code 297 = .ok (.aload_n 0, 1) := by decide +kernel
theorem d_law_298 : decode code 298 = .ok (.iload 4, 2) := by decide +kernel
theorem d_law_300 : decode code 300 = .ok (.iconst 1, 1) := by decide +kernel
theorem d_law_301 : decode code 301 = .ok (.iadd, 1) := by decide +kernel
theorem d_law_302 : decode code 302 = .ok (.iaload, 1) := by decide +kernel
theorem d_law_303 : decode code 303 = .ok (.aload_n 0, 1) := by decide +kernel
theorem d_law_304 : decode code 304 = .ok (.iload 4, 2) := by decide +kernel
theorem d_law_306 : decode code 306 = .ok (.iconst 2, 1) := by decide +kernel
theorem d_law_307 : decode code 307 = .ok (.iadd, 1) := by decide +kernel
theorem d_law_308 : decode code 308 = .ok (.iaload, 1) := by decide +kernel
theorem d_law_309 : decode code 309 = .ok (.aload_n 0, 1) := by decide +kernel
theorem d_law_310 : decode code 310 = .ok (.iload 4, 2) := by decide +kernel
theorem d_law_312 : decode code 312 = .ok (.iconst 3, 1) := by decide +kernel
theorem d_law_313 : decode code 313 = .ok (.iadd, 1) := by decide +kernel
theorem d_law_314 : decode code 314 = .ok (.iaload, 1) := by decide +kernel
theorem d_law_315 : decode code 315 = .ok (.aload_n 0, 1) := by decide +kernel
theorem d_law_316 : decode code 316 = .ok (.iload 4, 2) := by decide +kernel
theorem d_law_318 : decode code 318 = .ok (.iconst 4, 1) := by decide +kernel
theorem d_law_319 : decode code 319 = .ok (.iadd, 1) := by decide +kernel
theorem d_law_320 : decode code 320 = .ok (.iaload, 1) := by decide +kernel
theorem d_law_321 : decode code 321 = .ok (.aload_n 0, 1) := by decide +kernel
theorem d_law_322 : decode code 322 = .ok (.iload 4, 2) := by decide +kernel
theorem d_law_324 : decode code 324 = .ok (.iconst 5, 1) := by decide +kernel
theorem d_law_325 : decode code 325 = .ok (.iadd, 1) := by decide +kernel
theorem d_law_326 : decode code 326 = .ok (.iaload, 1) := by decide +kernel
theorem d_law_327 : decode code 327 = .ok (.aload_n 3, 1) := by decide +kernel
theorem d_law_328 : decode code 328 = .ok (.invokestatic 97, 3) := by decide +kernel
theorem d_law_331 : decode code 331 = .ok (.istore 5, 2) := by decide +kernel
theorem d_law_333 : decode code 333 = .ok (.aload_n 2, 1) := by decide +kernel
theorem d_law_334 : decode code 334 = .ok (.aload_n 0, 1) := by decide +kernel
theorem d_law_335 : decode code 335 = .ok (.iload 4, 2) := by decide +kernel
theorem d_law_337 : decode code 337 = .ok (.iconst 1, 1) := by decide +kernel
theorem d_law_338 : decode code 338 = .ok (.iadd, 1) := by decide +kernel
theorem d_law_339 : decode code 339 = .ok (.iaload, 1) := by decide +kernel
theorem d_law_340 : decode code 340 = .ok (.aload_n 0, 1) := by decide +kernel
theorem d_law_341 : decode code 341 = .ok (.iload 4, 2) := by decide +kernel
theorem d_law_343 : decode code 343 = .ok (.iconst 2, 1) := by decide +kernel
theorem d_law_344 : decode code 344 = .ok (.iadd, 1) := by decide +kernel
theorem d_law_345 : decode code 345 = .ok (.iaload, 1) := by decide +kernel
theorem d_law_346 : decode code 346 = .ok (.aload_n 0, 1) := by decide +kernel
theorem d_law_347 : decode code 347 = .ok (.iload 4, 2) := by decide +kernel
theorem d_law_349 : decode code 349 = .ok (.iconst 3, 1) := by decide +kernel
theorem d_law_350 : decode code 350 = .ok (.iadd, 1) := by decide +kernel
theorem d_law_351 : decode code 351 = .ok (.iaload, 1) := by decide +kernel
theorem d_law_352 : decode code 352 = .ok (.aload_n 0, 1) := by decide +kernel
theorem d_law_353 : decode code 353 = .ok (.iload 4, 2) := by decide +kernel
theorem d_law_355 : decode code 355 = .ok (.iconst 4, 1) := by decide +kernel
