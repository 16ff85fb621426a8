theorem d_law_369 : decode code 369 = .ok (.iadd, 1) := by decide +kernel
theorem d_law_370 : decode code 370 = .ok (.iaload, 1) := by decide +kernel
theorem d_law_371 : decode code 371 = .ok (.aload_n 0, 1) := by decide +kernel
theorem d_law_372 : decode code 372 = .ok (.iload 4, 2) := by decide +kernel
theorem d_law_374 : decode code 374 = .ok (.iconst 4, 1) := by decide +kernel
theorem d_law_375 : decode code 375 = .ok (.iadd, 1) := by decide +kernel
theorem d_law_376 : decode code 376 = .ok (.iaload, 1) := by decide +kernel
theorem d_law_377 : decode code 377 = .ok (.aload_n 0, 1) := by decide +kernel
theorem d_law_378 : decode code 378 = .ok (.iload 4, 2) := by decide +kernel
theorem d_law_380 : decode code 380 = .ok (.iconst 5, 1) := by decide +kernel
theorem d_law_381 : decode code 381 = .ok (.iadd, 1) := by decide +kernel
theorem d_law_382 : decode code 382 = .ok (.iaload, 1) := by decide +kernel
theorem d_law_383 : decode code 383 = .ok (.aload_n 3, 1) := by decide +kernel
theorem d_law_384 : decode code 384 = .ok (.invokestatic 97, 3) := by decide +kernel
theorem d_law_387 : decode code 387 = .ok (.istore 5, 2) := by decide +kernel
theorem d_law_389 : decode code 389 = .ok (.aload_n 2, 1) := by decide +kernel
theorem d_law_390 : decode code 390 = .ok (.aload_n 0, 1) := by decide +kernel
theorem d_law_391 : decode code 391 = .ok (.iload 4, 2) := by decide +kernel
theorem d_law_393 : decode code 393 = .ok (.iconst 1, 1) := by decide +kernel
theorem d_law_394 : decode code 394 = .ok (.iadd, 1) := by decide +kernel
theorem d_law_395 : decode code 395 = .ok (.iaload, 1) := by decide +kernel
theorem d_law_396 : decode code 396 = .ok (.aload_n 0, 1) := by decide +kernel
theorem d_law_397 : decode code 397 = .ok (.iload 4, 2) := by decide +kernel
theorem d_law_399 : decode code 399 = .ok (.iconst 2, 1) := by decide +kernel
theorem d_law_400 : decode code 400 = .ok (.iadd, 1) := by decide +kernel
theorem d_law_401 : decode code 401 = .ok (.iaload, 1) := by decide +kernel
theorem d_law_402 : decode code 402 = .ok (.aload_n 0, 1) := by decide +kernel
theorem d_law_403 : decode code 403 = .ok (.iload 4, 2) := by decide +kernel
theorem d_law_405 : decode code 405 = .ok (.iconst 3, 1) := by decide +kernel
theorem d_law_406 : decode code 406 = .ok (.iadd, 1) := by decide +kernel
theorem d_law_407 : decode code 407 = .ok (.iaload, 1) := by decide +kernel
theorem d_law_408 : decode code 408 = .ok (.aload_n 0, 1) := by decide +kernel
theorem d_law_409 : decode code 409 = .ok (.iload 4, 2) := by decide +kernel
theorem d_law_411 : decode code 411 = .ok (.iconst 4, 1) := by decide +kernel
theorem d_law_412 : decode code 412 = .ok (.iadd, 1) := by decide +kernel
theorem d_law_413 : decode code 413 = .ok (.iaload, 1) := by decide +kernel
theorem d_law_414 : decode code 414 = .ok (.aload_n 0, 1) := by decide +kernel
theorem d_law_415 : decode code 415 = .ok (.iload 4, 2) := by decide +kernel
theorem d_law_417 : decode code 417 = .ok (.iconst 5, 1) := by decide +kernel
theorem d_law_418 : decode code 418 = .ok (.iadd, 1) := by decide +kernel
theorem d_law_419 : decode code 419 = .ok (.iaload, 1) := by decide +kernel
theorem d_law_420 : decode code 420 = .ok (.invokevirtual 100, 3) := by decide +kernel
theorem d_law_423 : decode code 423 = .ok (.istore 6, 2) := by decide +kernel
theorem d_law_425 : decode code 425 = .ok (.aload_n 2, 1) := by decide +kernel
theorem d_law_426 : decode code 426 = .ok (.invokevirtual 86, 3) := by decide +kernel
theorem d_law_429 : decode code 429 = .ok (.iload 5, 2) := by decide +kernel
theorem d_law_431 : decode code 431 = .ok (.if_icmp .eq 5, 3) := by decide +kernel
theorem d_law_434 : decode code 434 = .ok (.iconst 0, 1) := by decide +kernel
theorem d_law_435 : decode code 435 = .ok (.ireturn, 1) := by decide +kernel
theorem d_law_436 : decode code 436 = .ok (.iload 5, 2) := by decide +kernel
theorem d_law_438 : decode code 438 = .ok (.ifCond .ne 15, 3) := by decide +kernel
theorem d_law_441 : decode code 441 = .ok (.aload_n 3, 1) := by decide +kernel
theorem d_law_442 : decode code 442 = .ok (.iconst 0, 1) := by decide +kernel
theorem d_law_443 : decode code 443 = .ok (.laload, 1) := by decide +kernel
theorem d_law_444 : decode code 444 = .ok (.iload 6, 2) := by decide +kernel
theorem d_law_446 : decode code 446 = .ok (.i2l, 1) := by decide +kernel
theorem d_law_447 : decode code 447 = .ok (.lcmp, 1) := by decide +kernel
theorem d_law_448 : decode code 448 = .ok (.ifCond .eq 5, 3) := by decide +kernel
theorem d_law_451 : decode code 451 = .ok (.iconst 0, 1) := by decide +kernel
theorem d_law_452 : decode code 452 = .ok (.ireturn, 1) := by decide +kernel
