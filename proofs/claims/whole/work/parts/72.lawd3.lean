theorem d_Law_law_348 : decode b_Law_law 348 = .ok (.iload 4, 2) := by decide +kernel
theorem d_Law_law_350 : decode b_Law_law 350 = .ok (.iconst 4, 1) := by decide +kernel
theorem d_Law_law_351 : decode b_Law_law 351 = .ok (.iadd, 1) := by decide +kernel
theorem d_Law_law_352 : decode b_Law_law 352 = .ok (.iaload, 1) := by decide +kernel
theorem d_Law_law_353 : decode b_Law_law 353 = .ok (.invokevirtual 49, 3) := by decide +kernel
theorem d_Law_law_356 : decode b_Law_law 356 = .ok (.aload_n 2, 1) := by decide +kernel
theorem d_Law_law_357 : decode b_Law_law 357 = .ok (.aload_n 0, 1) := by decide +kernel
theorem d_Law_law_358 : decode b_Law_law 358 = .ok (.iload 4, 2) := by decide +kernel
theorem d_Law_law_360 : decode b_Law_law 360 = .ok (.iconst 1, 1) := by decide +kernel
theorem d_Law_law_361 : decode b_Law_law 361 = .ok (.iadd, 1) := by decide +kernel
theorem d_Law_law_362 : decode b_Law_law 362 = .ok (.iaload, 1) := by decide +kernel
theorem d_Law_law_363 : decode b_Law_law 363 = .ok (.aload_n 0, 1) := by decide +kernel
theorem d_Law_law_364 : decode b_Law_law 364 = .ok (.iload 4, 2) := by decide +kernel
theorem d_Law_law_366 : decode b_Law_law 366 = .ok (.iconst 2, 1) := by decide +kernel
theorem d_Law_law_367 : decode b_Law_law 367 = .ok (.iadd, 1) := by decide +kernel
theorem d_Law_law_368 : decode b_Law_law 368 = .ok (.iaload, 1) := by decide +kernel
theorem d_Law_law_369 : decode b_Law_law 369 = .ok (.aload_n 0, 1) := by decide +kernel
theorem d_Law_law_370 : decode b_Law_law 370 = .ok (.iload 4, 2) := by decide +kernel
theorem d_Law_law_372 : decode b_Law_law 372 = .ok (.iconst 3, 1) := by decide +kernel
theorem d_Law_law_373 : decode b_Law_law 373 = .ok (.iadd, 1) := by decide +kernel
theorem d_Law_law_374 : decode b_Law_law 374 = .ok (.iaload, 1) := by decide +kernel
theorem d_Law_law_375 : decode b_Law_law 375 = .ok (.aload_n 0, 1) := by decide +kernel
theorem d_Law_law_376 : decode b_Law_law 376 = .ok (.iload 4, 2) := by decide +kernel
theorem d_Law_law_378 : decode b_Law_law 378 = .ok (.iconst 4, 1) := by decide +kernel
theorem d_Law_law_379 : decode b_Law_law 379 = .ok (.iadd, 1) := by decide +kernel
theorem d_Law_law_380 : decode b_Law_law 380 = .ok (.iaload, 1) := by decide +kernel
theorem d_Law_law_381 : decode b_Law_law 381 = .ok (.invokevirtual 53, 3) := by decide +kernel
theorem d_Law_law_384 : decode b_Law_law 384 = .ok (.lcmp, 1) := by decide +kernel
theorem d_Law_law_385 : decode b_Law_law 385 = .ok (.ifCond .eq 411, 3) := by decide +kernel
theorem d_Law_law_390 : decode b_Law_law 390 = .ok (.aload_n 1, 1) := by decide +kernel
theorem d_Law_law_391 : decode b_Law_law 391 = .ok (.aload_n 0, 1) := by decide +kernel
theorem d_Law_law_392 : decode b_Law_law 392 = .ok (.iload 4, 2) := by decide +kernel
theorem d_Law_law_394 : decode b_Law_law 394 = .ok (.iconst 1, 1) := by decide +kernel
theorem d_Law_law_395 : decode b_Law_law 395 = .ok (.iadd, 1) := by decide +kernel
theorem d_Law_law_396 : decode b_Law_law 396 = .ok (.iaload, 1) := by decide +kernel
theorem d_Law_law_397 : decode b_Law_law 397 = .ok (.invokevirtual 54, 3) := by decide +kernel
theorem d_Law_law_400 : decode b_Law_law 400 = .ok (.aload_n 2, 1) := by decide +kernel
theorem d_Law_law_401 : decode b_Law_law 401 = .ok (.aload_n 0, 1) := by decide +kernel
theorem d_Law_law_402 : decode b_Law_law 402 = .ok (.iload 4, 2) := by decide +kernel
theorem d_Law_law_404 : decode b_Law_law 404 = .ok (.iconst 1, 1) := by decide +kernel
theorem d_Law_law_405 : decode b_Law_law 405 = .ok (.iadd, 1) := by decide +kernel
theorem d_Law_law_406 : decode b_Law_law 406 = .ok (.iaload, 1) := by decide +kernel
theorem d_Law_law_407 : decode b_Law_law 407 = .ok (.invokevirtual 57, 3) := by decide +kernel
theorem d_Law_law_410 : decode b_Law_law 410 = .ok (.if_icmp .eq 386, 3) := by decide +kernel
theorem d_Law_law_415 : decode b_Law_law 415 = .ok (.aload_n 1, 1) := by decide +kernel
theorem d_Law_law_416 : decode b_Law_law 416 = .ok (.aload_n 0, 1) := by decide +kernel
theorem d_Law_law_417 : decode b_Law_law 417 = .ok (.iload 4, 2) := by decide +kernel
theorem d_Law_law_419 : decode b_Law_law 419 = .ok (.iconst 1, 1) := by decide +kernel
theorem d_Law_law_420 : decode b_Law_law 420 = .ok (.iadd, 1) := by decide +kernel
theorem d_Law_law_421 : decode b_Law_law 421 = .ok (.iaload, 1) := by decide +kernel
theorem d_Law_law_422 : decode b_Law_law 422 = .ok (.invokevirtual 58, 3) := by decide +kernel
theorem d_Law_law_425 : decode b_Law_law 425 = .ok (.aload_n 2, 1) := by decide +kernel
theorem d_Law_law_426 : decode b_Law_law 426 = .ok (.aload_n 0, 1) := by decide +kernel
theorem d_Law_law_427 : decode b_Law_law 427 = .ok (.iload 4, 2) := by decide +kernel
theorem d_Law_law_429 : decode b_Law_law 429 = .ok (.iconst 1, 1) := by decide +kernel
theorem d_Law_law_430 : decode b_Law_law 430 = .ok (.iadd, 1) := by decide +kernel
theorem d_Law_law_431 : decode b_Law_law 431 = .ok (.iaload, 1) := by decide +kernel
theorem d_Law_law_432 : decode b_Law_law 432 = .ok (.invokevirtual 61, 3) := by decide +kernel
theorem d_Law_law_435 : decode b_Law_law 435 = .ok (.if_icmp .eq 361, 3) := by decide +kernel
theorem d_Law_law_440 : decode b_Law_law 440 = .ok (.aload_n 1, 1) := by decide +kernel
