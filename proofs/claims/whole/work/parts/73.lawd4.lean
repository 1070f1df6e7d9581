theorem d_Law_law_441 : decode b_Law_law 441 = .ok (.aload_n 0, 1) := by decide +kernel
theorem d_Law_law_442 : decode b_Law_law 442 = .ok (.iload 4, 2) := by decide +kernel
theorem d_Law_law_444 : decode b_Law_law 444 = .ok (.iconst 1, 1) := by decide +kernel
theorem d_Law_law_445 : decode b_Law_law 445 = .ok (.iadd, 1) := by decide +kernel
theorem d_Law_law_446 : decode b_Law_law 446 = .ok (.iaload, 1) := by decide +kernel
theorem d_Law_law_447 : decode b_Law_law 447 = .ok (.aload_n 0, 1) := by decide +kernel
theorem d_Law_law_448 : decode b_Law_law 448 = .ok (.iload 4, 2) := by decide +kernel
theorem d_Law_law_450 : decode b_Law_law 450 = .ok (.iconst 2, 1) := by decide +kernel
theorem d_Law_law_451 : decode b_Law_law 451 = .ok (.iadd, 1) := by decide +kernel
theorem d_Law_law_452 : decode b_Law_law 452 = .ok (.iaload, 1) := by decide +kernel
theorem d_Law_law_453 : decode b_Law_law 453 = .ok (.aload_n 0, 1) := by decide +kernel
theorem d_Law_law_454 : decode b_Law_law 454 = .ok (.iload 4, 2) := by decide +kernel
theorem d_Law_law_456 : decode b_Law_law 456 = .ok (.iconst 3, 1) := by decide +kernel
theorem d_Law_law_457 : decode b_Law_law 457 = .ok (.iadd, 1) := by decide +kernel
theorem d_Law_law_458 : decode b_Law_law 458 = .ok (.iaload, 1) := by decide +kernel
theorem d_Law_law_459 : decode b_Law_law 459 = .ok (.aload_n 0, 1) := by decide +kernel
theorem d_Law_law_460 : decode b_Law_law 460 = .ok (.iload 4, 2) := by decide +kernel
theorem d_Law_law_462 : decode b_Law_law 462 = .ok (.iconst 4, 1) := by decide +kernel
theorem d_Law_law_463 : decode b_Law_law 463 = .ok (.iadd, 1) := by decide +kernel
theorem d_Law_law_464 : decode b_Law_law 464 = .ok (.iaload, 1) := by decide +kernel
theorem d_Law_law_465 : decode b_Law_law 465 = .ok (.invokevirtual 62, 3) := by decide +kernel
theorem d_Law_law_468 : decode b_Law_law 468 = .ok (.aload_n 2, 1) := by decide +kernel
theorem d_Law_law_469 : decode b_Law_law 469 = .ok (.aload_n 0, 1) := by decide +kernel
theorem d_Law_law_470 : decode b_Law_law 470 = .ok (.iload 4, 2) := by decide +kernel
theorem d_Law_law_472 : decode b_Law_law 472 = .ok (.iconst 1, 1) := by decide +kernel
theorem d_Law_law_473 : decode b_Law_law 473 = .ok (.iadd, 1) := by decide +kernel
theorem d_Law_law_474 : decode b_Law_law 474 = .ok (.iaload, 1) := by decide +kernel
theorem d_Law_law_475 : decode b_Law_law 475 = .ok (.aload_n 0, 1) := by decide +kernel
theorem d_Law_law_476 : decode b_Law_law 476 = .ok (.iload 4, 2) := by decide +kernel
theorem d_Law_law_478 : decode b_Law_law 478 = .ok (.iconst 2, 1) := by decide +kernel
theorem d_Law_law_479 : decode b_Law_law 479 = .ok (.iadd, 1) := by decide +kernel
theorem d_Law_law_480 : decode b_Law_law 480 = .ok (.iaload, 1) := by decide +kernel
theorem d_Law_law_481 : decode b_Law_law 481 = .ok (.aload_n 0, 1) := by decide +kernel
theorem d_Law_law_482 : decode b_Law_law 482 = .ok (.iload 4, 2) := by decide +kernel
theorem d_Law_law_484 : decode b_Law_law 484 = .ok (.iconst 3, 1) := by decide +kernel
theorem d_Law_law_485 : decode b_Law_law 485 = .ok (.iadd, 1) := by decide +kernel
theorem d_Law_law_486 : decode b_Law_law 486 = .ok (.iaload, 1) := by decide +kernel
theorem d_Law_law_487 : decode b_Law_law 487 = .ok (.aload_n 0, 1) := by decide +kernel
theorem d_Law_law_488 : decode b_Law_law 488 = .ok (.iload 4, 2) := by decide +kernel
theorem d_Law_law_490 : decode b_Law_law 490 = .ok (.iconst 4, 1) := by decide +kernel
theorem d_Law_law_491 : decode b_Law_law 491 = .ok (.iadd, 1) := by decide +kernel
theorem d_Law_law_492 : decode b_Law_law 492 = .ok (.iaload, 1) := by decide +kernel
theorem d_Law_law_493 : decode b_Law_law 493 = .ok (.invokevirtual 66, 3) := by decide +kernel
theorem d_Law_law_496 : decode b_Law_law 496 = .ok (.if_icmp .eq 300, 3) := by decide +kernel
theorem d_Law_law_501 : decode b_Law_law 501 = .ok (.aload_n 1, 1) := by decide +kernel
theorem d_Law_law_502 : decode b_Law_law 502 = .ok (.aload_n 0, 1) := by decide +kernel
theorem d_Law_law_503 : decode b_Law_law 503 = .ok (.iload 4, 2) := by decide +kernel
theorem d_Law_law_505 : decode b_Law_law 505 = .ok (.iconst 1, 1) := by decide +kernel
theorem d_Law_law_506 : decode b_Law_law 506 = .ok (.iadd, 1) := by decide +kernel
theorem d_Law_law_507 : decode b_Law_law 507 = .ok (.iaload, 1) := by decide +kernel
theorem d_Law_law_508 : decode b_Law_law 508 = .ok (.aload_n 0, 1) := by decide +kernel
theorem d_Law_law_509 : decode b_Law_law 509 = .ok (.iload 4, 2) := by decide +kernel
theorem d_Law_law_511 : decode b_Law_law 511 = .ok (.iconst 2, 1) := by decide +kernel
theorem d_Law_law_512 : decode b_Law_law 512 = .ok (.iadd, 1) := by decide +kernel
theorem d_Law_law_513 : decode b_Law_law 513 = .ok (.iaload, 1) := by decide +kernel
theorem d_Law_law_514 : decode b_Law_law 514 = .ok (.aload_n 0, 1) := by decide +kernel
theorem d_Law_law_515 : decode b_Law_law 515 = .ok (.iload 4, 2) := by decide +kernel
theorem d_Law_law_517 : decode b_Law_law 517 = .ok (.iconst 3, 1) := by decide +kernel
theorem d_Law_law_518 : decode b_Law_law 518 = .ok (.iadd, 1) := by decide +kernel
theorem d_Law_law_519 : decode b_Law_law 519 = .ok (.iaload, 1) := by decide +kernel
