theorem d_law_351 : decode b_law 351 = .ok (.istore 6, 2) := by decide +kernel
theorem d_law_353 : decode b_law 353 = .ok (.aload_n 2, 1) := by decide +kernel
theorem d_law_354 : decode b_law 354 = .ok (.invokevirtual 94, 3) := by decide +kernel
theorem d_law_357 : decode b_law 357 = .ok (.iload 5, 2) := by decide +kernel
theorem d_law_359 : decode b_law 359 = .ok (.if_icmp .eq 5, 3) := by decide +kernel
theorem d_law_364 : decode b_law 364 = .ok (.iload 5, 2) := by decide +kernel
theorem d_law_366 : decode b_law 366 = .ok (.ifCond .ne 15, 3) := by decide +kernel
theorem d_law_369 : decode b_law 369 = .ok (.aload_n 3, 1) := by decide +kernel
theorem d_law_370 : decode b_law 370 = .ok (.iconst 0, 1) := by decide +kernel
theorem d_law_371 : decode b_law 371 = .ok (.laload, 1) := by decide +kernel
theorem d_law_372 : decode b_law 372 = .ok (.iload 6, 2) := by decide +kernel
theorem d_law_374 : decode b_law 374 = .ok (.i2l, 1) := by decide +kernel
theorem d_law_375 : decode b_law 375 = .ok (.lcmp, 1) := by decide +kernel
theorem d_law_376 : decode b_law 376 = .ok (.ifCond .eq 5, 3) := by decide +kernel
theorem d_law_381 : decode b_law 381 = .ok (.goto 900, 3) := by decide +kernel
theorem d_law_384 : decode b_law 384 = .ok (.aload_n 1, 1) := by decide +kernel
theorem d_law_385 : decode b_law 385 = .ok (.aload_n 3, 1) := by decide +kernel
theorem d_law_386 : decode b_law 386 = .ok (.invokestatic 108, 3) := by decide +kernel
theorem d_law_389 : decode b_law 389 = .ok (.istore 5, 2) := by decide +kernel
theorem d_law_391 : decode b_law 391 = .ok (.aload_n 2, 1) := by decide +kernel
theorem d_law_392 : decode b_law 392 = .ok (.invokevirtual 110, 3) := by decide +kernel
theorem d_law_395 : decode b_law 395 = .ok (.istore 6, 2) := by decide +kernel
theorem d_law_397 : decode b_law 397 = .ok (.aload_n 2, 1) := by decide +kernel
theorem d_law_398 : decode b_law 398 = .ok (.invokevirtual 94, 3) := by decide +kernel
theorem d_law_401 : decode b_law 401 = .ok (.iload 5, 2) := by decide +kernel
theorem d_law_403 : decode b_law 403 = .ok (.if_icmp .eq 5, 3) := by decide +kernel
theorem d_law_408 : decode b_law 408 = .ok (.iload 5, 2) := by decide +kernel
theorem d_law_410 : decode b_law 410 = .ok (.ifCond .ne 15, 3) := by decide +kernel
theorem d_law_413 : decode b_law 413 = .ok (.aload_n 3, 1) := by decide +kernel
theorem d_law_414 : decode b_law 414 = .ok (.iconst 0, 1) := by decide +kernel
theorem d_law_415 : decode b_law 415 = .ok (.laload, 1) := by decide +kernel
theorem d_law_416 : decode b_law 416 = .ok (.iload 6, 2) := by decide +kernel
theorem d_law_418 : decode b_law 418 = .ok (.i2l, 1) := by decide +kernel
theorem d_law_419 : decode b_law 419 = .ok (.lcmp, 1) := by decide +kernel
theorem d_law_420 : decode b_law 420 = .ok (.ifCond .eq 5, 3) := by decide +kernel
theorem d_law_425 : decode b_law 425 = .ok (.goto 856, 3) := by decide +kernel
theorem d_law_428 : decode b_law 428 = .ok (.aload_n 1, 1) := by decide +kernel
theorem d_law_429 : decode b_law 429 = .ok (.aload_n 3, 1) := by decide +kernel
theorem d_law_430 : decode b_law 430 = .ok (.invokestatic 111, 3) := by decide +kernel
theorem d_law_433 : decode b_law 433 = .ok (.istore 5, 2) := by decide +kernel
theorem d_law_435 : decode b_law 435 = .ok (.aload_n 2, 1) := by decide +kernel
theorem d_law_436 : decode b_law 436 = .ok (.invokevirtual 113, 3) := by decide +kernel
theorem d_law_439 : decode b_law 439 = .ok (.istore 6, 2) := by decide +kernel
theorem d_law_441 : decode b_law 441 = .ok (.aload_n 2, 1) := by decide +kernel
theorem d_law_442 : decode b_law 442 = .ok (.invokevirtual 94, 3) := by decide +kernel
theorem d_law_445 : decode b_law 445 = .ok (.iload 5, 2) := by decide +kernel
theorem d_law_447 : decode b_law 447 = .ok (.if_icmp .eq 5, 3) := by decide +kernel
theorem d_law_452 : decode b_law 452 = .ok (.iload 5, 2) := by decide +kernel
theorem d_law_454 : decode b_law 454 = .ok (.ifCond .ne 15, 3) := by decide +kernel
theorem d_law_457 : decode b_law 457 = .ok (.aload_n 3, 1) := by decide +kernel
theorem d_law_458 : decode b_law 458 = .ok (.iconst 0, 1) := by decide +kernel
theorem d_law_459 : decode b_law 459 = .ok (.laload, 1) := by decide +kernel
theorem d_law_460 : decode b_law 460 = .ok (.iload 6, 2) := by decide +kernel
theorem d_law_462 : decode b_law 462 = .ok (.i2l, 1) := by decide +kernel
theorem d_law_463 : decode b_law 463 = .ok (.lcmp, 1) := by decide +kernel
theorem d_law_464 : decode b_law 464 = .ok (.ifCond .eq 5, 3) := by decide +kernel
theorem d_law_469 : decode b_law 469 = .ok (.goto 812, 3) := by decide +kernel
theorem d_law_472 : decode b_law 472 = .ok (.aload_n 1, 1) := by decide +kernel
theorem d_law_473 : decode b_law 473 = .ok (.aload_n 0, 1) := by decide +kernel
theorem d_law_474 : decode b_law 474 = .ok (.iload 4, 2) := by decide +kernel
