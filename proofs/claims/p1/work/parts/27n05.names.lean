theorem d_law_476 : decode b_law 476 = .ok (.iconst 1, 1) := by decide +kernel
theorem d_law_477 : decode b_law 477 = .ok (.iadd, 1) := by decide +kernel
theorem d_law_478 : decode b_law 478 = .ok (.iaload, 1) := by decide +kernel
theorem d_law_479 : decode b_law 479 = .ok (.aload_n 0, 1) := by decide +kernel
theorem d_law_480 : decode b_law 480 = .ok (.iload 4, 2) := by decide +kernel
theorem d_law_482 : decode b_law 482 = .ok (.iconst 2, 1) := by decide +kernel
theorem d_law_483 : decode b_law 483 = .ok (.iadd, 1) := by decide +kernel
theorem d_law_484 : decode b_law 484 = .ok (.iaload, 1) := by decide +kernel
theorem d_law_485 : decode b_law 485 = .ok (.aload_n 3, 1) := by decide +kernel
theorem d_law_486 : decode b_law 486 = .ok (.invokestatic 114, 3) := by decide +kernel
theorem d_law_489 : decode b_law 489 = .ok (.istore 5, 2) := by decide +kernel
theorem d_law_491 : decode b_law 491 = .ok (.aload_n 2, 1) := by decide +kernel
theorem d_law_492 : decode b_law 492 = .ok (.aload_n 0, 1) := by decide +kernel
theorem d_law_493 : decode b_law 493 = .ok (.iload 4, 2) := by decide +kernel
theorem d_law_495 : decode b_law 495 = .ok (.iconst 1, 1) := by decide +kernel
theorem d_law_496 : decode b_law 496 = .ok (.iadd, 1) := by decide +kernel
theorem d_law_497 : decode b_law 497 = .ok (.iaload, 1) := by decide +kernel
theorem d_law_498 : decode b_law 498 = .ok (.aload_n 0, 1) := by decide +kernel
theorem d_law_499 : decode b_law 499 = .ok (.iload 4, 2) := by decide +kernel
theorem d_law_501 : decode b_law 501 = .ok (.iconst 2, 1) := by decide +kernel
theorem d_law_502 : decode b_law 502 = .ok (.iadd, 1) := by decide +kernel
theorem d_law_503 : decode b_law 503 = .ok (.iaload, 1) := by decide +kernel
theorem d_law_504 : decode b_law 504 = .ok (.invokevirtual 117, 3) := by decide +kernel
theorem d_law_507 : decode b_law 507 = .ok (.istore 6, 2) := by decide +kernel
theorem d_law_509 : decode b_law 509 = .ok (.aload_n 2, 1) := by decide +kernel
theorem d_law_510 : decode b_law 510 = .ok (.invokevirtual 94, 3) := by decide +kernel
theorem d_law_513 : decode b_law 513 = .ok (.iload 5, 2) := by decide +kernel
theorem d_law_515 : decode b_law 515 = .ok (.if_icmp .eq 5, 3) := by decide +kernel
theorem d_law_520 : decode b_law 520 = .ok (.iload 5, 2) := by decide +kernel
theorem d_law_522 : decode b_law 522 = .ok (.ifCond .ne 15, 3) := by decide +kernel
theorem d_law_537 : decode b_law 537 = .ok (.goto 744, 3) := by decide +kernel
theorem d_law_540 : decode b_law 540 = .ok (.aload_n 1, 1) := by decide +kernel
theorem d_law_541 : decode b_law 541 = .ok (.invokevirtual 118, 3) := by decide +kernel
theorem d_law_544 : decode b_law 544 = .ok (.aload_n 2, 1) := by decide +kernel
theorem d_law_545 : decode b_law 545 = .ok (.invokevirtual 121, 3) := by decide +kernel
theorem d_law_548 : decode b_law 548 = .ok (.if_icmp .eq 733, 3) := by decide +kernel
theorem d_law_553 : decode b_law 553 = .ok (.aload_n 1, 1) := by decide +kernel
theorem d_law_554 : decode b_law 554 = .ok (.aload_n 0, 1) := by decide +kernel
theorem d_law_555 : decode b_law 555 = .ok (.iload 4, 2) := by decide +kernel
theorem d_law_557 : decode b_law 557 = .ok (.iconst 1, 1) := by decide +kernel
theorem d_law_558 : decode b_law 558 = .ok (.iadd, 1) := by decide +kernel
theorem d_law_559 : decode b_law 559 = .ok (.iaload, 1) := by decide +kernel
theorem d_law_560 : decode b_law 560 = .ok (.aload_n 3, 1) := by decide +kernel
theorem d_law_561 : decode b_law 561 = .ok (.invokestatic 122, 3) := by decide +kernel
theorem d_law_564 : decode b_law 564 = .ok (.istore 5, 2) := by decide +kernel
theorem d_law_566 : decode b_law 566 = .ok (.aload_n 2, 1) := by decide +kernel
theorem d_law_567 : decode b_law 567 = .ok (.aload_n 0, 1) := by decide +kernel
theorem d_law_568 : decode b_law 568 = .ok (.iload 4, 2) := by decide +kernel
theorem d_law_570 : decode b_law 570 = .ok (.iconst 1, 1) := by decide +kernel
theorem d_law_571 : decode b_law 571 = .ok (.iadd, 1) := by decide +kernel
theorem d_law_572 : decode b_law 572 = .ok (.iaload, 1) := by decide +kernel
theorem d_law_573 : decode b_law 573 = .ok (.invokevirtual 124, 3) := by decide +kernel
theorem d_law_576 : decode b_law 576 = .ok (.istore 6, 2) := by decide +kernel
theorem d_law_578 : decode b_law 578 = .ok (.aload_n 2, 1) := by decide +kernel
theorem d_law_579 : decode b_law 579 = .ok (.invokevirtual 94, 3) := by decide +kernel
theorem d_law_582 : decode b_law 582 = .ok (.iload 5, 2) := by decide +kernel
theorem d_law_584 : decode b_law 584 = .ok (.if_icmp .eq 5, 3) := by decide +kernel
theorem d_law_589 : decode b_law 589 = .ok (.iload 5, 2) := by decide +kernel
theorem d_law_591 : decode b_law 591 = .ok (.ifCond .ne 15, 3) := by decide +kernel
theorem d_law_606 : decode b_law 606 = .ok (.goto 675, 3) := by decide +kernel
