theorem zd_La_law_986 : decode zc_La_law 986 = .ok (.iadd, 1) := by decide +kernel
theorem zd_La_law_987 : decode zc_La_law 987 = .ok (.iaload, 1) := by decide +kernel
theorem zd_La_law_988 : decode zc_La_law 988 = .ok (.invokevirtual 120, 3) := by decide +kernel
theorem zd_La_law_991 : decode zc_La_law 991 = .ok (.istore 6, 2) := by decide +kernel
theorem zd_La_law_993 : decode zc_La_law 993 = .ok (.aload_n 2, 1) := by decide +kernel
theorem zd_La_law_994 : decode zc_La_law 994 = .ok (.invokevirtual 74, 3) := by decide +kernel
theorem zd_La_law_997 : decode zc_La_law 997 = .ok (.iload 5, 2) := by decide +kernel
theorem zd_La_law_999 : decode zc_La_law 999 = .ok (.if_icmp .eq 5, 3) := by decide +kernel
theorem zd_La_law_1004 : decode zc_La_law 1004 = .ok (.iload 5, 2) := by decide +kernel
theorem zd_La_law_1006 : decode zc_La_law 1006 = .ok (.ifCond .ne 15, 3) := by decide +kernel
theorem zd_La_law_1009 : decode zc_La_law 1009 = .ok (.aload_n 3, 1) := by decide +kernel
theorem zd_La_law_1010 : decode zc_La_law 1010 = .ok (.iconst 0, 1) := by decide +kernel
theorem zd_La_law_1011 : decode zc_La_law 1011 = .ok (.laload, 1) := by decide +kernel
theorem zd_La_law_1012 : decode zc_La_law 1012 = .ok (.iload 6, 2) := by decide +kernel
theorem zd_La_law_1014 : decode zc_La_law 1014 = .ok (.i2l, 1) := by decide +kernel
theorem zd_La_law_1015 : decode zc_La_law 1015 = .ok (.lcmp, 1) := by decide +kernel
theorem zd_La_law_1016 : decode zc_La_law 1016 = .ok (.ifCond .eq 5, 3) := by decide +kernel
theorem zd_La_law_1019 : decode zc_La_law 1019 = .ok (.iconst 0, 1) := by decide +kernel
theorem zd_La_law_1002 : decode zc_La_law 1002 = .ok (.iconst 0, 1) := by decide +kernel
theorem zd_La_law_226 : decode zc_La_law 226 = .ok (.lcmp, 1) := by decide +kernel
theorem zd_La_law_227 : decode zc_La_law 227 = .ok (.ifCond .eq 5, 3) := by decide +kernel
theorem zd_La_law_230 : decode zc_La_law 230 = .ok (.iconst 0, 1) := by decide +kernel
theorem zd_La_law_232 : decode zc_La_law 232 = .ok (.goto 792, 3) := by decide +kernel
theorem zd_La_law_350 : decode zc_La_law 350 = .ok (.goto 674, 3) := by decide +kernel
theorem zd_La_law_406 : decode zc_La_law 406 = .ok (.goto 618, 3) := by decide +kernel
theorem zd_La_law_462 : decode zc_La_law 462 = .ok (.goto 562, 3) := by decide +kernel
theorem zd_La_law_480 : decode zc_La_law 480 = .ok (.aload_n 0, 1) := by decide +kernel
theorem zd_La_law_481 : decode zc_La_law 481 = .ok (.iload 4, 2) := by decide +kernel
theorem zd_La_law_483 : decode zc_La_law 483 = .ok (.iconst 2, 1) := by decide +kernel
theorem zd_La_law_484 : decode zc_La_law 484 = .ok (.iadd, 1) := by decide +kernel
theorem zd_La_law_485 : decode zc_La_law 485 = .ok (.iaload, 1) := by decide +kernel
theorem zd_La_law_486 : decode zc_La_law 486 = .ok (.aload_n 3, 1) := by decide +kernel
theorem zd_La_law_487 : decode zc_La_law 487 = .ok (.invokestatic 89, 3) := by decide +kernel
theorem zd_La_law_490 : decode zc_La_law 490 = .ok (.istore 5, 2) := by decide +kernel
theorem zd_La_law_492 : decode zc_La_law 492 = .ok (.aload_n 2, 1) := by decide +kernel
theorem zd_La_law_493 : decode zc_La_law 493 = .ok (.aload_n 0, 1) := by decide +kernel
theorem zd_La_law_494 : decode zc_La_law 494 = .ok (.iload 4, 2) := by decide +kernel
theorem zd_La_law_496 : decode zc_La_law 496 = .ok (.iconst 1, 1) := by decide +kernel
theorem zd_La_law_497 : decode zc_La_law 497 = .ok (.iadd, 1) := by decide +kernel
theorem zd_La_law_498 : decode zc_La_law 498 = .ok (.iaload, 1) := by decide +kernel
theorem zd_La_law_499 : decode zc_La_law 499 = .ok (.ifCond .eq 7, 3) := by decide +kernel
theorem zd_La_law_506 : decode zc_La_law 506 = .ok (.iconst 0, 1) := by decide +kernel
theorem zd_La_law_502 : decode zc_La_law 502 = .ok (.iconst 1, 1) := by decide +kernel
theorem zd_La_law_503 : decode zc_La_law 503 = .ok (.goto 4, 3) := by decide +kernel
theorem zd_La_law_507 : decode zc_La_law 507 = .ok (.aload_n 0, 1) := by decide +kernel
theorem zd_La_law_508 : decode zc_La_law 508 = .ok (.iload 4, 2) := by decide +kernel
theorem zd_La_law_510 : decode zc_La_law 510 = .ok (.iconst 2, 1) := by decide +kernel
theorem zd_La_law_511 : decode zc_La_law 511 = .ok (.iadd, 1) := by decide +kernel
theorem zd_La_law_512 : decode zc_La_law 512 = .ok (.iaload, 1) := by decide +kernel
theorem zd_La_law_513 : decode zc_La_law 513 = .ok (.invokevirtual 92, 3) := by decide +kernel
theorem zd_La_law_516 : decode zc_La_law 516 = .ok (.istore 6, 2) := by decide +kernel
theorem zd_La_law_518 : decode zc_La_law 518 = .ok (.aload_n 2, 1) := by decide +kernel
theorem zd_La_law_519 : decode zc_La_law 519 = .ok (.invokevirtual 74, 3) := by decide +kernel
theorem zd_La_law_522 : decode zc_La_law 522 = .ok (.iload 5, 2) := by decide +kernel
theorem zd_La_law_524 : decode zc_La_law 524 = .ok (.if_icmp .eq 5, 3) := by decide +kernel
theorem zd_La_law_529 : decode zc_La_law 529 = .ok (.iload 5, 2) := by decide +kernel
theorem zd_La_law_531 : decode zc_La_law 531 = .ok (.ifCond .ne 15, 3) := by decide +kernel
theorem zd_La_law_534 : decode zc_La_law 534 = .ok (.aload_n 3, 1) := by decide +kernel
theorem zd_La_law_535 : decode zc_La_law 535 = .ok (.iconst 0, 1) := by decide +kernel
theorem zd_La_law_536 : decode zc_La_law 536 = .ok (.laload, 1) := by decide +kernel
theorem zd_La_law_537 : decode zc_La_law 537 = .ok (.iload 6, 2) := by decide +kernel
theorem zd_La_law_539 : decode zc_La_law 539 = .ok (.i2l, 1) := by decide +kernel
theorem zd_La_law_540 : decode zc_La_law 540 = .ok (.lcmp, 1) := by decide +kernel
theorem zd_La_law_541 : decode zc_La_law 541 = .ok (.ifCond .eq 5, 3) := by decide +kernel
theorem zd_La_law_544 : decode zc_La_law 544 = .ok (.iconst 0, 1) := by decide +kernel
theorem zd_La_law_527 : decode zc_La_law 527 = .ok (.iconst 0, 1) := by decide +kernel
theorem zd_La_law_546 : decode zc_La_law 546 = .ok (.goto 478, 3) := by decide +kernel
theorem zd_La_law_723 : decode zc_La_law 723 = .ok (.lcmp, 1) := by decide +kernel
theorem zd_La_law_724 : decode zc_La_law 724 = .ok (.ifCond .eq 5, 3) := by decide +kernel
theorem zd_La_law_727 : decode zc_La_law 727 = .ok (.iconst 0, 1) := by decide +kernel
theorem zd_La_law_729 : decode zc_La_law 729 = .ok (.goto 295, 3) := by decide +kernel
theorem zd_La_law_809 : decode zc_La_law 809 = .ok (.goto 215, 3) := by decide +kernel
theorem zd_La_law_878 : decode zc_La_law 878 = .ok (.lcmp, 1) := by decide +kernel
theorem zd_La_law_879 : decode zc_La_law 879 = .ok (.ifCond .eq 5, 3) := by decide +kernel
theorem zd_La_law_882 : decode zc_La_law 882 = .ok (.iconst 0, 1) := by decide +kernel
theorem zd_La_law_884 : decode zc_La_law 884 = .ok (.goto 140, 3) := by decide +kernel
theorem zd_La_law_940 : decode zc_La_law 940 = .ok (.goto 84, 3) := by decide +kernel
theorem zd_La_law_1021 : decode zc_La_law 1021 = .ok (.goto 3, 3) := by decide +kernel
theorem zd_La_law_1024 : decode zc_La_law 1024 = .ok (.iinc 4 7, 3) := by decide +kernel
theorem zd_La_law_1027 : decode zc_La_law 1027 = .ok (.goto (-964), 3) := by decide +kernel
