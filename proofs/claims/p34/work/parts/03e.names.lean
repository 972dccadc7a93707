theorem dL_law_425 : decode cL_law 425 = .ok (.iaload, 1) := by decide +kernel
theorem dL_law_426 : decode cL_law 426 = .ok (.ifCond .ge 7, 3) := by decide +kernel
theorem dL_law_429 : decode cL_law 429 = .ok (.iconst 1, 1) := by decide +kernel
theorem dL_law_430 : decode cL_law 430 = .ok (.goto 4, 3) := by decide +kernel
theorem dL_law_433 : decode cL_law 433 = .ok (.iconst 0, 1) := by decide +kernel
theorem dL_law_434 : decode cL_law 434 = .ok (.aload 10, 2) := by decide +kernel
theorem dL_law_436 : decode cL_law 436 = .ok (.iload 12, 2) := by decide +kernel
theorem dL_law_438 : decode cL_law 438 = .ok (.iaload, 1) := by decide +kernel
theorem dL_law_439 : decode cL_law 439 = .ok (.ifCond .ne 7, 3) := by decide +kernel
theorem dL_law_442 : decode cL_law 442 = .ok (.iconst 1, 1) := by decide +kernel
theorem dL_law_443 : decode cL_law 443 = .ok (.goto 4, 3) := by decide +kernel
theorem dL_law_446 : decode cL_law 446 = .ok (.iconst 0, 1) := by decide +kernel
theorem dL_law_447 : decode cL_law 447 = .ok (.if_icmp .eq 5, 3) := by decide +kernel
theorem dL_law_450 : decode cL_law 450 = .ok (.iconst 0, 1) := by decide +kernel
theorem dL_law_451 : decode cL_law 451 = .ok (.ireturn, 1) := by decide +kernel
theorem dL_law_452 : decode cL_law 452 = .ok (.iinc 12 1, 3) := by decide +kernel
theorem dL_law_455 : decode cL_law 455 = .ok (.goto (-109), 3) := by decide +kernel
theorem dL_law_458 : decode cL_law 458 = .ok (.aload_n 1, 1) := by decide +kernel
theorem dL_law_459 : decode cL_law 459 = .ok (.invokevirtual 79, 3) := by decide +kernel
theorem dL_law_462 : decode cL_law 462 = .ok (.istore 12, 2) := by decide +kernel
theorem dL_law_464 : decode cL_law 464 = .ok (.iconst 0, 1) := by decide +kernel
theorem dL_law_465 : decode cL_law 465 = .ok (.istore 13, 2) := by decide +kernel
theorem dL_law_467 : decode cL_law 467 = .ok (.aload_n 0, 1) := by decide +kernel
theorem dL_law_468 : decode cL_law 468 = .ok (.bipush 17, 2) := by decide +kernel
theorem dL_law_470 : decode cL_law 470 = .ok (.invokestatic 9, 3) := by decide +kernel
theorem dL_law_473 : decode cL_law 473 = .ok (.bipush 40, 2) := by decide +kernel
theorem dL_law_475 : decode cL_law 475 = .ok (.invokestatic 15, 3) := by decide +kernel
theorem dL_law_478 : decode cL_law 478 = .ok (.istore 14, 2) := by decide +kernel
theorem dL_law_480 : decode cL_law 480 = .ok (.iconst 0, 1) := by decide +kernel
theorem dL_law_481 : decode cL_law 481 = .ok (.istore 15, 2) := by decide +kernel
theorem dL_law_483 : decode cL_law 483 = .ok (.iload 15, 2) := by decide +kernel
theorem dL_law_485 : decode cL_law 485 = .ok (.iload 14, 2) := by decide +kernel
theorem dL_law_487 : decode cL_law 487 = .ok (.if_icmp .ge 24, 3) := by decide +kernel
theorem dL_law_490 : decode cL_law 490 = .ok (.aload 11, 2) := by decide +kernel
theorem dL_law_492 : decode cL_law 492 = .ok (.iload 13, 2) := by decide +kernel
theorem dL_law_494 : decode cL_law 494 = .ok (.iaload, 1) := by decide +kernel
theorem dL_law_495 : decode cL_law 495 = .ok (.ifCond .lt 16, 3) := by decide +kernel
theorem dL_law_498 : decode cL_law 498 = .ok (.aload 11, 2) := by decide +kernel
theorem dL_law_500 : decode cL_law 500 = .ok (.iload 13, 2) := by decide +kernel
theorem dL_law_502 : decode cL_law 502 = .ok (.iaload, 1) := by decide +kernel
theorem dL_law_503 : decode cL_law 503 = .ok (.istore 13, 2) := by decide +kernel
theorem dL_law_505 : decode cL_law 505 = .ok (.iinc 15 1, 3) := by decide +kernel
theorem dL_law_508 : decode cL_law 508 = .ok (.goto (-25), 3) := by decide +kernel
theorem dL_law_511 : decode cL_law 511 = .ok (.aload_n 1, 1) := by decide +kernel
theorem dL_law_512 : decode cL_law 512 = .ok (.iload 14, 2) := by decide +kernel
theorem dL_law_514 : decode cL_law 514 = .ok (.invokevirtual 97, 3) := by decide +kernel
theorem dL_law_517 : decode cL_law 517 = .ok (.iload 15, 2) := by decide +kernel
theorem dL_law_519 : decode cL_law 519 = .ok (.if_icmp .ne 43, 3) := by decide +kernel
theorem dL_law_522 : decode cL_law 522 = .ok (.aload_n 1, 1) := by decide +kernel
theorem dL_law_523 : decode cL_law 523 = .ok (.invokevirtual 100, 3) := by decide +kernel
theorem dL_law_526 : decode cL_law 526 = .ok (.aload 9, 2) := by decide +kernel
theorem dL_law_528 : decode cL_law 528 = .ok (.iload 13, 2) := by decide +kernel
theorem dL_law_530 : decode cL_law 530 = .ok (.iaload, 1) := by decide +kernel
theorem dL_law_531 : decode cL_law 531 = .ok (.if_icmp .ne 31, 3) := by decide +kernel
theorem dL_law_534 : decode cL_law 534 = .ok (.aload_n 1, 1) := by decide +kernel
theorem dL_law_535 : decode cL_law 535 = .ok (.invokevirtual 103, 3) := by decide +kernel
theorem dL_law_538 : decode cL_law 538 = .ok (.aload 10, 2) := by decide +kernel
theorem dL_law_540 : decode cL_law 540 = .ok (.iload 13, 2) := by decide +kernel
theorem dL_law_542 : decode cL_law 542 = .ok (.iaload, 1) := by decide +kernel
theorem dL_law_543 : decode cL_law 543 = .ok (.if_icmp .ne 19, 3) := by decide +kernel
theorem dL_law_546 : decode cL_law 546 = .ok (.iload 8, 2) := by decide +kernel
theorem dL_law_548 : decode cL_law 548 = .ok (.ifCond .eq 10, 3) := by decide +kernel
theorem dL_law_551 : decode cL_law 551 = .ok (.iload 15, 2) := by decide +kernel
theorem dL_law_553 : decode cL_law 553 = .ok (.iload 12, 2) := by decide +kernel
theorem dL_law_555 : decode cL_law 555 = .ok (.if_icmp .gt 7, 3) := by decide +kernel
theorem dL_law_558 : decode cL_law 558 = .ok (.iconst 1, 1) := by decide +kernel
theorem dL_law_559 : decode cL_law 559 = .ok (.goto 4, 3) := by decide +kernel
theorem dL_law_562 : decode cL_law 562 = .ok (.iconst 0, 1) := by decide +kernel
theorem dL_law_563 : decode cL_law 563 = .ok (.ireturn, 1) := by decide +kernel
abbrev vwCl : List vw_C := [(RX0, TX0, 3), (RX1, TX1, 12), (RX2, TX2, 2), (RX3, TX3, 8), (RX4, TX4, 11), (RX5, TX5, 3), (RX6, TX6, 4)]
