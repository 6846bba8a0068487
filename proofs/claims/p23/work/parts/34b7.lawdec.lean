theorem dL_stacks_429 : decode cL_stacks 429 = .ok (.if_icmp .ne 40, 3) := by decide +kernel
theorem dL_stacks_432 : decode cL_stacks 432 = .ok (.aload_n 1, 1) := by decide +kernel
theorem dL_stacks_433 : decode cL_stacks 433 = .ok (.iconst 0, 1) := by decide +kernel
theorem dL_stacks_434 : decode cL_stacks 434 = .ok (.invokevirtual 38, 3) := by decide +kernel
theorem dL_stacks_437 : decode cL_stacks 437 = .ok (.bipush 11, 2) := by decide +kernel
theorem dL_stacks_439 : decode cL_stacks 439 = .ok (.if_icmp .ne 30, 3) := by decide +kernel
theorem dL_stacks_442 : decode cL_stacks 442 = .ok (.aload_n 1, 1) := by decide +kernel
theorem dL_stacks_443 : decode cL_stacks 443 = .ok (.iconst 0, 1) := by decide +kernel
theorem dL_stacks_444 : decode cL_stacks 444 = .ok (.invokevirtual 45, 3) := by decide +kernel
theorem dL_stacks_447 : decode cL_stacks 447 = .ok (.ifCond .ne 22, 3) := by decide +kernel
theorem dL_stacks_450 : decode cL_stacks 450 = .ok (.aload_n 1, 1) := by decide +kernel
theorem dL_stacks_451 : decode cL_stacks 451 = .ok (.iconst 1, 1) := by decide +kernel
theorem dL_stacks_452 : decode cL_stacks 452 = .ok (.invokevirtual 38, 3) := by decide +kernel
theorem dL_stacks_455 : decode cL_stacks 455 = .ok (.bipush 9, 2) := by decide +kernel
theorem dL_stacks_457 : decode cL_stacks 457 = .ok (.if_icmp .ne 12, 3) := by decide +kernel
theorem dL_stacks_460 : decode cL_stacks 460 = .ok (.aload_n 1, 1) := by decide +kernel
theorem dL_stacks_461 : decode cL_stacks 461 = .ok (.iconst 1, 1) := by decide +kernel
theorem dL_stacks_462 : decode cL_stacks 462 = .ok (.invokevirtual 45, 3) := by decide +kernel
theorem dL_stacks_465 : decode cL_stacks 465 = .ok (.iconst 1, 1) := by decide +kernel
theorem dL_stacks_466 : decode cL_stacks 466 = .ok (.if_icmp .eq 5, 3) := by decide +kernel
theorem dL_stacks_469 : decode cL_stacks 469 = .ok (.iconst 0, 1) := by decide +kernel
theorem dL_stacks_470 : decode cL_stacks 470 = .ok (.ireturn, 1) := by decide +kernel
theorem dL_stacks_471 : decode cL_stacks 471 = .ok (.aload_n 1, 1) := by decide +kernel
theorem dL_stacks_472 : decode cL_stacks 472 = .ok (.iconst 1, 1) := by decide +kernel
theorem dL_stacks_473 : decode cL_stacks 473 = .ok (.invokevirtual 16, 3) := by decide +kernel
theorem dL_stacks_476 : decode cL_stacks 476 = .ok (.iconst 1, 1) := by decide +kernel
theorem dL_stacks_477 : decode cL_stacks 477 = .ok (.if_icmp .ne 106, 3) := by decide +kernel
theorem dL_stacks_480 : decode cL_stacks 480 = .ok (.aload_n 1, 1) := by decide +kernel
theorem dL_stacks_481 : decode cL_stacks 481 = .ok (.invokevirtual 57, 3) := by decide +kernel
theorem dL_stacks_484 : decode cL_stacks 484 = .ok (.iconst 3, 1) := by decide +kernel
theorem dL_stacks_485 : decode cL_stacks 485 = .ok (.if_icmp .ne 98, 3) := by decide +kernel
theorem dL_stacks_488 : decode cL_stacks 488 = .ok (.aload_n 1, 1) := by decide +kernel
theorem dL_stacks_489 : decode cL_stacks 489 = .ok (.invokevirtual 61, 3) := by decide +kernel
theorem dL_stacks_492 : decode cL_stacks 492 = .ok (.iconst 2, 1) := by decide +kernel
theorem dL_stacks_493 : decode cL_stacks 493 = .ok (.if_icmp .ne 90, 3) := by decide +kernel
theorem dL_stacks_496 : decode cL_stacks 496 = .ok (.aload_n 1, 1) := by decide +kernel
theorem dL_stacks_497 : decode cL_stacks 497 = .ok (.iconst 0, 1) := by decide +kernel
theorem dL_stacks_498 : decode cL_stacks 498 = .ok (.invokevirtual 38, 3) := by decide +kernel
theorem dL_stacks_501 : decode cL_stacks 501 = .ok (.bipush 10, 2) := by decide +kernel
theorem dL_stacks_503 : decode cL_stacks 503 = .ok (.if_icmp .ne 80, 3) := by decide +kernel
theorem dL_stacks_506 : decode cL_stacks 506 = .ok (.aload_n 1, 1) := by decide +kernel
theorem dL_stacks_507 : decode cL_stacks 507 = .ok (.iconst 1, 1) := by decide +kernel
theorem dL_stacks_508 : decode cL_stacks 508 = .ok (.invokevirtual 16, 3) := by decide +kernel
theorem dL_stacks_511 : decode cL_stacks 511 = .ok (.iconst 1, 1) := by decide +kernel
theorem dL_stacks_512 : decode cL_stacks 512 = .ok (.if_icmp .ne 71, 3) := by decide +kernel
theorem dL_stacks_515 : decode cL_stacks 515 = .ok (.aload_n 1, 1) := by decide +kernel
theorem dL_stacks_516 : decode cL_stacks 516 = .ok (.invokevirtual 57, 3) := by decide +kernel
theorem dL_stacks_519 : decode cL_stacks 519 = .ok (.iconst 4, 1) := by decide +kernel
theorem dL_stacks_520 : decode cL_stacks 520 = .ok (.if_icmp .ne 63, 3) := by decide +kernel
theorem dL_stacks_523 : decode cL_stacks 523 = .ok (.aload_n 1, 1) := by decide +kernel
theorem dL_stacks_524 : decode cL_stacks 524 = .ok (.iconst 3, 1) := by decide +kernel
theorem dL_stacks_525 : decode cL_stacks 525 = .ok (.iconst 0, 1) := by decide +kernel
theorem dL_stacks_526 : decode cL_stacks 526 = .ok (.invokevirtual 29, 3) := by decide +kernel
theorem dL_stacks_529 : decode cL_stacks 529 = .ok (.ifCond .ne 54, 3) := by decide +kernel
theorem dL_stacks_532 : decode cL_stacks 532 = .ok (.aload_n 1, 1) := by decide +kernel
theorem dL_stacks_533 : decode cL_stacks 533 = .ok (.invokevirtual 61, 3) := by decide +kernel
theorem dL_stacks_536 : decode cL_stacks 536 = .ok (.iconst 3, 1) := by decide +kernel
theorem dL_stacks_537 : decode cL_stacks 537 = .ok (.if_icmp .ne 46, 3) := by decide +kernel
theorem dL_stacks_540 : decode cL_stacks 540 = .ok (.aload_n 1, 1) := by decide +kernel
theorem dL_stacks_541 : decode cL_stacks 541 = .ok (.iconst 0, 1) := by decide +kernel
theorem dL_stacks_542 : decode cL_stacks 542 = .ok (.invokevirtual 38, 3) := by decide +kernel
theorem dL_stacks_545 : decode cL_stacks 545 = .ok (.bipush 11, 2) := by decide +kernel
theorem dL_stacks_547 : decode cL_stacks 547 = .ok (.if_icmp .ne 36, 3) := by decide +kernel
theorem dL_stacks_550 : decode cL_stacks 550 = .ok (.aload_n 1, 1) := by decide +kernel
theorem dL_stacks_551 : decode cL_stacks 551 = .ok (.iconst 1, 1) := by decide +kernel
theorem dL_stacks_552 : decode cL_stacks 552 = .ok (.invokevirtual 38, 3) := by decide +kernel
theorem dL_stacks_555 : decode cL_stacks 555 = .ok (.bipush 9, 2) := by decide +kernel
theorem dL_stacks_557 : decode cL_stacks 557 = .ok (.if_icmp .ne 26, 3) := by decide +kernel
theorem dL_stacks_560 : decode cL_stacks 560 = .ok (.aload_n 1, 1) := by decide +kernel
theorem dL_stacks_561 : decode cL_stacks 561 = .ok (.iconst 2, 1) := by decide +kernel
theorem dL_stacks_562 : decode cL_stacks 562 = .ok (.invokevirtual 38, 3) := by decide +kernel
theorem dL_stacks_565 : decode cL_stacks 565 = .ok (.bipush 9, 2) := by decide +kernel
theorem dL_stacks_567 : decode cL_stacks 567 = .ok (.if_icmp .ne 16, 3) := by decide +kernel
theorem dL_stacks_570 : decode cL_stacks 570 = .ok (.aload_n 1, 1) := by decide +kernel
theorem dL_stacks_571 : decode cL_stacks 571 = .ok (.iconst 1, 1) := by decide +kernel
