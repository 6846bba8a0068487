theorem dL_turns_435 : decode cL_turns 435 = .ok (.iconst 2, 1) := by decide +kernel
theorem dL_turns_436 : decode cL_turns 436 = .ok (.if_icmp .ne 148, 3) := by decide +kernel
theorem dL_turns_439 : decode cL_turns 439 = .ok (.aload_n 0, 1) := by decide +kernel
theorem dL_turns_440 : decode cL_turns 440 = .ok (.iconst 2, 1) := by decide +kernel
theorem dL_turns_441 : decode cL_turns 441 = .ok (.invokevirtual 20, 3) := by decide +kernel
theorem dL_turns_444 : decode cL_turns 444 = .ok (.bipush 9, 2) := by decide +kernel
theorem dL_turns_446 : decode cL_turns 446 = .ok (.if_icmp .ne 138, 3) := by decide +kernel
theorem dL_turns_449 : decode cL_turns 449 = .ok (.aload_n 0, 1) := by decide +kernel
theorem dL_turns_450 : decode cL_turns 450 = .ok (.invokevirtual 74, 3) := by decide +kernel
theorem dL_turns_453 : decode cL_turns 453 = .ok (.ifCond .ne 131, 3) := by decide +kernel
theorem dL_turns_456 : decode cL_turns 456 = .ok (.aload_n 0, 1) := by decide +kernel
theorem dL_turns_457 : decode cL_turns 457 = .ok (.iconst 5, 1) := by decide +kernel
theorem dL_turns_458 : decode cL_turns 458 = .ok (.invokevirtual 16, 3) := by decide +kernel
theorem dL_turns_461 : decode cL_turns 461 = .ok (.ifCond .ne 123, 3) := by decide +kernel
theorem dL_turns_464 : decode cL_turns 464 = .ok (.aload_n 0, 1) := by decide +kernel
theorem dL_turns_465 : decode cL_turns 465 = .ok (.invokevirtual 74, 3) := by decide +kernel
theorem dL_turns_468 : decode cL_turns 468 = .ok (.ifCond .ne 116, 3) := by decide +kernel
theorem dL_turns_471 : decode cL_turns 471 = .ok (.aload_n 0, 1) := by decide +kernel
theorem dL_turns_472 : decode cL_turns 472 = .ok (.invokevirtual 74, 3) := by decide +kernel
theorem dL_turns_475 : decode cL_turns 475 = .ok (.iconst 2, 1) := by decide +kernel
theorem dL_turns_476 : decode cL_turns 476 = .ok (.if_icmp .ne 108, 3) := by decide +kernel
theorem dL_turns_479 : decode cL_turns 479 = .ok (.aload_n 0, 1) := by decide +kernel
theorem dL_turns_480 : decode cL_turns 480 = .ok (.invokevirtual 78, 3) := by decide +kernel
theorem dL_turns_483 : decode cL_turns 483 = .ok (.ifCond .ne 101, 3) := by decide +kernel
theorem dL_turns_486 : decode cL_turns 486 = .ok (.aload_n 0, 1) := by decide +kernel
theorem dL_turns_487 : decode cL_turns 487 = .ok (.iconst 0, 1) := by decide +kernel
theorem dL_turns_488 : decode cL_turns 488 = .ok (.invokevirtual 20, 3) := by decide +kernel
theorem dL_turns_491 : decode cL_turns 491 = .ok (.iconst 4, 1) := by decide +kernel
theorem dL_turns_492 : decode cL_turns 492 = .ok (.if_icmp .ne 92, 3) := by decide +kernel
theorem dL_turns_495 : decode cL_turns 495 = .ok (.aload_n 0, 1) := by decide +kernel
theorem dL_turns_496 : decode cL_turns 496 = .ok (.invokevirtual 61, 3) := by decide +kernel
theorem dL_turns_499 : decode cL_turns 499 = .ok (.iconst 1, 1) := by decide +kernel
theorem dL_turns_500 : decode cL_turns 500 = .ok (.if_icmp .ne 84, 3) := by decide +kernel
theorem dL_turns_503 : decode cL_turns 503 = .ok (.aload_n 0, 1) := by decide +kernel
theorem dL_turns_504 : decode cL_turns 504 = .ok (.iconst 0, 1) := by decide +kernel
theorem dL_turns_505 : decode cL_turns 505 = .ok (.invokevirtual 38, 3) := by decide +kernel
theorem dL_turns_508 : decode cL_turns 508 = .ok (.iconst 1, 1) := by decide +kernel
theorem dL_turns_509 : decode cL_turns 509 = .ok (.if_icmp .ne 75, 3) := by decide +kernel
theorem dL_turns_512 : decode cL_turns 512 = .ok (.aload_n 0, 1) := by decide +kernel
theorem dL_turns_513 : decode cL_turns 513 = .ok (.iconst 0, 1) := by decide +kernel
theorem dL_turns_514 : decode cL_turns 514 = .ok (.invokevirtual 41, 3) := by decide +kernel
theorem dL_turns_517 : decode cL_turns 517 = .ok (.ifCond .eq 67, 3) := by decide +kernel
theorem dL_turns_520 : decode cL_turns 520 = .ok (.aload_n 0, 1) := by decide +kernel
theorem dL_turns_521 : decode cL_turns 521 = .ok (.iconst 0, 1) := by decide +kernel
theorem dL_turns_522 : decode cL_turns 522 = .ok (.invokevirtual 45, 3) := by decide +kernel
theorem dL_turns_525 : decode cL_turns 525 = .ok (.ifCond .ne 59, 3) := by decide +kernel
theorem dL_turns_528 : decode cL_turns 528 = .ok (.aload_n 0, 1) := by decide +kernel
theorem dL_turns_529 : decode cL_turns 529 = .ok (.iconst 0, 1) := by decide +kernel
theorem dL_turns_530 : decode cL_turns 530 = .ok (.invokevirtual 48, 3) := by decide +kernel
theorem dL_turns_533 : decode cL_turns 533 = .ok (.iconst (-1), 1) := by decide +kernel
theorem dL_turns_534 : decode cL_turns 534 = .ok (.if_icmp .ne 50, 3) := by decide +kernel
theorem dL_turns_537 : decode cL_turns 537 = .ok (.aload_n 0, 1) := by decide +kernel
theorem dL_turns_538 : decode cL_turns 538 = .ok (.bipush 13, 2) := by decide +kernel
theorem dL_turns_540 : decode cL_turns 540 = .ok (.iconst 0, 1) := by decide +kernel
theorem dL_turns_541 : decode cL_turns 541 = .ok (.invokevirtual 13, 3) := by decide +kernel
theorem dL_turns_544 : decode cL_turns 544 = .ok (.iconst 3, 1) := by decide +kernel
theorem dL_turns_545 : decode cL_turns 545 = .ok (.if_icmp .ne 39, 3) := by decide +kernel
theorem dL_turns_548 : decode cL_turns 548 = .ok (.aload_n 0, 1) := by decide +kernel
theorem dL_turns_549 : decode cL_turns 549 = .ok (.iconst 0, 1) := by decide +kernel
theorem dL_turns_550 : decode cL_turns 550 = .ok (.iconst 0, 1) := by decide +kernel
theorem dL_turns_551 : decode cL_turns 551 = .ok (.invokevirtual 13, 3) := by decide +kernel
theorem dL_turns_554 : decode cL_turns 554 = .ok (.iconst 1, 1) := by decide +kernel
theorem dL_turns_555 : decode cL_turns 555 = .ok (.if_icmp .ne 29, 3) := by decide +kernel
theorem dL_turns_558 : decode cL_turns 558 = .ok (.aload_n 0, 1) := by decide +kernel
theorem dL_turns_559 : decode cL_turns 559 = .ok (.invokestatic 99, 3) := by decide +kernel
theorem dL_turns_562 : decode cL_turns 562 = .ok (.iconst 1, 1) := by decide +kernel
theorem dL_turns_563 : decode cL_turns 563 = .ok (.if_icmp .ne 21, 3) := by decide +kernel
theorem dL_turns_566 : decode cL_turns 566 = .ok (.aload_n 0, 1) := by decide +kernel
theorem dL_turns_567 : decode cL_turns 567 = .ok (.iconst 0, 1) := by decide +kernel
theorem dL_turns_568 : decode cL_turns 568 = .ok (.invokevirtual 20, 3) := by decide +kernel
theorem dL_turns_571 : decode cL_turns 571 = .ok (.bipush 6, 2) := by decide +kernel
theorem dL_turns_573 : decode cL_turns 573 = .ok (.if_icmp .ne 11, 3) := by decide +kernel
theorem dL_turns_576 : decode cL_turns 576 = .ok (.aload_n 0, 1) := by decide +kernel
theorem dL_turns_577 : decode cL_turns 577 = .ok (.invokevirtual 81, 3) := by decide +kernel
theorem dL_turns_580 : decode cL_turns 580 = .ok (.iconst 3, 1) := by decide +kernel
