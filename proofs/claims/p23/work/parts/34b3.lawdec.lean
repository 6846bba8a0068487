theorem dL_layers_499 : decode cL_layers 499 = .ok (.iconst 0, 1) := by decide +kernel
theorem dL_layers_500 : decode cL_layers 500 = .ok (.ireturn, 1) := by decide +kernel
theorem dL_layers_501 : decode cL_layers 501 = .ok (.aload_n 0, 1) := by decide +kernel
theorem dL_layers_502 : decode cL_layers 502 = .ok (.invokestatic 99, 3) := by decide +kernel
theorem dL_layers_505 : decode cL_layers 505 = .ok (.iconst 2, 1) := by decide +kernel
theorem dL_layers_506 : decode cL_layers 506 = .ok (.if_icmp .ne 125, 3) := by decide +kernel
theorem dL_layers_509 : decode cL_layers 509 = .ok (.aload_n 0, 1) := by decide +kernel
theorem dL_layers_510 : decode cL_layers 510 = .ok (.invokevirtual 61, 3) := by decide +kernel
theorem dL_layers_513 : decode cL_layers 513 = .ok (.ifCond .ne 118, 3) := by decide +kernel
theorem dL_layers_516 : decode cL_layers 516 = .ok (.aload_n 0, 1) := by decide +kernel
theorem dL_layers_517 : decode cL_layers 517 = .ok (.invokestatic 99, 3) := by decide +kernel
theorem dL_layers_520 : decode cL_layers 520 = .ok (.iconst 2, 1) := by decide +kernel
theorem dL_layers_521 : decode cL_layers 521 = .ok (.if_icmp .ne 110, 3) := by decide +kernel
theorem dL_layers_524 : decode cL_layers 524 = .ok (.aload_n 0, 1) := by decide +kernel
theorem dL_layers_525 : decode cL_layers 525 = .ok (.invokevirtual 78, 3) := by decide +kernel
theorem dL_layers_528 : decode cL_layers 528 = .ok (.iconst 2, 1) := by decide +kernel
theorem dL_layers_529 : decode cL_layers 529 = .ok (.if_icmp .ne 102, 3) := by decide +kernel
theorem dL_layers_532 : decode cL_layers 532 = .ok (.aload_n 0, 1) := by decide +kernel
theorem dL_layers_533 : decode cL_layers 533 = .ok (.invokevirtual 61, 3) := by decide +kernel
theorem dL_layers_536 : decode cL_layers 536 = .ok (.iconst 1, 1) := by decide +kernel
theorem dL_layers_537 : decode cL_layers 537 = .ok (.if_icmp .ne 94, 3) := by decide +kernel
theorem dL_layers_540 : decode cL_layers 540 = .ok (.aload_n 0, 1) := by decide +kernel
theorem dL_layers_541 : decode cL_layers 541 = .ok (.iconst 0, 1) := by decide +kernel
theorem dL_layers_542 : decode cL_layers 542 = .ok (.invokevirtual 45, 3) := by decide +kernel
theorem dL_layers_545 : decode cL_layers 545 = .ok (.iconst 2, 1) := by decide +kernel
theorem dL_layers_546 : decode cL_layers 546 = .ok (.if_icmp .ne 85, 3) := by decide +kernel
theorem dL_layers_549 : decode cL_layers 549 = .ok (.aload_n 0, 1) := by decide +kernel
theorem dL_layers_550 : decode cL_layers 550 = .ok (.iconst 2, 1) := by decide +kernel
theorem dL_layers_551 : decode cL_layers 551 = .ok (.invokevirtual 20, 3) := by decide +kernel
theorem dL_layers_554 : decode cL_layers 554 = .ok (.iconst 3, 1) := by decide +kernel
theorem dL_layers_555 : decode cL_layers 555 = .ok (.if_icmp .ne 76, 3) := by decide +kernel
theorem dL_layers_558 : decode cL_layers 558 = .ok (.aload_n 0, 1) := by decide +kernel
theorem dL_layers_559 : decode cL_layers 559 = .ok (.bipush 9, 2) := by decide +kernel
theorem dL_layers_561 : decode cL_layers 561 = .ok (.invokevirtual 16, 3) := by decide +kernel
theorem dL_layers_564 : decode cL_layers 564 = .ok (.iconst 1, 1) := by decide +kernel
theorem dL_layers_565 : decode cL_layers 565 = .ok (.if_icmp .ne 66, 3) := by decide +kernel
theorem dL_layers_568 : decode cL_layers 568 = .ok (.aload_n 0, 1) := by decide +kernel
theorem dL_layers_569 : decode cL_layers 569 = .ok (.iconst 2, 1) := by decide +kernel
theorem dL_layers_570 : decode cL_layers 570 = .ok (.invokevirtual 20, 3) := by decide +kernel
theorem dL_layers_573 : decode cL_layers 573 = .ok (.iconst 5, 1) := by decide +kernel
theorem dL_layers_574 : decode cL_layers 574 = .ok (.if_icmp .ne 57, 3) := by decide +kernel
theorem dL_layers_577 : decode cL_layers 577 = .ok (.aload_n 0, 1) := by decide +kernel
theorem dL_layers_578 : decode cL_layers 578 = .ok (.bipush 12, 2) := by decide +kernel
theorem dL_layers_580 : decode cL_layers 580 = .ok (.iconst 4, 1) := by decide +kernel
theorem dL_layers_581 : decode cL_layers 581 = .ok (.invokevirtual 7, 3) := by decide +kernel
theorem dL_layers_584 : decode cL_layers 584 = .ok (.iconst 1, 1) := by decide +kernel
theorem dL_layers_585 : decode cL_layers 585 = .ok (.if_icmp .ne 46, 3) := by decide +kernel
theorem dL_layers_588 : decode cL_layers 588 = .ok (.aload_n 0, 1) := by decide +kernel
theorem dL_layers_589 : decode cL_layers 589 = .ok (.iconst 1, 1) := by decide +kernel
theorem dL_layers_590 : decode cL_layers 590 = .ok (.invokevirtual 16, 3) := by decide +kernel
theorem dL_layers_593 : decode cL_layers 593 = .ok (.iconst 1, 1) := by decide +kernel
theorem dL_layers_594 : decode cL_layers 594 = .ok (.if_icmp .ne 37, 3) := by decide +kernel
theorem dL_layers_597 : decode cL_layers 597 = .ok (.aload_n 0, 1) := by decide +kernel
theorem dL_layers_598 : decode cL_layers 598 = .ok (.invokevirtual 57, 3) := by decide +kernel
theorem dL_layers_601 : decode cL_layers 601 = .ok (.iconst 5, 1) := by decide +kernel
theorem dL_layers_602 : decode cL_layers 602 = .ok (.if_icmp .ne 29, 3) := by decide +kernel
theorem dL_layers_605 : decode cL_layers 605 = .ok (.aload_n 0, 1) := by decide +kernel
theorem dL_layers_606 : decode cL_layers 606 = .ok (.iconst 0, 1) := by decide +kernel
theorem dL_layers_607 : decode cL_layers 607 = .ok (.iconst 5, 1) := by decide +kernel
theorem dL_layers_608 : decode cL_layers 608 = .ok (.iconst 0, 1) := by decide +kernel
theorem dL_layers_609 : decode cL_layers 609 = .ok (.iconst 2, 1) := by decide +kernel
theorem dL_layers_610 : decode cL_layers 610 = .ok (.iconst 1, 1) := by decide +kernel
theorem dL_layers_611 : decode cL_layers 611 = .ok (.invokestatic 91, 3) := by decide +kernel
theorem dL_layers_614 : decode cL_layers 614 = .ok (.ifCond .eq 17, 3) := by decide +kernel
theorem dL_layers_617 : decode cL_layers 617 = .ok (.aload_n 0, 1) := by decide +kernel
theorem dL_layers_618 : decode cL_layers 618 = .ok (.iconst 4, 1) := by decide +kernel
theorem dL_layers_619 : decode cL_layers 619 = .ok (.invokevirtual 26, 3) := by decide +kernel
theorem dL_layers_622 : decode cL_layers 622 = .ok (.bipush 6, 2) := by decide +kernel
theorem dL_layers_624 : decode cL_layers 624 = .ok (.if_icmp .ne 7, 3) := by decide +kernel
theorem dL_layers_627 : decode cL_layers 627 = .ok (.iconst 1, 1) := by decide +kernel
theorem dL_layers_628 : decode cL_layers 628 = .ok (.goto 4, 3) := by decide +kernel
theorem dL_layers_631 : decode cL_layers 631 = .ok (.iconst 0, 1) := by decide +kernel
theorem dL_layers_632 : decode cL_layers 632 = .ok (.ireturn, 1) := by decide +kernel
theorem dL_stacks_0 : decode cL_stacks 0 = .ok (.new 8, 3) := by decide +kernel
theorem dL_stacks_3 : decode cL_stacks 3 = .ok (.dup, 1) := by decide +kernel
