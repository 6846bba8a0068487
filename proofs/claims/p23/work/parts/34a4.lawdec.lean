theorem dL_refuses_390 : decode cL_refuses 390 = .ok (.aload_n 0, 1) := by decide +kernel
theorem dL_refuses_391 : decode cL_refuses 391 = .ok (.invokevirtual 57, 3) := by decide +kernel
theorem dL_refuses_394 : decode cL_refuses 394 = .ok (.iload_n 1, 1) := by decide +kernel
theorem dL_refuses_395 : decode cL_refuses 395 = .ok (.if_icmp .ne 23, 3) := by decide +kernel
theorem dL_refuses_398 : decode cL_refuses 398 = .ok (.aload_n 0, 1) := by decide +kernel
theorem dL_refuses_399 : decode cL_refuses 399 = .ok (.invokevirtual 61, 3) := by decide +kernel
theorem dL_refuses_402 : decode cL_refuses 402 = .ok (.iload_n 2, 1) := by decide +kernel
theorem dL_refuses_403 : decode cL_refuses 403 = .ok (.if_icmp .ne 15, 3) := by decide +kernel
theorem dL_refuses_406 : decode cL_refuses 406 = .ok (.aload_n 0, 1) := by decide +kernel
theorem dL_refuses_407 : decode cL_refuses 407 = .ok (.invokevirtual 64, 3) := by decide +kernel
theorem dL_refuses_410 : decode cL_refuses 410 = .ok (.iload_n 3, 1) := by decide +kernel
theorem dL_refuses_411 : decode cL_refuses 411 = .ok (.if_icmp .ne 7, 3) := by decide +kernel
theorem dL_refuses_414 : decode cL_refuses 414 = .ok (.iconst 1, 1) := by decide +kernel
theorem dL_refuses_415 : decode cL_refuses 415 = .ok (.goto 4, 3) := by decide +kernel
theorem dL_refuses_418 : decode cL_refuses 418 = .ok (.iconst 0, 1) := by decide +kernel
theorem dL_refuses_419 : decode cL_refuses 419 = .ok (.ireturn, 1) := by decide +kernel
theorem dL_round_0 : decode cL_round 0 = .ok (.aload_n 0, 1) := by decide +kernel
theorem dL_round_1 : decode cL_round 1 = .ok (.invokevirtual 74, 3) := by decide +kernel
theorem dL_round_4 : decode cL_round 4 = .ok (.ifCond .ne 10, 3) := by decide +kernel
theorem dL_round_7 : decode cL_round 7 = .ok (.aload_n 0, 1) := by decide +kernel
theorem dL_round_8 : decode cL_round 8 = .ok (.invokevirtual 74, 3) := by decide +kernel
theorem dL_round_11 : decode cL_round 11 = .ok (.ifCond .eq 7, 3) := by decide +kernel
theorem dL_round_14 : decode cL_round 14 = .ok (.iconst (-1), 1) := by decide +kernel
theorem dL_round_15 : decode cL_round 15 = .ok (.goto 7, 3) := by decide +kernel
theorem dL_round_18 : decode cL_round 18 = .ok (.aload_n 0, 1) := by decide +kernel
theorem dL_round_19 : decode cL_round 19 = .ok (.invokevirtual 74, 3) := by decide +kernel
theorem dL_round_22 : decode cL_round 22 = .ok (.ireturn, 1) := by decide +kernel
theorem dL_lay_0 : decode cL_lay 0 = .ok (.aload_n 0, 1) := by decide +kernel
theorem dL_lay_1 : decode cL_lay 1 = .ok (.invokevirtual 64, 3) := by decide +kernel
theorem dL_lay_4 : decode cL_lay 4 = .ok (.istore 4, 2) := by decide +kernel
theorem dL_lay_6 : decode cL_lay 6 = .ok (.aload_n 0, 1) := by decide +kernel
theorem dL_lay_7 : decode cL_lay 7 = .ok (.iconst 0, 1) := by decide +kernel
theorem dL_lay_8 : decode cL_lay 8 = .ok (.iload_n 1, 1) := by decide +kernel
theorem dL_lay_9 : decode cL_lay 9 = .ok (.iload_n 2, 1) := by decide +kernel
theorem dL_lay_10 : decode cL_lay 10 = .ok (.invokestatic 68, 3) := by decide +kernel
theorem dL_lay_13 : decode cL_lay 13 = .ok (.iconst 1, 1) := by decide +kernel
theorem dL_lay_14 : decode cL_lay 14 = .ok (.if_icmp .ne 26, 3) := by decide +kernel
theorem dL_lay_17 : decode cL_lay 17 = .ok (.aload_n 0, 1) := by decide +kernel
theorem dL_lay_18 : decode cL_lay 18 = .ok (.iload 4, 2) := by decide +kernel
theorem dL_lay_20 : decode cL_lay 20 = .ok (.invokevirtual 20, 3) := by decide +kernel
theorem dL_lay_23 : decode cL_lay 23 = .ok (.iload_n 3, 1) := by decide +kernel
theorem dL_lay_24 : decode cL_lay 24 = .ok (.if_icmp .ne 16, 3) := by decide +kernel
theorem dL_lay_27 : decode cL_lay 27 = .ok (.aload_n 0, 1) := by decide +kernel
theorem dL_lay_28 : decode cL_lay 28 = .ok (.iconst 1, 1) := by decide +kernel
theorem dL_lay_29 : decode cL_lay 29 = .ok (.invokevirtual 16, 3) := by decide +kernel
theorem dL_lay_32 : decode cL_lay 32 = .ok (.iconst 1, 1) := by decide +kernel
theorem dL_lay_33 : decode cL_lay 33 = .ok (.if_icmp .ne 7, 3) := by decide +kernel
theorem dL_lay_36 : decode cL_lay 36 = .ok (.iconst 1, 1) := by decide +kernel
theorem dL_lay_37 : decode cL_lay 37 = .ok (.goto 4, 3) := by decide +kernel
theorem dL_lay_40 : decode cL_lay 40 = .ok (.iconst 0, 1) := by decide +kernel
theorem dL_lay_41 : decode cL_lay 41 = .ok (.ireturn, 1) := by decide +kernel
theorem dL_is_0 : decode cL_is 0 = .ok (.aload_n 0, 1) := by decide +kernel
theorem dL_is_1 : decode cL_is 1 = .ok (.iload_n 1, 1) := by decide +kernel
theorem dL_is_2 : decode cL_is 2 = .ok (.iload_n 2, 1) := by decide +kernel
theorem dL_is_3 : decode cL_is 3 = .ok (.invokevirtual 29, 3) := by decide +kernel
theorem dL_is_6 : decode cL_is 6 = .ok (.iload_n 3, 1) := by decide +kernel
theorem dL_is_7 : decode cL_is 7 = .ok (.if_icmp .ne 29, 3) := by decide +kernel
theorem dL_is_10 : decode cL_is 10 = .ok (.aload_n 0, 1) := by decide +kernel
theorem dL_is_11 : decode cL_is 11 = .ok (.iload_n 1, 1) := by decide +kernel
theorem dL_is_12 : decode cL_is 12 = .ok (.iload_n 2, 1) := by decide +kernel
theorem dL_is_13 : decode cL_is 13 = .ok (.invokevirtual 32, 3) := by decide +kernel
theorem dL_is_16 : decode cL_is 16 = .ok (.iload 4, 2) := by decide +kernel
theorem dL_is_18 : decode cL_is 18 = .ok (.if_icmp .ne 18, 3) := by decide +kernel
theorem dL_is_21 : decode cL_is 21 = .ok (.aload_n 0, 1) := by decide +kernel
theorem dL_is_22 : decode cL_is 22 = .ok (.iload_n 1, 1) := by decide +kernel
theorem dL_is_23 : decode cL_is 23 = .ok (.iload_n 2, 1) := by decide +kernel
theorem dL_is_24 : decode cL_is 24 = .ok (.invokevirtual 35, 3) := by decide +kernel
theorem dL_is_27 : decode cL_is 27 = .ok (.iload 5, 2) := by decide +kernel
theorem dL_is_29 : decode cL_is 29 = .ok (.if_icmp .ne 7, 3) := by decide +kernel
theorem dL_is_32 : decode cL_is 32 = .ok (.iconst 1, 1) := by decide +kernel
theorem dL_is_33 : decode cL_is 33 = .ok (.goto 4, 3) := by decide +kernel
theorem dL_is_36 : decode cL_is 36 = .ok (.iconst 0, 1) := by decide +kernel
theorem dL_is_37 : decode cL_is 37 = .ok (.ireturn, 1) := by decide +kernel
theorem dL_turns_0 : decode cL_turns 0 = .ok (.new 8, 3) := by decide +kernel
theorem dL_turns_3 : decode cL_turns 3 = .ok (.dup, 1) := by decide +kernel
