theorem dL_turns_581 : decode cL_turns 581 = .ok (.if_icmp .eq 5, 3) := by decide +kernel
theorem dL_turns_584 : decode cL_turns 584 = .ok (.iconst 0, 1) := by decide +kernel
theorem dL_turns_585 : decode cL_turns 585 = .ok (.ireturn, 1) := by decide +kernel
theorem dL_turns_586 : decode cL_turns 586 = .ok (.aload_n 0, 1) := by decide +kernel
theorem dL_turns_587 : decode cL_turns 587 = .ok (.iconst 0, 1) := by decide +kernel
theorem dL_turns_588 : decode cL_turns 588 = .ok (.invokevirtual 23, 3) := by decide +kernel
theorem dL_turns_591 : decode cL_turns 591 = .ok (.iconst 2, 1) := by decide +kernel
theorem dL_turns_592 : decode cL_turns 592 = .ok (.if_icmp .ne 14, 3) := by decide +kernel
theorem dL_turns_595 : decode cL_turns 595 = .ok (.aload_n 0, 1) := by decide +kernel
theorem dL_turns_596 : decode cL_turns 596 = .ok (.invokestatic 87, 3) := by decide +kernel
theorem dL_turns_599 : decode cL_turns 599 = .ok (.ifCond .eq 7, 3) := by decide +kernel
theorem dL_turns_602 : decode cL_turns 602 = .ok (.iconst 1, 1) := by decide +kernel
theorem dL_turns_603 : decode cL_turns 603 = .ok (.goto 4, 3) := by decide +kernel
theorem dL_turns_606 : decode cL_turns 606 = .ok (.iconst 0, 1) := by decide +kernel
theorem dL_turns_607 : decode cL_turns 607 = .ok (.ireturn, 1) := by decide +kernel
theorem dL_layers_0 : decode cL_layers 0 = .ok (.new 8, 3) := by decide +kernel
theorem dL_layers_3 : decode cL_layers 3 = .ok (.dup, 1) := by decide +kernel
theorem dL_layers_4 : decode cL_layers 4 = .ok (.invokespecial 77, 3) := by decide +kernel
theorem dL_layers_7 : decode cL_layers 7 = .ok (.astore_n 0, 1) := by decide +kernel
theorem dL_layers_8 : decode cL_layers 8 = .ok (.aload_n 0, 1) := by decide +kernel
theorem dL_layers_9 : decode cL_layers 9 = .ok (.iconst 5, 1) := by decide +kernel
theorem dL_layers_10 : decode cL_layers 10 = .ok (.iconst 0, 1) := by decide +kernel
theorem dL_layers_11 : decode cL_layers 11 = .ok (.iconst 4, 1) := by decide +kernel
theorem dL_layers_12 : decode cL_layers 12 = .ok (.invokestatic 95, 3) := by decide +kernel
theorem dL_layers_15 : decode cL_layers 15 = .ok (.ifCond .eq 169, 3) := by decide +kernel
theorem dL_layers_18 : decode cL_layers 18 = .ok (.aload_n 0, 1) := by decide +kernel
theorem dL_layers_19 : decode cL_layers 19 = .ok (.iconst 1, 1) := by decide +kernel
theorem dL_layers_20 : decode cL_layers 20 = .ok (.iconst 0, 1) := by decide +kernel
theorem dL_layers_21 : decode cL_layers 21 = .ok (.iconst 1, 1) := by decide +kernel
theorem dL_layers_22 : decode cL_layers 22 = .ok (.invokestatic 95, 3) := by decide +kernel
theorem dL_layers_25 : decode cL_layers 25 = .ok (.ifCond .eq 159, 3) := by decide +kernel
theorem dL_layers_28 : decode cL_layers 28 = .ok (.aload_n 0, 1) := by decide +kernel
theorem dL_layers_29 : decode cL_layers 29 = .ok (.iconst 0, 1) := by decide +kernel
theorem dL_layers_30 : decode cL_layers 30 = .ok (.iconst 5, 1) := by decide +kernel
theorem dL_layers_31 : decode cL_layers 31 = .ok (.iconst 0, 1) := by decide +kernel
theorem dL_layers_32 : decode cL_layers 32 = .ok (.iconst 4, 1) := by decide +kernel
theorem dL_layers_33 : decode cL_layers 33 = .ok (.iconst 0, 1) := by decide +kernel
theorem dL_layers_34 : decode cL_layers 34 = .ok (.invokestatic 91, 3) := by decide +kernel
theorem dL_layers_37 : decode cL_layers 37 = .ok (.ifCond .eq 147, 3) := by decide +kernel
theorem dL_layers_40 : decode cL_layers 40 = .ok (.aload_n 0, 1) := by decide +kernel
theorem dL_layers_41 : decode cL_layers 41 = .ok (.iconst 1, 1) := by decide +kernel
theorem dL_layers_42 : decode cL_layers 42 = .ok (.iconst 1, 1) := by decide +kernel
theorem dL_layers_43 : decode cL_layers 43 = .ok (.iconst 0, 1) := by decide +kernel
theorem dL_layers_44 : decode cL_layers 44 = .ok (.iconst 2, 1) := by decide +kernel
theorem dL_layers_45 : decode cL_layers 45 = .ok (.iconst 1, 1) := by decide +kernel
theorem dL_layers_46 : decode cL_layers 46 = .ok (.invokestatic 91, 3) := by decide +kernel
theorem dL_layers_49 : decode cL_layers 49 = .ok (.ifCond .eq 135, 3) := by decide +kernel
theorem dL_layers_52 : decode cL_layers 52 = .ok (.aload_n 0, 1) := by decide +kernel
theorem dL_layers_53 : decode cL_layers 53 = .ok (.iconst 1, 1) := by decide +kernel
theorem dL_layers_54 : decode cL_layers 54 = .ok (.iconst 2, 1) := by decide +kernel
theorem dL_layers_55 : decode cL_layers 55 = .ok (.iconst 0, 1) := by decide +kernel
theorem dL_layers_56 : decode cL_layers 56 = .ok (.iconst 3, 1) := by decide +kernel
theorem dL_layers_57 : decode cL_layers 57 = .ok (.iconst 1, 1) := by decide +kernel
theorem dL_layers_58 : decode cL_layers 58 = .ok (.invokestatic 91, 3) := by decide +kernel
theorem dL_layers_61 : decode cL_layers 61 = .ok (.ifCond .eq 123, 3) := by decide +kernel
theorem dL_layers_64 : decode cL_layers 64 = .ok (.aload_n 0, 1) := by decide +kernel
theorem dL_layers_65 : decode cL_layers 65 = .ok (.iconst 0, 1) := by decide +kernel
theorem dL_layers_66 : decode cL_layers 66 = .ok (.invokevirtual 23, 3) := by decide +kernel
theorem dL_layers_69 : decode cL_layers 69 = .ok (.iconst 1, 1) := by decide +kernel
theorem dL_layers_70 : decode cL_layers 70 = .ok (.if_icmp .ne 114, 3) := by decide +kernel
theorem dL_layers_73 : decode cL_layers 73 = .ok (.aload_n 0, 1) := by decide +kernel
theorem dL_layers_74 : decode cL_layers 74 = .ok (.invokestatic 99, 3) := by decide +kernel
theorem dL_layers_77 : decode cL_layers 77 = .ok (.iconst 2, 1) := by decide +kernel
theorem dL_layers_78 : decode cL_layers 78 = .ok (.if_icmp .ne 106, 3) := by decide +kernel
theorem dL_layers_81 : decode cL_layers 81 = .ok (.aload_n 0, 1) := by decide +kernel
theorem dL_layers_82 : decode cL_layers 82 = .ok (.iconst 2, 1) := by decide +kernel
theorem dL_layers_83 : decode cL_layers 83 = .ok (.iconst 0, 1) := by decide +kernel
theorem dL_layers_84 : decode cL_layers 84 = .ok (.bipush 6, 2) := by decide +kernel
theorem dL_layers_86 : decode cL_layers 86 = .ok (.invokestatic 95, 3) := by decide +kernel
theorem dL_layers_89 : decode cL_layers 89 = .ok (.ifCond .eq 95, 3) := by decide +kernel
theorem dL_layers_92 : decode cL_layers 92 = .ok (.aload_n 0, 1) := by decide +kernel
theorem dL_layers_93 : decode cL_layers 93 = .ok (.iconst 1, 1) := by decide +kernel
theorem dL_layers_94 : decode cL_layers 94 = .ok (.iconst 5, 1) := by decide +kernel
theorem dL_layers_95 : decode cL_layers 95 = .ok (.iconst 0, 1) := by decide +kernel
theorem dL_layers_96 : decode cL_layers 96 = .ok (.iconst 3, 1) := by decide +kernel
