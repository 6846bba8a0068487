theorem dL_stacks_572 : decode cL_stacks 572 = .ok (.invokevirtual 20, 3) := by decide +kernel
theorem dL_stacks_575 : decode cL_stacks 575 = .ok (.iconst 5, 1) := by decide +kernel
theorem dL_stacks_576 : decode cL_stacks 576 = .ok (.if_icmp .ne 7, 3) := by decide +kernel
theorem dL_stacks_579 : decode cL_stacks 579 = .ok (.iconst 1, 1) := by decide +kernel
theorem dL_stacks_580 : decode cL_stacks 580 = .ok (.goto 4, 3) := by decide +kernel
theorem dL_stacks_583 : decode cL_stacks 583 = .ok (.iconst 0, 1) := by decide +kernel
theorem dL_stacks_584 : decode cL_stacks 584 = .ok (.ireturn, 1) := by decide +kernel
theorem dL_loops_0 : decode cL_loops 0 = .ok (.new 8, 3) := by decide +kernel
theorem dL_loops_3 : decode cL_loops 3 = .ok (.dup, 1) := by decide +kernel
theorem dL_loops_4 : decode cL_loops 4 = .ok (.invokespecial 77, 3) := by decide +kernel
theorem dL_loops_7 : decode cL_loops 7 = .ok (.astore_n 0, 1) := by decide +kernel
theorem dL_loops_8 : decode cL_loops 8 = .ok (.aload_n 0, 1) := by decide +kernel
theorem dL_loops_9 : decode cL_loops 9 = .ok (.bipush 10, 2) := by decide +kernel
theorem dL_loops_11 : decode cL_loops 11 = .ok (.iconst 0, 1) := by decide +kernel
theorem dL_loops_12 : decode cL_loops 12 = .ok (.iconst 3, 1) := by decide +kernel
theorem dL_loops_13 : decode cL_loops 13 = .ok (.invokestatic 95, 3) := by decide +kernel
theorem dL_loops_16 : decode cL_loops 16 = .ok (.ifCond .eq 113, 3) := by decide +kernel
theorem dL_loops_19 : decode cL_loops 19 = .ok (.aload_n 0, 1) := by decide +kernel
theorem dL_loops_20 : decode cL_loops 20 = .ok (.bipush 11, 2) := by decide +kernel
theorem dL_loops_22 : decode cL_loops 22 = .ok (.iconst 0, 1) := by decide +kernel
theorem dL_loops_23 : decode cL_loops 23 = .ok (.iconst 0, 1) := by decide +kernel
theorem dL_loops_24 : decode cL_loops 24 = .ok (.invokestatic 95, 3) := by decide +kernel
theorem dL_loops_27 : decode cL_loops 27 = .ok (.ifCond .eq 102, 3) := by decide +kernel
theorem dL_loops_30 : decode cL_loops 30 = .ok (.aload_n 0, 1) := by decide +kernel
theorem dL_loops_31 : decode cL_loops 31 = .ok (.invokestatic 99, 3) := by decide +kernel
theorem dL_loops_34 : decode cL_loops 34 = .ok (.iconst 2, 1) := by decide +kernel
theorem dL_loops_35 : decode cL_loops 35 = .ok (.if_icmp .ne 94, 3) := by decide +kernel
theorem dL_loops_38 : decode cL_loops 38 = .ok (.aload_n 0, 1) := by decide +kernel
theorem dL_loops_39 : decode cL_loops 39 = .ok (.iconst 0, 1) := by decide +kernel
theorem dL_loops_40 : decode cL_loops 40 = .ok (.iconst 0, 1) := by decide +kernel
theorem dL_loops_41 : decode cL_loops 41 = .ok (.invokevirtual 7, 3) := by decide +kernel
theorem dL_loops_44 : decode cL_loops 44 = .ok (.iconst 1, 1) := by decide +kernel
theorem dL_loops_45 : decode cL_loops 45 = .ok (.if_icmp .ne 84, 3) := by decide +kernel
theorem dL_loops_48 : decode cL_loops 48 = .ok (.aload_n 0, 1) := by decide +kernel
theorem dL_loops_49 : decode cL_loops 49 = .ok (.iconst 3, 1) := by decide +kernel
theorem dL_loops_50 : decode cL_loops 50 = .ok (.invokevirtual 16, 3) := by decide +kernel
theorem dL_loops_53 : decode cL_loops 53 = .ok (.iconst 3, 1) := by decide +kernel
theorem dL_loops_54 : decode cL_loops 54 = .ok (.if_icmp .ne 75, 3) := by decide +kernel
theorem dL_loops_57 : decode cL_loops 57 = .ok (.aload_n 0, 1) := by decide +kernel
theorem dL_loops_58 : decode cL_loops 58 = .ok (.invokevirtual 57, 3) := by decide +kernel
theorem dL_loops_61 : decode cL_loops 61 = .ok (.iconst 3, 1) := by decide +kernel
theorem dL_loops_62 : decode cL_loops 62 = .ok (.if_icmp .ne 67, 3) := by decide +kernel
theorem dL_loops_65 : decode cL_loops 65 = .ok (.aload_n 0, 1) := by decide +kernel
theorem dL_loops_66 : decode cL_loops 66 = .ok (.invokevirtual 84, 3) := by decide +kernel
theorem dL_loops_69 : decode cL_loops 69 = .ok (.ifCond .ne 60, 3) := by decide +kernel
theorem dL_loops_72 : decode cL_loops 72 = .ok (.aload_n 0, 1) := by decide +kernel
theorem dL_loops_73 : decode cL_loops 73 = .ok (.invokevirtual 61, 3) := by decide +kernel
theorem dL_loops_76 : decode cL_loops 76 = .ok (.iconst 1, 1) := by decide +kernel
theorem dL_loops_77 : decode cL_loops 77 = .ok (.if_icmp .ne 52, 3) := by decide +kernel
theorem dL_loops_80 : decode cL_loops 80 = .ok (.aload_n 0, 1) := by decide +kernel
theorem dL_loops_81 : decode cL_loops 81 = .ok (.invokestatic 99, 3) := by decide +kernel
theorem dL_loops_84 : decode cL_loops 84 = .ok (.iconst 1, 1) := by decide +kernel
theorem dL_loops_85 : decode cL_loops 85 = .ok (.if_icmp .ne 44, 3) := by decide +kernel
theorem dL_loops_88 : decode cL_loops 88 = .ok (.aload_n 0, 1) := by decide +kernel
theorem dL_loops_89 : decode cL_loops 89 = .ok (.invokevirtual 84, 3) := by decide +kernel
theorem dL_loops_92 : decode cL_loops 92 = .ok (.iconst 1, 1) := by decide +kernel
theorem dL_loops_93 : decode cL_loops 93 = .ok (.if_icmp .ne 36, 3) := by decide +kernel
theorem dL_loops_96 : decode cL_loops 96 = .ok (.aload_n 0, 1) := by decide +kernel
theorem dL_loops_97 : decode cL_loops 97 = .ok (.invokevirtual 61, 3) := by decide +kernel
theorem dL_loops_100 : decode cL_loops 100 = .ok (.ifCond .ne 29, 3) := by decide +kernel
theorem dL_loops_103 : decode cL_loops 103 = .ok (.aload_n 0, 1) := by decide +kernel
theorem dL_loops_104 : decode cL_loops 104 = .ok (.invokevirtual 57, 3) := by decide +kernel
theorem dL_loops_107 : decode cL_loops 107 = .ok (.iconst 2, 1) := by decide +kernel
theorem dL_loops_108 : decode cL_loops 108 = .ok (.if_icmp .ne 21, 3) := by decide +kernel
theorem dL_loops_111 : decode cL_loops 111 = .ok (.aload_n 0, 1) := by decide +kernel
theorem dL_loops_112 : decode cL_loops 112 = .ok (.invokevirtual 64, 3) := by decide +kernel
theorem dL_loops_115 : decode cL_loops 115 = .ok (.iconst 1, 1) := by decide +kernel
theorem dL_loops_116 : decode cL_loops 116 = .ok (.if_icmp .ne 13, 3) := by decide +kernel
theorem dL_loops_119 : decode cL_loops 119 = .ok (.aload_n 0, 1) := by decide +kernel
theorem dL_loops_120 : decode cL_loops 120 = .ok (.iconst 1, 1) := by decide +kernel
theorem dL_loops_121 : decode cL_loops 121 = .ok (.invokevirtual 20, 3) := by decide +kernel
theorem dL_loops_124 : decode cL_loops 124 = .ok (.bipush 7, 2) := by decide +kernel
theorem dL_loops_126 : decode cL_loops 126 = .ok (.if_icmp .eq 5, 3) := by decide +kernel
theorem dL_loops_129 : decode cL_loops 129 = .ok (.iconst 0, 1) := by decide +kernel
theorem dL_loops_130 : decode cL_loops 130 = .ok (.ireturn, 1) := by decide +kernel
