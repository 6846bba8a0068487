theorem dL_stacks_4 : decode cL_stacks 4 = .ok (.invokespecial 77, 3) := by decide +kernel
theorem dL_stacks_7 : decode cL_stacks 7 = .ok (.astore_n 0, 1) := by decide +kernel
theorem dL_stacks_8 : decode cL_stacks 8 = .ok (.aload_n 0, 1) := by decide +kernel
theorem dL_stacks_9 : decode cL_stacks 9 = .ok (.iconst 0, 1) := by decide +kernel
theorem dL_stacks_10 : decode cL_stacks 10 = .ok (.iconst 0, 1) := by decide +kernel
theorem dL_stacks_11 : decode cL_stacks 11 = .ok (.invokevirtual 7, 3) := by decide +kernel
theorem dL_stacks_14 : decode cL_stacks 14 = .ok (.iconst 1, 1) := by decide +kernel
theorem dL_stacks_15 : decode cL_stacks 15 = .ok (.if_icmp .ne 129, 3) := by decide +kernel
theorem dL_stacks_18 : decode cL_stacks 18 = .ok (.aload_n 0, 1) := by decide +kernel
theorem dL_stacks_19 : decode cL_stacks 19 = .ok (.bipush 13, 2) := by decide +kernel
theorem dL_stacks_21 : decode cL_stacks 21 = .ok (.iconst 0, 1) := by decide +kernel
theorem dL_stacks_22 : decode cL_stacks 22 = .ok (.invokevirtual 7, 3) := by decide +kernel
theorem dL_stacks_25 : decode cL_stacks 25 = .ok (.iconst 2, 1) := by decide +kernel
theorem dL_stacks_26 : decode cL_stacks 26 = .ok (.if_icmp .ne 118, 3) := by decide +kernel
theorem dL_stacks_29 : decode cL_stacks 29 = .ok (.aload_n 0, 1) := by decide +kernel
theorem dL_stacks_30 : decode cL_stacks 30 = .ok (.iconst 0, 1) := by decide +kernel
theorem dL_stacks_31 : decode cL_stacks 31 = .ok (.invokevirtual 48, 3) := by decide +kernel
theorem dL_stacks_34 : decode cL_stacks 34 = .ok (.iconst 1, 1) := by decide +kernel
theorem dL_stacks_35 : decode cL_stacks 35 = .ok (.if_icmp .ne 109, 3) := by decide +kernel
theorem dL_stacks_38 : decode cL_stacks 38 = .ok (.aload_n 0, 1) := by decide +kernel
theorem dL_stacks_39 : decode cL_stacks 39 = .ok (.bipush 13, 2) := by decide +kernel
theorem dL_stacks_41 : decode cL_stacks 41 = .ok (.iconst 0, 1) := by decide +kernel
theorem dL_stacks_42 : decode cL_stacks 42 = .ok (.invokevirtual 7, 3) := by decide +kernel
theorem dL_stacks_45 : decode cL_stacks 45 = .ok (.iconst 3, 1) := by decide +kernel
theorem dL_stacks_46 : decode cL_stacks 46 = .ok (.if_icmp .ne 98, 3) := by decide +kernel
theorem dL_stacks_49 : decode cL_stacks 49 = .ok (.aload_n 0, 1) := by decide +kernel
theorem dL_stacks_50 : decode cL_stacks 50 = .ok (.iconst 0, 1) := by decide +kernel
theorem dL_stacks_51 : decode cL_stacks 51 = .ok (.invokevirtual 48, 3) := by decide +kernel
theorem dL_stacks_54 : decode cL_stacks 54 = .ok (.iconst 1, 1) := by decide +kernel
theorem dL_stacks_55 : decode cL_stacks 55 = .ok (.if_icmp .ne 89, 3) := by decide +kernel
theorem dL_stacks_58 : decode cL_stacks 58 = .ok (.aload_n 0, 1) := by decide +kernel
theorem dL_stacks_59 : decode cL_stacks 59 = .ok (.iconst 1, 1) := by decide +kernel
theorem dL_stacks_60 : decode cL_stacks 60 = .ok (.invokevirtual 48, 3) := by decide +kernel
theorem dL_stacks_63 : decode cL_stacks 63 = .ok (.iconst 2, 1) := by decide +kernel
theorem dL_stacks_64 : decode cL_stacks 64 = .ok (.if_icmp .ne 80, 3) := by decide +kernel
theorem dL_stacks_67 : decode cL_stacks 67 = .ok (.aload_n 0, 1) := by decide +kernel
theorem dL_stacks_68 : decode cL_stacks 68 = .ok (.iconst 2, 1) := by decide +kernel
theorem dL_stacks_69 : decode cL_stacks 69 = .ok (.invokevirtual 48, 3) := by decide +kernel
theorem dL_stacks_72 : decode cL_stacks 72 = .ok (.iconst (-1), 1) := by decide +kernel
theorem dL_stacks_73 : decode cL_stacks 73 = .ok (.if_icmp .ne 71, 3) := by decide +kernel
theorem dL_stacks_76 : decode cL_stacks 76 = .ok (.aload_n 0, 1) := by decide +kernel
theorem dL_stacks_77 : decode cL_stacks 77 = .ok (.invokevirtual 64, 3) := by decide +kernel
theorem dL_stacks_80 : decode cL_stacks 80 = .ok (.ifCond .ne 64, 3) := by decide +kernel
theorem dL_stacks_83 : decode cL_stacks 83 = .ok (.aload_n 0, 1) := by decide +kernel
theorem dL_stacks_84 : decode cL_stacks 84 = .ok (.iconst 1, 1) := by decide +kernel
theorem dL_stacks_85 : decode cL_stacks 85 = .ok (.invokevirtual 16, 3) := by decide +kernel
theorem dL_stacks_88 : decode cL_stacks 88 = .ok (.iconst 1, 1) := by decide +kernel
theorem dL_stacks_89 : decode cL_stacks 89 = .ok (.if_icmp .ne 55, 3) := by decide +kernel
theorem dL_stacks_92 : decode cL_stacks 92 = .ok (.aload_n 0, 1) := by decide +kernel
theorem dL_stacks_93 : decode cL_stacks 93 = .ok (.invokevirtual 61, 3) := by decide +kernel
theorem dL_stacks_96 : decode cL_stacks 96 = .ok (.iconst 1, 1) := by decide +kernel
theorem dL_stacks_97 : decode cL_stacks 97 = .ok (.if_icmp .ne 47, 3) := by decide +kernel
theorem dL_stacks_100 : decode cL_stacks 100 = .ok (.aload_n 0, 1) := by decide +kernel
theorem dL_stacks_101 : decode cL_stacks 101 = .ok (.iconst 0, 1) := by decide +kernel
theorem dL_stacks_102 : decode cL_stacks 102 = .ok (.invokevirtual 38, 3) := by decide +kernel
theorem dL_stacks_105 : decode cL_stacks 105 = .ok (.ifCond .ne 39, 3) := by decide +kernel
theorem dL_stacks_108 : decode cL_stacks 108 = .ok (.aload_n 0, 1) := by decide +kernel
theorem dL_stacks_109 : decode cL_stacks 109 = .ok (.bipush 60, 2) := by decide +kernel
theorem dL_stacks_111 : decode cL_stacks 111 = .ok (.invokevirtual 16, 3) := by decide +kernel
theorem dL_stacks_114 : decode cL_stacks 114 = .ok (.iconst 1, 1) := by decide +kernel
theorem dL_stacks_115 : decode cL_stacks 115 = .ok (.if_icmp .ne 29, 3) := by decide +kernel
theorem dL_stacks_118 : decode cL_stacks 118 = .ok (.aload_n 0, 1) := by decide +kernel
theorem dL_stacks_119 : decode cL_stacks 119 = .ok (.invokevirtual 57, 3) := by decide +kernel
theorem dL_stacks_122 : decode cL_stacks 122 = .ok (.iconst 1, 1) := by decide +kernel
theorem dL_stacks_123 : decode cL_stacks 123 = .ok (.if_icmp .ne 21, 3) := by decide +kernel
theorem dL_stacks_126 : decode cL_stacks 126 = .ok (.aload_n 0, 1) := by decide +kernel
theorem dL_stacks_127 : decode cL_stacks 127 = .ok (.iconst 1, 1) := by decide +kernel
theorem dL_stacks_128 : decode cL_stacks 128 = .ok (.invokevirtual 20, 3) := by decide +kernel
theorem dL_stacks_131 : decode cL_stacks 131 = .ok (.iconst 5, 1) := by decide +kernel
theorem dL_stacks_132 : decode cL_stacks 132 = .ok (.if_icmp .ne 12, 3) := by decide +kernel
theorem dL_stacks_135 : decode cL_stacks 135 = .ok (.aload_n 0, 1) := by decide +kernel
theorem dL_stacks_136 : decode cL_stacks 136 = .ok (.iconst 2, 1) := by decide +kernel
theorem dL_stacks_137 : decode cL_stacks 137 = .ok (.invokevirtual 20, 3) := by decide +kernel
theorem dL_stacks_140 : decode cL_stacks 140 = .ok (.iconst 5, 1) := by decide +kernel
theorem dL_stacks_141 : decode cL_stacks 141 = .ok (.if_icmp .eq 5, 3) := by decide +kernel
