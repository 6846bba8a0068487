theorem dL_turns_4 : decode cL_turns 4 = .ok (.invokespecial 77, 3) := by decide +kernel
theorem dL_turns_7 : decode cL_turns 7 = .ok (.astore_n 0, 1) := by decide +kernel
theorem dL_turns_8 : decode cL_turns 8 = .ok (.aload_n 0, 1) := by decide +kernel
theorem dL_turns_9 : decode cL_turns 9 = .ok (.invokevirtual 78, 3) := by decide +kernel
theorem dL_turns_12 : decode cL_turns 12 = .ok (.ifCond .ne 174, 3) := by decide +kernel
theorem dL_turns_15 : decode cL_turns 15 = .ok (.aload_n 0, 1) := by decide +kernel
theorem dL_turns_16 : decode cL_turns 16 = .ok (.invokevirtual 64, 3) := by decide +kernel
theorem dL_turns_19 : decode cL_turns 19 = .ok (.ifCond .ne 167, 3) := by decide +kernel
theorem dL_turns_22 : decode cL_turns 22 = .ok (.aload_n 0, 1) := by decide +kernel
theorem dL_turns_23 : decode cL_turns 23 = .ok (.invokevirtual 81, 3) := by decide +kernel
theorem dL_turns_26 : decode cL_turns 26 = .ok (.ifCond .ne 160, 3) := by decide +kernel
theorem dL_turns_29 : decode cL_turns 29 = .ok (.aload_n 0, 1) := by decide +kernel
theorem dL_turns_30 : decode cL_turns 30 = .ok (.invokevirtual 84, 3) := by decide +kernel
theorem dL_turns_33 : decode cL_turns 33 = .ok (.ifCond .ne 153, 3) := by decide +kernel
theorem dL_turns_36 : decode cL_turns 36 = .ok (.aload_n 0, 1) := by decide +kernel
theorem dL_turns_37 : decode cL_turns 37 = .ok (.iconst 0, 1) := by decide +kernel
theorem dL_turns_38 : decode cL_turns 38 = .ok (.invokevirtual 20, 3) := by decide +kernel
theorem dL_turns_41 : decode cL_turns 41 = .ok (.bipush 6, 2) := by decide +kernel
theorem dL_turns_43 : decode cL_turns 43 = .ok (.if_icmp .ne 143, 3) := by decide +kernel
theorem dL_turns_46 : decode cL_turns 46 = .ok (.aload_n 0, 1) := by decide +kernel
theorem dL_turns_47 : decode cL_turns 47 = .ok (.iconst 2, 1) := by decide +kernel
theorem dL_turns_48 : decode cL_turns 48 = .ok (.invokevirtual 20, 3) := by decide +kernel
theorem dL_turns_51 : decode cL_turns 51 = .ok (.bipush 6, 2) := by decide +kernel
theorem dL_turns_53 : decode cL_turns 53 = .ok (.if_icmp .ne 133, 3) := by decide +kernel
theorem dL_turns_56 : decode cL_turns 56 = .ok (.aload_n 0, 1) := by decide +kernel
theorem dL_turns_57 : decode cL_turns 57 = .ok (.invokevirtual 57, 3) := by decide +kernel
theorem dL_turns_60 : decode cL_turns 60 = .ok (.ifCond .ne 126, 3) := by decide +kernel
theorem dL_turns_63 : decode cL_turns 63 = .ok (.aload_n 0, 1) := by decide +kernel
theorem dL_turns_64 : decode cL_turns 64 = .ok (.invokevirtual 61, 3) := by decide +kernel
theorem dL_turns_67 : decode cL_turns 67 = .ok (.ifCond .ne 119, 3) := by decide +kernel
theorem dL_turns_70 : decode cL_turns 70 = .ok (.aload_n 0, 1) := by decide +kernel
theorem dL_turns_71 : decode cL_turns 71 = .ok (.bipush 60, 2) := by decide +kernel
theorem dL_turns_73 : decode cL_turns 73 = .ok (.invokevirtual 16, 3) := by decide +kernel
theorem dL_turns_76 : decode cL_turns 76 = .ok (.ifCond .ne 110, 3) := by decide +kernel
theorem dL_turns_79 : decode cL_turns 79 = .ok (.aload_n 0, 1) := by decide +kernel
theorem dL_turns_80 : decode cL_turns 80 = .ok (.invokestatic 87, 3) := by decide +kernel
theorem dL_turns_83 : decode cL_turns 83 = .ok (.ifCond .eq 103, 3) := by decide +kernel
theorem dL_turns_86 : decode cL_turns 86 = .ok (.aload_n 0, 1) := by decide +kernel
theorem dL_turns_87 : decode cL_turns 87 = .ok (.bipush 7, 2) := by decide +kernel
theorem dL_turns_89 : decode cL_turns 89 = .ok (.iconst 0, 1) := by decide +kernel
theorem dL_turns_90 : decode cL_turns 90 = .ok (.invokevirtual 13, 3) := by decide +kernel
theorem dL_turns_93 : decode cL_turns 93 = .ok (.iconst 3, 1) := by decide +kernel
theorem dL_turns_94 : decode cL_turns 94 = .ok (.if_icmp .ne 92, 3) := by decide +kernel
theorem dL_turns_97 : decode cL_turns 97 = .ok (.aload_n 0, 1) := by decide +kernel
theorem dL_turns_98 : decode cL_turns 98 = .ok (.bipush 13, 2) := by decide +kernel
theorem dL_turns_100 : decode cL_turns 100 = .ok (.iconst 0, 1) := by decide +kernel
theorem dL_turns_101 : decode cL_turns 101 = .ok (.invokevirtual 13, 3) := by decide +kernel
theorem dL_turns_104 : decode cL_turns 104 = .ok (.iconst 3, 1) := by decide +kernel
theorem dL_turns_105 : decode cL_turns 105 = .ok (.if_icmp .ne 81, 3) := by decide +kernel
theorem dL_turns_108 : decode cL_turns 108 = .ok (.aload_n 0, 1) := by decide +kernel
theorem dL_turns_109 : decode cL_turns 109 = .ok (.iconst 0, 1) := by decide +kernel
theorem dL_turns_110 : decode cL_turns 110 = .ok (.bipush 99, 2) := by decide +kernel
theorem dL_turns_112 : decode cL_turns 112 = .ok (.invokevirtual 7, 3) := by decide +kernel
theorem dL_turns_115 : decode cL_turns 115 = .ok (.iconst 1, 1) := by decide +kernel
theorem dL_turns_116 : decode cL_turns 116 = .ok (.if_icmp .ne 70, 3) := by decide +kernel
theorem dL_turns_119 : decode cL_turns 119 = .ok (.aload_n 0, 1) := by decide +kernel
theorem dL_turns_120 : decode cL_turns 120 = .ok (.iconst 0, 1) := by decide +kernel
theorem dL_turns_121 : decode cL_turns 121 = .ok (.invokevirtual 20, 3) := by decide +kernel
theorem dL_turns_124 : decode cL_turns 124 = .ok (.iconst 4, 1) := by decide +kernel
theorem dL_turns_125 : decode cL_turns 125 = .ok (.if_icmp .ne 61, 3) := by decide +kernel
theorem dL_turns_128 : decode cL_turns 128 = .ok (.aload_n 0, 1) := by decide +kernel
theorem dL_turns_129 : decode cL_turns 129 = .ok (.invokevirtual 64, 3) := by decide +kernel
theorem dL_turns_132 : decode cL_turns 132 = .ok (.iconst 1, 1) := by decide +kernel
theorem dL_turns_133 : decode cL_turns 133 = .ok (.if_icmp .ne 53, 3) := by decide +kernel
theorem dL_turns_136 : decode cL_turns 136 = .ok (.aload_n 0, 1) := by decide +kernel
theorem dL_turns_137 : decode cL_turns 137 = .ok (.iconst 0, 1) := by decide +kernel
theorem dL_turns_138 : decode cL_turns 138 = .ok (.iconst 0, 1) := by decide +kernel
theorem dL_turns_139 : decode cL_turns 139 = .ok (.invokevirtual 13, 3) := by decide +kernel
theorem dL_turns_142 : decode cL_turns 142 = .ok (.iconst 1, 1) := by decide +kernel
theorem dL_turns_143 : decode cL_turns 143 = .ok (.if_icmp .ne 43, 3) := by decide +kernel
theorem dL_turns_146 : decode cL_turns 146 = .ok (.aload_n 0, 1) := by decide +kernel
theorem dL_turns_147 : decode cL_turns 147 = .ok (.iconst 0, 1) := by decide +kernel
theorem dL_turns_148 : decode cL_turns 148 = .ok (.invokevirtual 38, 3) := by decide +kernel
theorem dL_turns_151 : decode cL_turns 151 = .ok (.ifCond .ne 35, 3) := by decide +kernel
theorem dL_turns_154 : decode cL_turns 154 = .ok (.aload_n 0, 1) := by decide +kernel
