theorem dL_refuses_83 : decode cL_refuses 83 = .ok (.iconst 1, 1) := by decide +kernel
theorem dL_refuses_84 : decode cL_refuses 84 = .ok (.if_icmp .ne 8, 3) := by decide +kernel
theorem dL_refuses_87 : decode cL_refuses 87 = .ok (.bipush 14, 2) := by decide +kernel
theorem dL_refuses_89 : decode cL_refuses 89 = .ok (.goto 5, 3) := by decide +kernel
theorem dL_refuses_92 : decode cL_refuses 92 = .ok (.iload 6, 2) := by decide +kernel
theorem dL_refuses_94 : decode cL_refuses 94 = .ok (.iconst 0, 1) := by decide +kernel
theorem dL_refuses_95 : decode cL_refuses 95 = .ok (.invokestatic 68, 3) := by decide +kernel
theorem dL_refuses_98 : decode cL_refuses 98 = .ok (.bipush (-71), 2) := by decide +kernel
theorem dL_refuses_100 : decode cL_refuses 100 = .ok (.if_icmp .ne 134, 3) := by decide +kernel
theorem dL_refuses_103 : decode cL_refuses 103 = .ok (.aload_n 0, 1) := by decide +kernel
theorem dL_refuses_104 : decode cL_refuses 104 = .ok (.iconst 2, 1) := by decide +kernel
theorem dL_refuses_105 : decode cL_refuses 105 = .ok (.iload 5, 2) := by decide +kernel
theorem dL_refuses_107 : decode cL_refuses 107 = .ok (.ifCond .ne 7, 3) := by decide +kernel
theorem dL_refuses_110 : decode cL_refuses 110 = .ok (.iconst 0, 1) := by decide +kernel
theorem dL_refuses_111 : decode cL_refuses 111 = .ok (.goto 16, 3) := by decide +kernel
theorem dL_refuses_114 : decode cL_refuses 114 = .ok (.iload 5, 2) := by decide +kernel
theorem dL_refuses_116 : decode cL_refuses 116 = .ok (.iconst 1, 1) := by decide +kernel
theorem dL_refuses_117 : decode cL_refuses 117 = .ok (.if_icmp .ne 8, 3) := by decide +kernel
theorem dL_refuses_120 : decode cL_refuses 120 = .ok (.bipush 61, 2) := by decide +kernel
theorem dL_refuses_122 : decode cL_refuses 122 = .ok (.goto 5, 3) := by decide +kernel
theorem dL_refuses_125 : decode cL_refuses 125 = .ok (.iload 6, 2) := by decide +kernel
theorem dL_refuses_127 : decode cL_refuses 127 = .ok (.iconst 0, 1) := by decide +kernel
theorem dL_refuses_128 : decode cL_refuses 128 = .ok (.invokestatic 68, 3) := by decide +kernel
theorem dL_refuses_131 : decode cL_refuses 131 = .ok (.bipush (-72), 2) := by decide +kernel
theorem dL_refuses_133 : decode cL_refuses 133 = .ok (.if_icmp .ne 101, 3) := by decide +kernel
theorem dL_refuses_136 : decode cL_refuses 136 = .ok (.aload_n 0, 1) := by decide +kernel
theorem dL_refuses_137 : decode cL_refuses 137 = .ok (.iconst 3, 1) := by decide +kernel
theorem dL_refuses_138 : decode cL_refuses 138 = .ok (.iload 5, 2) := by decide +kernel
theorem dL_refuses_140 : decode cL_refuses 140 = .ok (.iconst 1, 1) := by decide +kernel
theorem dL_refuses_141 : decode cL_refuses 141 = .ok (.if_icmp .ne 7, 3) := by decide +kernel
theorem dL_refuses_144 : decode cL_refuses 144 = .ok (.iconst 3, 1) := by decide +kernel
theorem dL_refuses_145 : decode cL_refuses 145 = .ok (.goto 5, 3) := by decide +kernel
theorem dL_refuses_148 : decode cL_refuses 148 = .ok (.iload 6, 2) := by decide +kernel
theorem dL_refuses_150 : decode cL_refuses 150 = .ok (.iconst 0, 1) := by decide +kernel
theorem dL_refuses_151 : decode cL_refuses 151 = .ok (.invokestatic 68, 3) := by decide +kernel
theorem dL_refuses_154 : decode cL_refuses 154 = .ok (.bipush (-71), 2) := by decide +kernel
theorem dL_refuses_156 : decode cL_refuses 156 = .ok (.if_icmp .ne 78, 3) := by decide +kernel
theorem dL_refuses_159 : decode cL_refuses 159 = .ok (.aload_n 0, 1) := by decide +kernel
theorem dL_refuses_160 : decode cL_refuses 160 = .ok (.iconst 4, 1) := by decide +kernel
theorem dL_refuses_161 : decode cL_refuses 161 = .ok (.iload 5, 2) := by decide +kernel
theorem dL_refuses_163 : decode cL_refuses 163 = .ok (.iconst 1, 1) := by decide +kernel
theorem dL_refuses_164 : decode cL_refuses 164 = .ok (.if_icmp .ne 7, 3) := by decide +kernel
theorem dL_refuses_167 : decode cL_refuses 167 = .ok (.iconst 3, 1) := by decide +kernel
theorem dL_refuses_168 : decode cL_refuses 168 = .ok (.goto 5, 3) := by decide +kernel
theorem dL_refuses_171 : decode cL_refuses 171 = .ok (.iload 6, 2) := by decide +kernel
theorem dL_refuses_173 : decode cL_refuses 173 = .ok (.iconst 0, 1) := by decide +kernel
theorem dL_refuses_174 : decode cL_refuses 174 = .ok (.invokestatic 68, 3) := by decide +kernel
theorem dL_refuses_177 : decode cL_refuses 177 = .ok (.bipush (-71), 2) := by decide +kernel
theorem dL_refuses_179 : decode cL_refuses 179 = .ok (.if_icmp .ne 55, 3) := by decide +kernel
theorem dL_refuses_182 : decode cL_refuses 182 = .ok (.aload_n 0, 1) := by decide +kernel
theorem dL_refuses_183 : decode cL_refuses 183 = .ok (.iconst 0, 1) := by decide +kernel
theorem dL_refuses_184 : decode cL_refuses 184 = .ok (.bipush 12, 2) := by decide +kernel
theorem dL_refuses_186 : decode cL_refuses 186 = .ok (.iload 5, 2) := by decide +kernel
theorem dL_refuses_188 : decode cL_refuses 188 = .ok (.iconst 1, 1) := by decide +kernel
theorem dL_refuses_189 : decode cL_refuses 189 = .ok (.if_icmp .ne 7, 3) := by decide +kernel
theorem dL_refuses_192 : decode cL_refuses 192 = .ok (.iload_n 1, 1) := by decide +kernel
theorem dL_refuses_193 : decode cL_refuses 193 = .ok (.goto 5, 3) := by decide +kernel
theorem dL_refuses_196 : decode cL_refuses 196 = .ok (.iload 6, 2) := by decide +kernel
theorem dL_refuses_198 : decode cL_refuses 198 = .ok (.invokestatic 68, 3) := by decide +kernel
theorem dL_refuses_201 : decode cL_refuses 201 = .ok (.bipush (-73), 2) := by decide +kernel
theorem dL_refuses_203 : decode cL_refuses 203 = .ok (.if_icmp .ne 31, 3) := by decide +kernel
theorem dL_refuses_206 : decode cL_refuses 206 = .ok (.aload_n 0, 1) := by decide +kernel
theorem dL_refuses_207 : decode cL_refuses 207 = .ok (.iconst 0, 1) := by decide +kernel
theorem dL_refuses_208 : decode cL_refuses 208 = .ok (.bipush 13, 2) := by decide +kernel
theorem dL_refuses_210 : decode cL_refuses 210 = .ok (.iload 5, 2) := by decide +kernel
theorem dL_refuses_212 : decode cL_refuses 212 = .ok (.iconst 1, 1) := by decide +kernel
theorem dL_refuses_213 : decode cL_refuses 213 = .ok (.if_icmp .ne 7, 3) := by decide +kernel
theorem dL_refuses_216 : decode cL_refuses 216 = .ok (.iload_n 2, 1) := by decide +kernel
theorem dL_refuses_217 : decode cL_refuses 217 = .ok (.goto 5, 3) := by decide +kernel
theorem dL_refuses_220 : decode cL_refuses 220 = .ok (.iload 6, 2) := by decide +kernel
theorem dL_refuses_222 : decode cL_refuses 222 = .ok (.invokestatic 68, 3) := by decide +kernel
theorem dL_refuses_225 : decode cL_refuses 225 = .ok (.bipush (-73), 2) := by decide +kernel
theorem dL_refuses_227 : decode cL_refuses 227 = .ok (.if_icmp .ne 7, 3) := by decide +kernel
theorem dL_refuses_230 : decode cL_refuses 230 = .ok (.iconst 1, 1) := by decide +kernel
theorem dL_refuses_231 : decode cL_refuses 231 = .ok (.goto 4, 3) := by decide +kernel
