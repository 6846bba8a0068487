theorem dL_layers_97 : decode cL_layers 97 = .ok (.iconst 1, 1) := by decide +kernel
theorem dL_layers_98 : decode cL_layers 98 = .ok (.invokestatic 91, 3) := by decide +kernel
theorem dL_layers_101 : decode cL_layers 101 = .ok (.ifCond .eq 83, 3) := by decide +kernel
theorem dL_layers_104 : decode cL_layers 104 = .ok (.aload_n 0, 1) := by decide +kernel
theorem dL_layers_105 : decode cL_layers 105 = .ok (.iconst 4, 1) := by decide +kernel
theorem dL_layers_106 : decode cL_layers 106 = .ok (.iconst 0, 1) := by decide +kernel
theorem dL_layers_107 : decode cL_layers 107 = .ok (.iconst 3, 1) := by decide +kernel
theorem dL_layers_108 : decode cL_layers 108 = .ok (.invokestatic 95, 3) := by decide +kernel
theorem dL_layers_111 : decode cL_layers 111 = .ok (.ifCond .eq 73, 3) := by decide +kernel
theorem dL_layers_114 : decode cL_layers 114 = .ok (.aload_n 0, 1) := by decide +kernel
theorem dL_layers_115 : decode cL_layers 115 = .ok (.iconst 1, 1) := by decide +kernel
theorem dL_layers_116 : decode cL_layers 116 = .ok (.iconst 2, 1) := by decide +kernel
theorem dL_layers_117 : decode cL_layers 117 = .ok (.iconst 0, 1) := by decide +kernel
theorem dL_layers_118 : decode cL_layers 118 = .ok (.iconst 3, 1) := by decide +kernel
theorem dL_layers_119 : decode cL_layers 119 = .ok (.iconst 1, 1) := by decide +kernel
theorem dL_layers_120 : decode cL_layers 120 = .ok (.invokestatic 91, 3) := by decide +kernel
theorem dL_layers_123 : decode cL_layers 123 = .ok (.ifCond .eq 61, 3) := by decide +kernel
theorem dL_layers_126 : decode cL_layers 126 = .ok (.aload_n 0, 1) := by decide +kernel
theorem dL_layers_127 : decode cL_layers 127 = .ok (.iconst 1, 1) := by decide +kernel
theorem dL_layers_128 : decode cL_layers 128 = .ok (.iconst 3, 1) := by decide +kernel
theorem dL_layers_129 : decode cL_layers 129 = .ok (.iconst 0, 1) := by decide +kernel
theorem dL_layers_130 : decode cL_layers 130 = .ok (.iconst 3, 1) := by decide +kernel
theorem dL_layers_131 : decode cL_layers 131 = .ok (.iconst 4, 1) := by decide +kernel
theorem dL_layers_132 : decode cL_layers 132 = .ok (.invokestatic 91, 3) := by decide +kernel
theorem dL_layers_135 : decode cL_layers 135 = .ok (.ifCond .eq 49, 3) := by decide +kernel
theorem dL_layers_138 : decode cL_layers 138 = .ok (.aload_n 0, 1) := by decide +kernel
theorem dL_layers_139 : decode cL_layers 139 = .ok (.bipush 8, 2) := by decide +kernel
theorem dL_layers_141 : decode cL_layers 141 = .ok (.iconst 0, 1) := by decide +kernel
theorem dL_layers_142 : decode cL_layers 142 = .ok (.iconst 0, 1) := by decide +kernel
theorem dL_layers_143 : decode cL_layers 143 = .ok (.invokestatic 95, 3) := by decide +kernel
theorem dL_layers_146 : decode cL_layers 146 = .ok (.ifCond .eq 38, 3) := by decide +kernel
theorem dL_layers_149 : decode cL_layers 149 = .ok (.aload_n 0, 1) := by decide +kernel
theorem dL_layers_150 : decode cL_layers 150 = .ok (.iconst 1, 1) := by decide +kernel
theorem dL_layers_151 : decode cL_layers 151 = .ok (.iconst 4, 1) := by decide +kernel
theorem dL_layers_152 : decode cL_layers 152 = .ok (.iconst 0, 1) := by decide +kernel
theorem dL_layers_153 : decode cL_layers 153 = .ok (.iconst 3, 1) := by decide +kernel
theorem dL_layers_154 : decode cL_layers 154 = .ok (.iconst 4, 1) := by decide +kernel
theorem dL_layers_155 : decode cL_layers 155 = .ok (.invokestatic 91, 3) := by decide +kernel
theorem dL_layers_158 : decode cL_layers 158 = .ok (.ifCond .eq 26, 3) := by decide +kernel
theorem dL_layers_161 : decode cL_layers 161 = .ok (.aload_n 0, 1) := by decide +kernel
theorem dL_layers_162 : decode cL_layers 162 = .ok (.iconst 1, 1) := by decide +kernel
theorem dL_layers_163 : decode cL_layers 163 = .ok (.iconst 5, 1) := by decide +kernel
theorem dL_layers_164 : decode cL_layers 164 = .ok (.iconst 0, 1) := by decide +kernel
theorem dL_layers_165 : decode cL_layers 165 = .ok (.iconst 3, 1) := by decide +kernel
theorem dL_layers_166 : decode cL_layers 166 = .ok (.bipush 8, 2) := by decide +kernel
theorem dL_layers_168 : decode cL_layers 168 = .ok (.invokestatic 91, 3) := by decide +kernel
theorem dL_layers_171 : decode cL_layers 171 = .ok (.ifCond .eq 13, 3) := by decide +kernel
theorem dL_layers_174 : decode cL_layers 174 = .ok (.aload_n 0, 1) := by decide +kernel
theorem dL_layers_175 : decode cL_layers 175 = .ok (.iconst 0, 1) := by decide +kernel
theorem dL_layers_176 : decode cL_layers 176 = .ok (.invokevirtual 23, 3) := by decide +kernel
theorem dL_layers_179 : decode cL_layers 179 = .ok (.bipush 8, 2) := by decide +kernel
theorem dL_layers_181 : decode cL_layers 181 = .ok (.if_icmp .eq 5, 3) := by decide +kernel
theorem dL_layers_184 : decode cL_layers 184 = .ok (.iconst 0, 1) := by decide +kernel
theorem dL_layers_185 : decode cL_layers 185 = .ok (.ireturn, 1) := by decide +kernel
theorem dL_layers_186 : decode cL_layers 186 = .ok (.aload_n 0, 1) := by decide +kernel
theorem dL_layers_187 : decode cL_layers 187 = .ok (.invokestatic 99, 3) := by decide +kernel
theorem dL_layers_190 : decode cL_layers 190 = .ok (.iconst 2, 1) := by decide +kernel
theorem dL_layers_191 : decode cL_layers 191 = .ok (.if_icmp .ne 172, 3) := by decide +kernel
theorem dL_layers_194 : decode cL_layers 194 = .ok (.aload_n 0, 1) := by decide +kernel
theorem dL_layers_195 : decode cL_layers 195 = .ok (.bipush 7, 2) := by decide +kernel
theorem dL_layers_197 : decode cL_layers 197 = .ok (.iconst 1, 1) := by decide +kernel
theorem dL_layers_198 : decode cL_layers 198 = .ok (.iconst 5, 1) := by decide +kernel
theorem dL_layers_199 : decode cL_layers 199 = .ok (.invokestatic 95, 3) := by decide +kernel
theorem dL_layers_202 : decode cL_layers 202 = .ok (.ifCond .eq 161, 3) := by decide +kernel
theorem dL_layers_205 : decode cL_layers 205 = .ok (.aload_n 0, 1) := by decide +kernel
theorem dL_layers_206 : decode cL_layers 206 = .ok (.iconst 1, 1) := by decide +kernel
theorem dL_layers_207 : decode cL_layers 207 = .ok (.iconst 0, 1) := by decide +kernel
theorem dL_layers_208 : decode cL_layers 208 = .ok (.iconst 0, 1) := by decide +kernel
theorem dL_layers_209 : decode cL_layers 209 = .ok (.iconst 2, 1) := by decide +kernel
theorem dL_layers_210 : decode cL_layers 210 = .ok (.iconst 1, 1) := by decide +kernel
theorem dL_layers_211 : decode cL_layers 211 = .ok (.invokestatic 91, 3) := by decide +kernel
theorem dL_layers_214 : decode cL_layers 214 = .ok (.ifCond .eq 149, 3) := by decide +kernel
theorem dL_layers_217 : decode cL_layers 217 = .ok (.aload_n 0, 1) := by decide +kernel
theorem dL_layers_218 : decode cL_layers 218 = .ok (.iconst 1, 1) := by decide +kernel
theorem dL_layers_219 : decode cL_layers 219 = .ok (.iconst 1, 1) := by decide +kernel
