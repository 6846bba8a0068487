theorem dL_loops_131 : decode cL_loops 131 = .ok (.iconst 0, 1) := by decide +kernel
theorem dL_loops_132 : decode cL_loops 132 = .ok (.istore_n 1, 1) := by decide +kernel
theorem dL_loops_133 : decode cL_loops 133 = .ok (.iload_n 1, 1) := by decide +kernel
theorem dL_loops_134 : decode cL_loops 134 = .ok (.bipush 8, 2) := by decide +kernel
theorem dL_loops_136 : decode cL_loops 136 = .ok (.if_icmp .ge 63, 3) := by decide +kernel
theorem dL_loops_139 : decode cL_loops 139 = .ok (.aload_n 0, 1) := by decide +kernel
theorem dL_loops_140 : decode cL_loops 140 = .ok (.aload_n 0, 1) := by decide +kernel
theorem dL_loops_141 : decode cL_loops 141 = .ok (.invokevirtual 78, 3) := by decide +kernel
theorem dL_loops_144 : decode cL_loops 144 = .ok (.invokevirtual 20, 3) := by decide +kernel
theorem dL_loops_147 : decode cL_loops 147 = .ok (.iconst 2, 1) := by decide +kernel
theorem dL_loops_148 : decode cL_loops 148 = .ok (.if_icmp .ge 13, 3) := by decide +kernel
theorem dL_loops_151 : decode cL_loops 151 = .ok (.aload_n 0, 1) := by decide +kernel
theorem dL_loops_152 : decode cL_loops 152 = .ok (.invokestatic 99, 3) := by decide +kernel
theorem dL_loops_155 : decode cL_loops 155 = .ok (.iconst 2, 1) := by decide +kernel
theorem dL_loops_156 : decode cL_loops 156 = .ok (.if_icmp .eq (-17), 3) := by decide +kernel
theorem dL_loops_159 : decode cL_loops 159 = .ok (.iconst 0, 1) := by decide +kernel
theorem dL_loops_160 : decode cL_loops 160 = .ok (.ireturn, 1) := by decide +kernel
theorem dL_loops_161 : decode cL_loops 161 = .ok (.aload_n 0, 1) := by decide +kernel
theorem dL_loops_162 : decode cL_loops 162 = .ok (.iconst 5, 1) := by decide +kernel
theorem dL_loops_163 : decode cL_loops 163 = .ok (.iconst 0, 1) := by decide +kernel
theorem dL_loops_164 : decode cL_loops 164 = .ok (.invokevirtual 7, 3) := by decide +kernel
theorem dL_loops_167 : decode cL_loops 167 = .ok (.iconst 1, 1) := by decide +kernel
theorem dL_loops_168 : decode cL_loops 168 = .ok (.if_icmp .ne 23, 3) := by decide +kernel
theorem dL_loops_171 : decode cL_loops 171 = .ok (.aload_n 0, 1) := by decide +kernel
theorem dL_loops_172 : decode cL_loops 172 = .ok (.bipush 9, 2) := by decide +kernel
theorem dL_loops_174 : decode cL_loops 174 = .ok (.invokevirtual 16, 3) := by decide +kernel
theorem dL_loops_177 : decode cL_loops 177 = .ok (.iconst 2, 1) := by decide +kernel
theorem dL_loops_178 : decode cL_loops 178 = .ok (.if_icmp .ne 13, 3) := by decide +kernel
theorem dL_loops_181 : decode cL_loops 181 = .ok (.aload_n 0, 1) := by decide +kernel
theorem dL_loops_182 : decode cL_loops 182 = .ok (.invokevirtual 57, 3) := by decide +kernel
theorem dL_loops_185 : decode cL_loops 185 = .ok (.iconst 3, 1) := by decide +kernel
theorem dL_loops_186 : decode cL_loops 186 = .ok (.iload_n 1, 1) := by decide +kernel
theorem dL_loops_187 : decode cL_loops 187 = .ok (.iadd, 1) := by decide +kernel
theorem dL_loops_188 : decode cL_loops 188 = .ok (.if_icmp .eq 5, 3) := by decide +kernel
theorem dL_loops_191 : decode cL_loops 191 = .ok (.iconst 0, 1) := by decide +kernel
theorem dL_loops_192 : decode cL_loops 192 = .ok (.ireturn, 1) := by decide +kernel
theorem dL_loops_193 : decode cL_loops 193 = .ok (.iinc 1 1, 3) := by decide +kernel
theorem dL_loops_196 : decode cL_loops 196 = .ok (.goto (-63), 3) := by decide +kernel
theorem dL_loops_199 : decode cL_loops 199 = .ok (.aload_n 0, 1) := by decide +kernel
theorem dL_loops_200 : decode cL_loops 200 = .ok (.aload_n 0, 1) := by decide +kernel
theorem dL_loops_201 : decode cL_loops 201 = .ok (.invokevirtual 78, 3) := by decide +kernel
theorem dL_loops_204 : decode cL_loops 204 = .ok (.invokevirtual 20, 3) := by decide +kernel
theorem dL_loops_207 : decode cL_loops 207 = .ok (.iconst 4, 1) := by decide +kernel
theorem dL_loops_208 : decode cL_loops 208 = .ok (.if_icmp .ge 13, 3) := by decide +kernel
theorem dL_loops_211 : decode cL_loops 211 = .ok (.aload_n 0, 1) := by decide +kernel
theorem dL_loops_212 : decode cL_loops 212 = .ok (.invokestatic 99, 3) := by decide +kernel
theorem dL_loops_215 : decode cL_loops 215 = .ok (.iconst 2, 1) := by decide +kernel
theorem dL_loops_216 : decode cL_loops 216 = .ok (.if_icmp .eq (-17), 3) := by decide +kernel
theorem dL_loops_219 : decode cL_loops 219 = .ok (.iconst 0, 1) := by decide +kernel
theorem dL_loops_220 : decode cL_loops 220 = .ok (.ireturn, 1) := by decide +kernel
theorem dL_loops_221 : decode cL_loops 221 = .ok (.aload_n 0, 1) := by decide +kernel
theorem dL_loops_222 : decode cL_loops 222 = .ok (.invokevirtual 57, 3) := by decide +kernel
theorem dL_loops_225 : decode cL_loops 225 = .ok (.bipush 10, 2) := by decide +kernel
theorem dL_loops_227 : decode cL_loops 227 = .ok (.if_icmp .ne 98, 3) := by decide +kernel
theorem dL_loops_230 : decode cL_loops 230 = .ok (.aload_n 0, 1) := by decide +kernel
theorem dL_loops_231 : decode cL_loops 231 = .ok (.iconst 0, 1) := by decide +kernel
theorem dL_loops_232 : decode cL_loops 232 = .ok (.iconst 0, 1) := by decide +kernel
theorem dL_loops_233 : decode cL_loops 233 = .ok (.invokevirtual 7, 3) := by decide +kernel
theorem dL_loops_236 : decode cL_loops 236 = .ok (.iconst 1, 1) := by decide +kernel
theorem dL_loops_237 : decode cL_loops 237 = .ok (.if_icmp .ne 88, 3) := by decide +kernel
theorem dL_loops_240 : decode cL_loops 240 = .ok (.aload_n 0, 1) := by decide +kernel
theorem dL_loops_241 : decode cL_loops 241 = .ok (.bipush 9, 2) := by decide +kernel
theorem dL_loops_243 : decode cL_loops 243 = .ok (.invokevirtual 16, 3) := by decide +kernel
theorem dL_loops_246 : decode cL_loops 246 = .ok (.iconst 1, 1) := by decide +kernel
theorem dL_loops_247 : decode cL_loops 247 = .ok (.if_icmp .ne 78, 3) := by decide +kernel
theorem dL_loops_250 : decode cL_loops 250 = .ok (.aload_n 0, 1) := by decide +kernel
theorem dL_loops_251 : decode cL_loops 251 = .ok (.invokevirtual 57, 3) := by decide +kernel
theorem dL_loops_254 : decode cL_loops 254 = .ok (.bipush 10, 2) := by decide +kernel
theorem dL_loops_256 : decode cL_loops 256 = .ok (.if_icmp .ne 69, 3) := by decide +kernel
theorem dL_loops_259 : decode cL_loops 259 = .ok (.aload_n 0, 1) := by decide +kernel
theorem dL_loops_260 : decode cL_loops 260 = .ok (.invokevirtual 61, 3) := by decide +kernel
theorem dL_loops_263 : decode cL_loops 263 = .ok (.ifCond .ne 62, 3) := by decide +kernel
theorem dL_loops_266 : decode cL_loops 266 = .ok (.aload_n 0, 1) := by decide +kernel
theorem dL_loops_267 : decode cL_loops 267 = .ok (.bipush 12, 2) := by decide +kernel
theorem dL_loops_269 : decode cL_loops 269 = .ok (.bipush 9, 2) := by decide +kernel
