theorem dL_stacks_144 : decode cL_stacks 144 = .ok (.iconst 0, 1) := by decide +kernel
theorem dL_stacks_145 : decode cL_stacks 145 = .ok (.ireturn, 1) := by decide +kernel
theorem dL_stacks_146 : decode cL_stacks 146 = .ok (.iconst 0, 1) := by decide +kernel
theorem dL_stacks_147 : decode cL_stacks 147 = .ok (.istore_n 1, 1) := by decide +kernel
theorem dL_stacks_148 : decode cL_stacks 148 = .ok (.iload_n 1, 1) := by decide +kernel
theorem dL_stacks_149 : decode cL_stacks 149 = .ok (.bipush 12, 2) := by decide +kernel
theorem dL_stacks_151 : decode cL_stacks 151 = .ok (.if_icmp .ge 34, 3) := by decide +kernel
theorem dL_stacks_154 : decode cL_stacks 154 = .ok (.aload_n 0, 1) := by decide +kernel
theorem dL_stacks_155 : decode cL_stacks 155 = .ok (.invokevirtual 64, 3) := by decide +kernel
theorem dL_stacks_158 : decode cL_stacks 158 = .ok (.iload_n 1, 1) := by decide +kernel
theorem dL_stacks_159 : decode cL_stacks 159 = .ok (.iconst 3, 1) := by decide +kernel
theorem dL_stacks_160 : decode cL_stacks 160 = .ok (.irem, 1) := by decide +kernel
theorem dL_stacks_161 : decode cL_stacks 161 = .ok (.if_icmp .ne 16, 3) := by decide +kernel
theorem dL_stacks_164 : decode cL_stacks 164 = .ok (.aload_n 0, 1) := by decide +kernel
theorem dL_stacks_165 : decode cL_stacks 165 = .ok (.bipush 12, 2) := by decide +kernel
theorem dL_stacks_167 : decode cL_stacks 167 = .ok (.iconst 0, 1) := by decide +kernel
theorem dL_stacks_168 : decode cL_stacks 168 = .ok (.invokevirtual 7, 3) := by decide +kernel
theorem dL_stacks_171 : decode cL_stacks 171 = .ok (.iload_n 1, 1) := by decide +kernel
theorem dL_stacks_172 : decode cL_stacks 172 = .ok (.iconst 1, 1) := by decide +kernel
theorem dL_stacks_173 : decode cL_stacks 173 = .ok (.iadd, 1) := by decide +kernel
theorem dL_stacks_174 : decode cL_stacks 174 = .ok (.if_icmp .eq 5, 3) := by decide +kernel
theorem dL_stacks_177 : decode cL_stacks 177 = .ok (.iconst 0, 1) := by decide +kernel
theorem dL_stacks_178 : decode cL_stacks 178 = .ok (.ireturn, 1) := by decide +kernel
theorem dL_stacks_179 : decode cL_stacks 179 = .ok (.iinc 1 1, 3) := by decide +kernel
theorem dL_stacks_182 : decode cL_stacks 182 = .ok (.goto (-34), 3) := by decide +kernel
theorem dL_stacks_185 : decode cL_stacks 185 = .ok (.aload_n 0, 1) := by decide +kernel
theorem dL_stacks_186 : decode cL_stacks 186 = .ok (.bipush 12, 2) := by decide +kernel
theorem dL_stacks_188 : decode cL_stacks 188 = .ok (.iconst 0, 1) := by decide +kernel
theorem dL_stacks_189 : decode cL_stacks 189 = .ok (.invokevirtual 13, 3) := by decide +kernel
theorem dL_stacks_192 : decode cL_stacks 192 = .ok (.iconst 2, 1) := by decide +kernel
theorem dL_stacks_193 : decode cL_stacks 193 = .ok (.if_icmp .ne 117, 3) := by decide +kernel
theorem dL_stacks_196 : decode cL_stacks 196 = .ok (.aload_n 0, 1) := by decide +kernel
theorem dL_stacks_197 : decode cL_stacks 197 = .ok (.invokevirtual 74, 3) := by decide +kernel
theorem dL_stacks_200 : decode cL_stacks 200 = .ok (.ifCond .ne 110, 3) := by decide +kernel
theorem dL_stacks_203 : decode cL_stacks 203 = .ok (.aload_n 0, 1) := by decide +kernel
theorem dL_stacks_204 : decode cL_stacks 204 = .ok (.bipush 12, 2) := by decide +kernel
theorem dL_stacks_206 : decode cL_stacks 206 = .ok (.iconst 0, 1) := by decide +kernel
theorem dL_stacks_207 : decode cL_stacks 207 = .ok (.invokevirtual 13, 3) := by decide +kernel
theorem dL_stacks_210 : decode cL_stacks 210 = .ok (.iconst 4, 1) := by decide +kernel
theorem dL_stacks_211 : decode cL_stacks 211 = .ok (.if_icmp .ne 99, 3) := by decide +kernel
theorem dL_stacks_214 : decode cL_stacks 214 = .ok (.aload_n 0, 1) := by decide +kernel
theorem dL_stacks_215 : decode cL_stacks 215 = .ok (.bipush 12, 2) := by decide +kernel
theorem dL_stacks_217 : decode cL_stacks 217 = .ok (.iconst 1, 1) := by decide +kernel
theorem dL_stacks_218 : decode cL_stacks 218 = .ok (.invokevirtual 13, 3) := by decide +kernel
theorem dL_stacks_221 : decode cL_stacks 221 = .ok (.iconst 3, 1) := by decide +kernel
theorem dL_stacks_222 : decode cL_stacks 222 = .ok (.if_icmp .ne 88, 3) := by decide +kernel
theorem dL_stacks_225 : decode cL_stacks 225 = .ok (.aload_n 0, 1) := by decide +kernel
theorem dL_stacks_226 : decode cL_stacks 226 = .ok (.bipush 13, 2) := by decide +kernel
theorem dL_stacks_228 : decode cL_stacks 228 = .ok (.bipush 11, 2) := by decide +kernel
theorem dL_stacks_230 : decode cL_stacks 230 = .ok (.invokevirtual 13, 3) := by decide +kernel
theorem dL_stacks_233 : decode cL_stacks 233 = .ok (.iconst 4, 1) := by decide +kernel
theorem dL_stacks_234 : decode cL_stacks 234 = .ok (.if_icmp .ne 76, 3) := by decide +kernel
theorem dL_stacks_237 : decode cL_stacks 237 = .ok (.aload_n 0, 1) := by decide +kernel
theorem dL_stacks_238 : decode cL_stacks 238 = .ok (.iconst 0, 1) := by decide +kernel
theorem dL_stacks_239 : decode cL_stacks 239 = .ok (.bipush 13, 2) := by decide +kernel
theorem dL_stacks_241 : decode cL_stacks 241 = .ok (.bipush 11, 2) := by decide +kernel
theorem dL_stacks_243 : decode cL_stacks 243 = .ok (.invokestatic 68, 3) := by decide +kernel
theorem dL_stacks_246 : decode cL_stacks 246 = .ok (.bipush (-73), 2) := by decide +kernel
theorem dL_stacks_248 : decode cL_stacks 248 = .ok (.if_icmp .ne 62, 3) := by decide +kernel
theorem dL_stacks_251 : decode cL_stacks 251 = .ok (.aload_n 0, 1) := by decide +kernel
theorem dL_stacks_252 : decode cL_stacks 252 = .ok (.bipush 11, 2) := by decide +kernel
theorem dL_stacks_254 : decode cL_stacks 254 = .ok (.invokevirtual 48, 3) := by decide +kernel
theorem dL_stacks_257 : decode cL_stacks 257 = .ok (.ifCond .ne 53, 3) := by decide +kernel
theorem dL_stacks_260 : decode cL_stacks 260 = .ok (.aload_n 0, 1) := by decide +kernel
theorem dL_stacks_261 : decode cL_stacks 261 = .ok (.iconst 3, 1) := by decide +kernel
theorem dL_stacks_262 : decode cL_stacks 262 = .ok (.invokevirtual 16, 3) := by decide +kernel
theorem dL_stacks_265 : decode cL_stacks 265 = .ok (.iconst 3, 1) := by decide +kernel
theorem dL_stacks_266 : decode cL_stacks 266 = .ok (.if_icmp .ne 44, 3) := by decide +kernel
theorem dL_stacks_269 : decode cL_stacks 269 = .ok (.aload_n 0, 1) := by decide +kernel
theorem dL_stacks_270 : decode cL_stacks 270 = .ok (.invokevirtual 57, 3) := by decide +kernel
theorem dL_stacks_273 : decode cL_stacks 273 = .ok (.ifCond .ne 37, 3) := by decide +kernel
theorem dL_stacks_276 : decode cL_stacks 276 = .ok (.aload_n 0, 1) := by decide +kernel
theorem dL_stacks_277 : decode cL_stacks 277 = .ok (.iconst 0, 1) := by decide +kernel
theorem dL_stacks_278 : decode cL_stacks 278 = .ok (.invokevirtual 48, 3) := by decide +kernel
theorem dL_stacks_281 : decode cL_stacks 281 = .ok (.iconst (-1), 1) := by decide +kernel
