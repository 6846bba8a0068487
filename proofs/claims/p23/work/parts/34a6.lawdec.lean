theorem dL_turns_155 : decode cL_turns 155 = .ok (.iconst 0, 1) := by decide +kernel
theorem dL_turns_156 : decode cL_turns 156 = .ok (.invokevirtual 41, 3) := by decide +kernel
theorem dL_turns_159 : decode cL_turns 159 = .ok (.ifCond .ne 27, 3) := by decide +kernel
theorem dL_turns_162 : decode cL_turns 162 = .ok (.aload_n 0, 1) := by decide +kernel
theorem dL_turns_163 : decode cL_turns 163 = .ok (.iconst 0, 1) := by decide +kernel
theorem dL_turns_164 : decode cL_turns 164 = .ok (.invokevirtual 45, 3) := by decide +kernel
theorem dL_turns_167 : decode cL_turns 167 = .ok (.ifCond .ne 19, 3) := by decide +kernel
theorem dL_turns_170 : decode cL_turns 170 = .ok (.aload_n 0, 1) := by decide +kernel
theorem dL_turns_171 : decode cL_turns 171 = .ok (.iconst 0, 1) := by decide +kernel
theorem dL_turns_172 : decode cL_turns 172 = .ok (.invokevirtual 48, 3) := by decide +kernel
theorem dL_turns_175 : decode cL_turns 175 = .ok (.iconst (-1), 1) := by decide +kernel
theorem dL_turns_176 : decode cL_turns 176 = .ok (.if_icmp .ne 10, 3) := by decide +kernel
theorem dL_turns_179 : decode cL_turns 179 = .ok (.aload_n 0, 1) := by decide +kernel
theorem dL_turns_180 : decode cL_turns 180 = .ok (.invokevirtual 57, 3) := by decide +kernel
theorem dL_turns_183 : decode cL_turns 183 = .ok (.ifCond .eq 5, 3) := by decide +kernel
theorem dL_turns_186 : decode cL_turns 186 = .ok (.iconst 0, 1) := by decide +kernel
theorem dL_turns_187 : decode cL_turns 187 = .ok (.ireturn, 1) := by decide +kernel
theorem dL_turns_188 : decode cL_turns 188 = .ok (.aload_n 0, 1) := by decide +kernel
theorem dL_turns_189 : decode cL_turns 189 = .ok (.invokevirtual 74, 3) := by decide +kernel
theorem dL_turns_192 : decode cL_turns 192 = .ok (.ifCond .ne 188, 3) := by decide +kernel
theorem dL_turns_195 : decode cL_turns 195 = .ok (.aload_n 0, 1) := by decide +kernel
theorem dL_turns_196 : decode cL_turns 196 = .ok (.invokevirtual 64, 3) := by decide +kernel
theorem dL_turns_199 : decode cL_turns 199 = .ok (.iconst 2, 1) := by decide +kernel
theorem dL_turns_200 : decode cL_turns 200 = .ok (.if_icmp .ne 180, 3) := by decide +kernel
theorem dL_turns_203 : decode cL_turns 203 = .ok (.aload_n 0, 1) := by decide +kernel
theorem dL_turns_204 : decode cL_turns 204 = .ok (.invokevirtual 74, 3) := by decide +kernel
theorem dL_turns_207 : decode cL_turns 207 = .ok (.ifCond .ne 173, 3) := by decide +kernel
theorem dL_turns_210 : decode cL_turns 210 = .ok (.aload_n 0, 1) := by decide +kernel
theorem dL_turns_211 : decode cL_turns 211 = .ok (.invokevirtual 64, 3) := by decide +kernel
theorem dL_turns_214 : decode cL_turns 214 = .ok (.ifCond .ne 166, 3) := by decide +kernel
theorem dL_turns_217 : decode cL_turns 217 = .ok (.aload_n 0, 1) := by decide +kernel
theorem dL_turns_218 : decode cL_turns 218 = .ok (.iconst 1, 1) := by decide +kernel
theorem dL_turns_219 : decode cL_turns 219 = .ok (.iconst 0, 1) := by decide +kernel
theorem dL_turns_220 : decode cL_turns 220 = .ok (.invokevirtual 13, 3) := by decide +kernel
theorem dL_turns_223 : decode cL_turns 223 = .ok (.iconst 1, 1) := by decide +kernel
theorem dL_turns_224 : decode cL_turns 224 = .ok (.if_icmp .ne 156, 3) := by decide +kernel
theorem dL_turns_227 : decode cL_turns 227 = .ok (.aload_n 0, 1) := by decide +kernel
theorem dL_turns_228 : decode cL_turns 228 = .ok (.invokevirtual 74, 3) := by decide +kernel
theorem dL_turns_231 : decode cL_turns 231 = .ok (.iconst 1, 1) := by decide +kernel
theorem dL_turns_232 : decode cL_turns 232 = .ok (.if_icmp .ne 148, 3) := by decide +kernel
theorem dL_turns_235 : decode cL_turns 235 = .ok (.aload_n 0, 1) := by decide +kernel
theorem dL_turns_236 : decode cL_turns 236 = .ok (.invokevirtual 64, 3) := by decide +kernel
theorem dL_turns_239 : decode cL_turns 239 = .ok (.ifCond .ne 141, 3) := by decide +kernel
theorem dL_turns_242 : decode cL_turns 242 = .ok (.aload_n 0, 1) := by decide +kernel
theorem dL_turns_243 : decode cL_turns 243 = .ok (.invokevirtual 57, 3) := by decide +kernel
theorem dL_turns_246 : decode cL_turns 246 = .ok (.iconst 1, 1) := by decide +kernel
theorem dL_turns_247 : decode cL_turns 247 = .ok (.if_icmp .ne 133, 3) := by decide +kernel
theorem dL_turns_250 : decode cL_turns 250 = .ok (.aload_n 0, 1) := by decide +kernel
theorem dL_turns_251 : decode cL_turns 251 = .ok (.iconst 0, 1) := by decide +kernel
theorem dL_turns_252 : decode cL_turns 252 = .ok (.invokevirtual 26, 3) := by decide +kernel
theorem dL_turns_255 : decode cL_turns 255 = .ok (.ifCond .ne 125, 3) := by decide +kernel
theorem dL_turns_258 : decode cL_turns 258 = .ok (.aload_n 0, 1) := by decide +kernel
theorem dL_turns_259 : decode cL_turns 259 = .ok (.iconst 0, 1) := by decide +kernel
theorem dL_turns_260 : decode cL_turns 260 = .ok (.iconst 0, 1) := by decide +kernel
theorem dL_turns_261 : decode cL_turns 261 = .ok (.iconst 0, 1) := by decide +kernel
theorem dL_turns_262 : decode cL_turns 262 = .ok (.iconst 1, 1) := by decide +kernel
theorem dL_turns_263 : decode cL_turns 263 = .ok (.iconst 2, 1) := by decide +kernel
theorem dL_turns_264 : decode cL_turns 264 = .ok (.invokestatic 91, 3) := by decide +kernel
theorem dL_turns_267 : decode cL_turns 267 = .ok (.ifCond .eq 113, 3) := by decide +kernel
theorem dL_turns_270 : decode cL_turns 270 = .ok (.aload_n 0, 1) := by decide +kernel
theorem dL_turns_271 : decode cL_turns 271 = .ok (.iconst 0, 1) := by decide +kernel
theorem dL_turns_272 : decode cL_turns 272 = .ok (.iconst 5, 1) := by decide +kernel
theorem dL_turns_273 : decode cL_turns 273 = .ok (.iconst 0, 1) := by decide +kernel
theorem dL_turns_274 : decode cL_turns 274 = .ok (.iconst 1, 1) := by decide +kernel
theorem dL_turns_275 : decode cL_turns 275 = .ok (.iconst 2, 1) := by decide +kernel
theorem dL_turns_276 : decode cL_turns 276 = .ok (.invokestatic 91, 3) := by decide +kernel
theorem dL_turns_279 : decode cL_turns 279 = .ok (.ifCond .eq 101, 3) := by decide +kernel
theorem dL_turns_282 : decode cL_turns 282 = .ok (.aload_n 0, 1) := by decide +kernel
theorem dL_turns_283 : decode cL_turns 283 = .ok (.iconst 0, 1) := by decide +kernel
theorem dL_turns_284 : decode cL_turns 284 = .ok (.invokevirtual 23, 3) := by decide +kernel
theorem dL_turns_287 : decode cL_turns 287 = .ok (.iconst 2, 1) := by decide +kernel
theorem dL_turns_288 : decode cL_turns 288 = .ok (.if_icmp .ne 92, 3) := by decide +kernel
theorem dL_turns_291 : decode cL_turns 291 = .ok (.aload_n 0, 1) := by decide +kernel
theorem dL_turns_292 : decode cL_turns 292 = .ok (.iconst 1, 1) := by decide +kernel
theorem dL_turns_293 : decode cL_turns 293 = .ok (.invokevirtual 23, 3) := by decide +kernel
