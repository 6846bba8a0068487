theorem dL_layers_220 : decode cL_layers 220 = .ok (.iconst 2, 1) := by decide +kernel
theorem dL_layers_221 : decode cL_layers 221 = .ok (.iconst 2, 1) := by decide +kernel
theorem dL_layers_222 : decode cL_layers 222 = .ok (.iconst 1, 1) := by decide +kernel
theorem dL_layers_223 : decode cL_layers 223 = .ok (.invokestatic 91, 3) := by decide +kernel
theorem dL_layers_226 : decode cL_layers 226 = .ok (.ifCond .eq 137, 3) := by decide +kernel
theorem dL_layers_229 : decode cL_layers 229 = .ok (.aload_n 0, 1) := by decide +kernel
theorem dL_layers_230 : decode cL_layers 230 = .ok (.iconst 0, 1) := by decide +kernel
theorem dL_layers_231 : decode cL_layers 231 = .ok (.invokevirtual 23, 3) := by decide +kernel
theorem dL_layers_234 : decode cL_layers 234 = .ok (.ifCond .ne 129, 3) := by decide +kernel
theorem dL_layers_237 : decode cL_layers 237 = .ok (.aload_n 0, 1) := by decide +kernel
theorem dL_layers_238 : decode cL_layers 238 = .ok (.iconst 2, 1) := by decide +kernel
theorem dL_layers_239 : decode cL_layers 239 = .ok (.invokevirtual 23, 3) := by decide +kernel
theorem dL_layers_242 : decode cL_layers 242 = .ok (.bipush 8, 2) := by decide +kernel
theorem dL_layers_244 : decode cL_layers 244 = .ok (.if_icmp .ne 119, 3) := by decide +kernel
theorem dL_layers_247 : decode cL_layers 247 = .ok (.aload_n 0, 1) := by decide +kernel
theorem dL_layers_248 : decode cL_layers 248 = .ok (.bipush 6, 2) := by decide +kernel
theorem dL_layers_250 : decode cL_layers 250 = .ok (.iconst 0, 1) := by decide +kernel
theorem dL_layers_251 : decode cL_layers 251 = .ok (.iconst 3, 1) := by decide +kernel
theorem dL_layers_252 : decode cL_layers 252 = .ok (.invokestatic 95, 3) := by decide +kernel
theorem dL_layers_255 : decode cL_layers 255 = .ok (.ifCond .eq 108, 3) := by decide +kernel
theorem dL_layers_258 : decode cL_layers 258 = .ok (.aload_n 0, 1) := by decide +kernel
theorem dL_layers_259 : decode cL_layers 259 = .ok (.iconst 1, 1) := by decide +kernel
theorem dL_layers_260 : decode cL_layers 260 = .ok (.iconst 2, 1) := by decide +kernel
theorem dL_layers_261 : decode cL_layers 261 = .ok (.iconst 2, 1) := by decide +kernel
theorem dL_layers_262 : decode cL_layers 262 = .ok (.iconst 3, 1) := by decide +kernel
theorem dL_layers_263 : decode cL_layers 263 = .ok (.iconst 1, 1) := by decide +kernel
theorem dL_layers_264 : decode cL_layers 264 = .ok (.invokestatic 91, 3) := by decide +kernel
theorem dL_layers_267 : decode cL_layers 267 = .ok (.ifCond .eq 96, 3) := by decide +kernel
theorem dL_layers_270 : decode cL_layers 270 = .ok (.aload_n 0, 1) := by decide +kernel
theorem dL_layers_271 : decode cL_layers 271 = .ok (.iconst 0, 1) := by decide +kernel
theorem dL_layers_272 : decode cL_layers 272 = .ok (.iconst 0, 1) := by decide +kernel
theorem dL_layers_273 : decode cL_layers 273 = .ok (.iconst 1, 1) := by decide +kernel
theorem dL_layers_274 : decode cL_layers 274 = .ok (.invokestatic 95, 3) := by decide +kernel
theorem dL_layers_277 : decode cL_layers 277 = .ok (.ifCond .eq 86, 3) := by decide +kernel
theorem dL_layers_280 : decode cL_layers 280 = .ok (.aload_n 0, 1) := by decide +kernel
theorem dL_layers_281 : decode cL_layers 281 = .ok (.bipush 7, 2) := by decide +kernel
theorem dL_layers_283 : decode cL_layers 283 = .ok (.iconst 1, 1) := by decide +kernel
theorem dL_layers_284 : decode cL_layers 284 = .ok (.iconst 2, 1) := by decide +kernel
theorem dL_layers_285 : decode cL_layers 285 = .ok (.iconst 1, 1) := by decide +kernel
theorem dL_layers_286 : decode cL_layers 286 = .ok (.iconst 2, 1) := by decide +kernel
theorem dL_layers_287 : decode cL_layers 287 = .ok (.invokestatic 91, 3) := by decide +kernel
theorem dL_layers_290 : decode cL_layers 290 = .ok (.ifCond .eq 73, 3) := by decide +kernel
theorem dL_layers_293 : decode cL_layers 293 = .ok (.aload_n 0, 1) := by decide +kernel
theorem dL_layers_294 : decode cL_layers 294 = .ok (.bipush 7, 2) := by decide +kernel
theorem dL_layers_296 : decode cL_layers 296 = .ok (.iconst 5, 1) := by decide +kernel
theorem dL_layers_297 : decode cL_layers 297 = .ok (.iconst 2, 1) := by decide +kernel
theorem dL_layers_298 : decode cL_layers 298 = .ok (.iconst 2, 1) := by decide +kernel
theorem dL_layers_299 : decode cL_layers 299 = .ok (.iconst 2, 1) := by decide +kernel
theorem dL_layers_300 : decode cL_layers 300 = .ok (.invokestatic 91, 3) := by decide +kernel
theorem dL_layers_303 : decode cL_layers 303 = .ok (.ifCond .eq 60, 3) := by decide +kernel
theorem dL_layers_306 : decode cL_layers 306 = .ok (.aload_n 0, 1) := by decide +kernel
theorem dL_layers_307 : decode cL_layers 307 = .ok (.iconst 2, 1) := by decide +kernel
theorem dL_layers_308 : decode cL_layers 308 = .ok (.invokevirtual 23, 3) := by decide +kernel
theorem dL_layers_311 : decode cL_layers 311 = .ok (.bipush 8, 2) := by decide +kernel
theorem dL_layers_313 : decode cL_layers 313 = .ok (.if_icmp .ne 50, 3) := by decide +kernel
theorem dL_layers_316 : decode cL_layers 316 = .ok (.aload_n 0, 1) := by decide +kernel
theorem dL_layers_317 : decode cL_layers 317 = .ok (.bipush 12, 2) := by decide +kernel
theorem dL_layers_319 : decode cL_layers 319 = .ok (.iconst 1, 1) := by decide +kernel
theorem dL_layers_320 : decode cL_layers 320 = .ok (.invokevirtual 7, 3) := by decide +kernel
theorem dL_layers_323 : decode cL_layers 323 = .ok (.iconst 1, 1) := by decide +kernel
theorem dL_layers_324 : decode cL_layers 324 = .ok (.if_icmp .ne 39, 3) := by decide +kernel
theorem dL_layers_327 : decode cL_layers 327 = .ok (.aload_n 0, 1) := by decide +kernel
theorem dL_layers_328 : decode cL_layers 328 = .ok (.iconst 0, 1) := by decide +kernel
theorem dL_layers_329 : decode cL_layers 329 = .ok (.invokevirtual 48, 3) := by decide +kernel
theorem dL_layers_332 : decode cL_layers 332 = .ok (.iconst 1, 1) := by decide +kernel
theorem dL_layers_333 : decode cL_layers 333 = .ok (.if_icmp .ne 30, 3) := by decide +kernel
theorem dL_layers_336 : decode cL_layers 336 = .ok (.aload_n 0, 1) := by decide +kernel
theorem dL_layers_337 : decode cL_layers 337 = .ok (.bipush 9, 2) := by decide +kernel
theorem dL_layers_339 : decode cL_layers 339 = .ok (.invokevirtual 16, 3) := by decide +kernel
theorem dL_layers_342 : decode cL_layers 342 = .ok (.iconst 1, 1) := by decide +kernel
theorem dL_layers_343 : decode cL_layers 343 = .ok (.if_icmp .ne 20, 3) := by decide +kernel
theorem dL_layers_346 : decode cL_layers 346 = .ok (.aload_n 0, 1) := by decide +kernel
theorem dL_layers_347 : decode cL_layers 347 = .ok (.invokevirtual 57, 3) := by decide +kernel
theorem dL_layers_350 : decode cL_layers 350 = .ok (.bipush 8, 2) := by decide +kernel
theorem dL_layers_352 : decode cL_layers 352 = .ok (.if_icmp .ne 11, 3) := by decide +kernel
