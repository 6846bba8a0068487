theorem dL_refuses_234 : decode cL_refuses 234 = .ok (.iconst 0, 1) := by decide +kernel
theorem dL_refuses_235 : decode cL_refuses 235 = .ok (.istore 7, 2) := by decide +kernel
theorem dL_refuses_237 : decode cL_refuses 237 = .ok (.iconst 5, 1) := by decide +kernel
theorem dL_refuses_238 : decode cL_refuses 238 = .ok (.istore 8, 2) := by decide +kernel
theorem dL_refuses_240 : decode cL_refuses 240 = .ok (.iload 8, 2) := by decide +kernel
theorem dL_refuses_242 : decode cL_refuses 242 = .ok (.bipush 9, 2) := by decide +kernel
theorem dL_refuses_244 : decode cL_refuses 244 = .ok (.if_icmp .ge 80, 3) := by decide +kernel
theorem dL_refuses_247 : decode cL_refuses 247 = .ok (.iload 7, 2) := by decide +kernel
theorem dL_refuses_249 : decode cL_refuses 249 = .ok (.ifCond .eq 66, 3) := by decide +kernel
theorem dL_refuses_252 : decode cL_refuses 252 = .ok (.aload_n 0, 1) := by decide +kernel
theorem dL_refuses_253 : decode cL_refuses 253 = .ok (.iload 8, 2) := by decide +kernel
theorem dL_refuses_255 : decode cL_refuses 255 = .ok (.iload 5, 2) := by decide +kernel
theorem dL_refuses_257 : decode cL_refuses 257 = .ok (.iconst 1, 1) := by decide +kernel
theorem dL_refuses_258 : decode cL_refuses 258 = .ok (.if_icmp .ne 7, 3) := by decide +kernel
theorem dL_refuses_261 : decode cL_refuses 261 = .ok (.iload_n 1, 1) := by decide +kernel
theorem dL_refuses_262 : decode cL_refuses 262 = .ok (.goto 5, 3) := by decide +kernel
theorem dL_refuses_265 : decode cL_refuses 265 = .ok (.iload 6, 2) := by decide +kernel
theorem dL_refuses_267 : decode cL_refuses 267 = .ok (.iconst (-1), 1) := by decide +kernel
theorem dL_refuses_268 : decode cL_refuses 268 = .ok (.invokestatic 68, 3) := by decide +kernel
theorem dL_refuses_271 : decode cL_refuses 271 = .ok (.bipush (-71), 2) := by decide +kernel
theorem dL_refuses_273 : decode cL_refuses 273 = .ok (.if_icmp .ne 42, 3) := by decide +kernel
theorem dL_refuses_276 : decode cL_refuses 276 = .ok (.iload 8, 2) := by decide +kernel
theorem dL_refuses_278 : decode cL_refuses 278 = .ok (.iconst 5, 1) := by decide +kernel
theorem dL_refuses_279 : decode cL_refuses 279 = .ok (.if_icmp .eq 32, 3) := by decide +kernel
theorem dL_refuses_282 : decode cL_refuses 282 = .ok (.iload_n 1, 1) := by decide +kernel
theorem dL_refuses_283 : decode cL_refuses 283 = .ok (.ifCond .eq 28, 3) := by decide +kernel
theorem dL_refuses_286 : decode cL_refuses 286 = .ok (.aload_n 0, 1) := by decide +kernel
theorem dL_refuses_287 : decode cL_refuses 287 = .ok (.iload 8, 2) := by decide +kernel
theorem dL_refuses_289 : decode cL_refuses 289 = .ok (.iconst 0, 1) := by decide +kernel
theorem dL_refuses_290 : decode cL_refuses 290 = .ok (.iload 5, 2) := by decide +kernel
theorem dL_refuses_292 : decode cL_refuses 292 = .ok (.iconst 1, 1) := by decide +kernel
theorem dL_refuses_293 : decode cL_refuses 293 = .ok (.if_icmp .ne 8, 3) := by decide +kernel
theorem dL_refuses_296 : decode cL_refuses 296 = .ok (.bipush 6, 2) := by decide +kernel
theorem dL_refuses_298 : decode cL_refuses 298 = .ok (.goto 5, 3) := by decide +kernel
theorem dL_refuses_301 : decode cL_refuses 301 = .ok (.iload 6, 2) := by decide +kernel
theorem dL_refuses_303 : decode cL_refuses 303 = .ok (.invokestatic 68, 3) := by decide +kernel
theorem dL_refuses_306 : decode cL_refuses 306 = .ok (.bipush (-72), 2) := by decide +kernel
theorem dL_refuses_308 : decode cL_refuses 308 = .ok (.if_icmp .ne 7, 3) := by decide +kernel
theorem dL_refuses_311 : decode cL_refuses 311 = .ok (.iconst 1, 1) := by decide +kernel
theorem dL_refuses_312 : decode cL_refuses 312 = .ok (.goto 4, 3) := by decide +kernel
theorem dL_refuses_315 : decode cL_refuses 315 = .ok (.iconst 0, 1) := by decide +kernel
theorem dL_refuses_316 : decode cL_refuses 316 = .ok (.istore 7, 2) := by decide +kernel
theorem dL_refuses_318 : decode cL_refuses 318 = .ok (.iinc 8 1, 3) := by decide +kernel
theorem dL_refuses_321 : decode cL_refuses 321 = .ok (.goto (-81), 3) := by decide +kernel
theorem dL_refuses_324 : decode cL_refuses 324 = .ok (.bipush 9, 2) := by decide +kernel
theorem dL_refuses_326 : decode cL_refuses 326 = .ok (.istore 8, 2) := by decide +kernel
theorem dL_refuses_328 : decode cL_refuses 328 = .ok (.iload 8, 2) := by decide +kernel
theorem dL_refuses_330 : decode cL_refuses 330 = .ok (.bipush 13, 2) := by decide +kernel
theorem dL_refuses_332 : decode cL_refuses 332 = .ok (.if_icmp .ge 45, 3) := by decide +kernel
theorem dL_refuses_335 : decode cL_refuses 335 = .ok (.iload 7, 2) := by decide +kernel
theorem dL_refuses_337 : decode cL_refuses 337 = .ok (.ifCond .eq 31, 3) := by decide +kernel
theorem dL_refuses_340 : decode cL_refuses 340 = .ok (.aload_n 0, 1) := by decide +kernel
theorem dL_refuses_341 : decode cL_refuses 341 = .ok (.iload 8, 2) := by decide +kernel
theorem dL_refuses_343 : decode cL_refuses 343 = .ok (.iload 5, 2) := by decide +kernel
theorem dL_refuses_345 : decode cL_refuses 345 = .ok (.iconst 1, 1) := by decide +kernel
theorem dL_refuses_346 : decode cL_refuses 346 = .ok (.if_icmp .ne 7, 3) := by decide +kernel
theorem dL_refuses_349 : decode cL_refuses 349 = .ok (.iload_n 2, 1) := by decide +kernel
theorem dL_refuses_350 : decode cL_refuses 350 = .ok (.goto 5, 3) := by decide +kernel
theorem dL_refuses_353 : decode cL_refuses 353 = .ok (.iload 6, 2) := by decide +kernel
theorem dL_refuses_355 : decode cL_refuses 355 = .ok (.iconst 0, 1) := by decide +kernel
theorem dL_refuses_356 : decode cL_refuses 356 = .ok (.invokestatic 68, 3) := by decide +kernel
theorem dL_refuses_359 : decode cL_refuses 359 = .ok (.bipush (-71), 2) := by decide +kernel
theorem dL_refuses_361 : decode cL_refuses 361 = .ok (.if_icmp .ne 7, 3) := by decide +kernel
theorem dL_refuses_364 : decode cL_refuses 364 = .ok (.iconst 1, 1) := by decide +kernel
theorem dL_refuses_365 : decode cL_refuses 365 = .ok (.goto 4, 3) := by decide +kernel
theorem dL_refuses_368 : decode cL_refuses 368 = .ok (.iconst 0, 1) := by decide +kernel
theorem dL_refuses_369 : decode cL_refuses 369 = .ok (.istore 7, 2) := by decide +kernel
theorem dL_refuses_371 : decode cL_refuses 371 = .ok (.iinc 8 1, 3) := by decide +kernel
theorem dL_refuses_374 : decode cL_refuses 374 = .ok (.goto (-46), 3) := by decide +kernel
theorem dL_refuses_377 : decode cL_refuses 377 = .ok (.iload 7, 2) := by decide +kernel
theorem dL_refuses_379 : decode cL_refuses 379 = .ok (.ifCond .ne 5, 3) := by decide +kernel
theorem dL_refuses_382 : decode cL_refuses 382 = .ok (.iconst 0, 1) := by decide +kernel
theorem dL_refuses_383 : decode cL_refuses 383 = .ok (.ireturn, 1) := by decide +kernel
theorem dL_refuses_384 : decode cL_refuses 384 = .ok (.iinc 5 1, 3) := by decide +kernel
theorem dL_refuses_387 : decode cL_refuses 387 = .ok (.goto (-365), 3) := by decide +kernel
