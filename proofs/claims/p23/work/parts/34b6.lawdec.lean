theorem dL_stacks_282 : decode cL_stacks 282 = .ok (.if_icmp .ne 28, 3) := by decide +kernel
theorem dL_stacks_285 : decode cL_stacks 285 = .ok (.aload_n 0, 1) := by decide +kernel
theorem dL_stacks_286 : decode cL_stacks 286 = .ok (.bipush 60, 2) := by decide +kernel
theorem dL_stacks_288 : decode cL_stacks 288 = .ok (.invokevirtual 16, 3) := by decide +kernel
theorem dL_stacks_291 : decode cL_stacks 291 = .ok (.bipush 9, 2) := by decide +kernel
theorem dL_stacks_293 : decode cL_stacks 293 = .ok (.if_icmp .ne 17, 3) := by decide +kernel
theorem dL_stacks_296 : decode cL_stacks 296 = .ok (.aload_n 0, 1) := by decide +kernel
theorem dL_stacks_297 : decode cL_stacks 297 = .ok (.invokevirtual 84, 3) := by decide +kernel
theorem dL_stacks_300 : decode cL_stacks 300 = .ok (.ifCond .ne 10, 3) := by decide +kernel
theorem dL_stacks_303 : decode cL_stacks 303 = .ok (.aload_n 0, 1) := by decide +kernel
theorem dL_stacks_304 : decode cL_stacks 304 = .ok (.invokestatic 87, 3) := by decide +kernel
theorem dL_stacks_307 : decode cL_stacks 307 = .ok (.ifCond .ne 5, 3) := by decide +kernel
theorem dL_stacks_310 : decode cL_stacks 310 = .ok (.iconst 0, 1) := by decide +kernel
theorem dL_stacks_311 : decode cL_stacks 311 = .ok (.ireturn, 1) := by decide +kernel
theorem dL_stacks_312 : decode cL_stacks 312 = .ok (.new 8, 3) := by decide +kernel
theorem dL_stacks_315 : decode cL_stacks 315 = .ok (.dup, 1) := by decide +kernel
theorem dL_stacks_316 : decode cL_stacks 316 = .ok (.invokespecial 77, 3) := by decide +kernel
theorem dL_stacks_319 : decode cL_stacks 319 = .ok (.astore_n 1, 1) := by decide +kernel
theorem dL_stacks_320 : decode cL_stacks 320 = .ok (.aload_n 1, 1) := by decide +kernel
theorem dL_stacks_321 : decode cL_stacks 321 = .ok (.bipush 10, 2) := by decide +kernel
theorem dL_stacks_323 : decode cL_stacks 323 = .ok (.iconst 0, 1) := by decide +kernel
theorem dL_stacks_324 : decode cL_stacks 324 = .ok (.iconst 3, 1) := by decide +kernel
theorem dL_stacks_325 : decode cL_stacks 325 = .ok (.invokestatic 95, 3) := by decide +kernel
theorem dL_stacks_328 : decode cL_stacks 328 = .ok (.ifCond .eq 141, 3) := by decide +kernel
theorem dL_stacks_331 : decode cL_stacks 331 = .ok (.aload_n 1, 1) := by decide +kernel
theorem dL_stacks_332 : decode cL_stacks 332 = .ok (.bipush 11, 2) := by decide +kernel
theorem dL_stacks_334 : decode cL_stacks 334 = .ok (.iconst 0, 1) := by decide +kernel
theorem dL_stacks_335 : decode cL_stacks 335 = .ok (.iconst 0, 1) := by decide +kernel
theorem dL_stacks_336 : decode cL_stacks 336 = .ok (.invokestatic 95, 3) := by decide +kernel
theorem dL_stacks_339 : decode cL_stacks 339 = .ok (.ifCond .eq 130, 3) := by decide +kernel
theorem dL_stacks_342 : decode cL_stacks 342 = .ok (.aload_n 1, 1) := by decide +kernel
theorem dL_stacks_343 : decode cL_stacks 343 = .ok (.invokevirtual 61, 3) := by decide +kernel
theorem dL_stacks_346 : decode cL_stacks 346 = .ok (.ifCond .ne 123, 3) := by decide +kernel
theorem dL_stacks_349 : decode cL_stacks 349 = .ok (.aload_n 1, 1) := by decide +kernel
theorem dL_stacks_350 : decode cL_stacks 350 = .ok (.invokestatic 99, 3) := by decide +kernel
theorem dL_stacks_353 : decode cL_stacks 353 = .ok (.iconst 2, 1) := by decide +kernel
theorem dL_stacks_354 : decode cL_stacks 354 = .ok (.if_icmp .ne 115, 3) := by decide +kernel
theorem dL_stacks_357 : decode cL_stacks 357 = .ok (.aload_n 1, 1) := by decide +kernel
theorem dL_stacks_358 : decode cL_stacks 358 = .ok (.bipush 9, 2) := by decide +kernel
theorem dL_stacks_360 : decode cL_stacks 360 = .ok (.iconst 0, 1) := by decide +kernel
theorem dL_stacks_361 : decode cL_stacks 361 = .ok (.bipush 7, 2) := by decide +kernel
theorem dL_stacks_363 : decode cL_stacks 363 = .ok (.invokestatic 95, 3) := by decide +kernel
theorem dL_stacks_366 : decode cL_stacks 366 = .ok (.ifCond .eq 103, 3) := by decide +kernel
theorem dL_stacks_369 : decode cL_stacks 369 = .ok (.aload_n 1, 1) := by decide +kernel
theorem dL_stacks_370 : decode cL_stacks 370 = .ok (.invokevirtual 61, 3) := by decide +kernel
theorem dL_stacks_373 : decode cL_stacks 373 = .ok (.iconst 1, 1) := by decide +kernel
theorem dL_stacks_374 : decode cL_stacks 374 = .ok (.if_icmp .ne 95, 3) := by decide +kernel
theorem dL_stacks_377 : decode cL_stacks 377 = .ok (.aload_n 1, 1) := by decide +kernel
theorem dL_stacks_378 : decode cL_stacks 378 = .ok (.iconst 0, 1) := by decide +kernel
theorem dL_stacks_379 : decode cL_stacks 379 = .ok (.invokevirtual 38, 3) := by decide +kernel
theorem dL_stacks_382 : decode cL_stacks 382 = .ok (.bipush 11, 2) := by decide +kernel
theorem dL_stacks_384 : decode cL_stacks 384 = .ok (.if_icmp .ne 85, 3) := by decide +kernel
theorem dL_stacks_387 : decode cL_stacks 387 = .ok (.aload_n 1, 1) := by decide +kernel
theorem dL_stacks_388 : decode cL_stacks 388 = .ok (.bipush 9, 2) := by decide +kernel
theorem dL_stacks_390 : decode cL_stacks 390 = .ok (.invokevirtual 16, 3) := by decide +kernel
theorem dL_stacks_393 : decode cL_stacks 393 = .ok (.iconst 1, 1) := by decide +kernel
theorem dL_stacks_394 : decode cL_stacks 394 = .ok (.if_icmp .ne 75, 3) := by decide +kernel
theorem dL_stacks_397 : decode cL_stacks 397 = .ok (.aload_n 1, 1) := by decide +kernel
theorem dL_stacks_398 : decode cL_stacks 398 = .ok (.iconst 0, 1) := by decide +kernel
theorem dL_stacks_399 : decode cL_stacks 399 = .ok (.iconst 0, 1) := by decide +kernel
theorem dL_stacks_400 : decode cL_stacks 400 = .ok (.invokevirtual 7, 3) := by decide +kernel
theorem dL_stacks_403 : decode cL_stacks 403 = .ok (.iconst 1, 1) := by decide +kernel
theorem dL_stacks_404 : decode cL_stacks 404 = .ok (.if_icmp .ne 65, 3) := by decide +kernel
theorem dL_stacks_407 : decode cL_stacks 407 = .ok (.aload_n 1, 1) := by decide +kernel
theorem dL_stacks_408 : decode cL_stacks 408 = .ok (.iconst 1, 1) := by decide +kernel
theorem dL_stacks_409 : decode cL_stacks 409 = .ok (.invokevirtual 16, 3) := by decide +kernel
theorem dL_stacks_412 : decode cL_stacks 412 = .ok (.iconst 1, 1) := by decide +kernel
theorem dL_stacks_413 : decode cL_stacks 413 = .ok (.if_icmp .ne 56, 3) := by decide +kernel
theorem dL_stacks_416 : decode cL_stacks 416 = .ok (.aload_n 1, 1) := by decide +kernel
theorem dL_stacks_417 : decode cL_stacks 417 = .ok (.invokevirtual 57, 3) := by decide +kernel
theorem dL_stacks_420 : decode cL_stacks 420 = .ok (.iconst 4, 1) := by decide +kernel
theorem dL_stacks_421 : decode cL_stacks 421 = .ok (.if_icmp .ne 48, 3) := by decide +kernel
theorem dL_stacks_424 : decode cL_stacks 424 = .ok (.aload_n 1, 1) := by decide +kernel
theorem dL_stacks_425 : decode cL_stacks 425 = .ok (.invokevirtual 61, 3) := by decide +kernel
theorem dL_stacks_428 : decode cL_stacks 428 = .ok (.iconst 2, 1) := by decide +kernel
