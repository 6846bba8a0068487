theorem dL_turns_296 : decode cL_turns 296 = .ok (.ifCond .ne 84, 3) := by decide +kernel
theorem dL_turns_299 : decode cL_turns 299 = .ok (.aload_n 0, 1) := by decide +kernel
theorem dL_turns_300 : decode cL_turns 300 = .ok (.iconst 1, 1) := by decide +kernel
theorem dL_turns_301 : decode cL_turns 301 = .ok (.iconst 0, 1) := by decide +kernel
theorem dL_turns_302 : decode cL_turns 302 = .ok (.iconst 1, 1) := by decide +kernel
theorem dL_turns_303 : decode cL_turns 303 = .ok (.invokestatic 95, 3) := by decide +kernel
theorem dL_turns_306 : decode cL_turns 306 = .ok (.ifCond .eq 74, 3) := by decide +kernel
theorem dL_turns_309 : decode cL_turns 309 = .ok (.aload_n 0, 1) := by decide +kernel
theorem dL_turns_310 : decode cL_turns 310 = .ok (.iconst 1, 1) := by decide +kernel
theorem dL_turns_311 : decode cL_turns 311 = .ok (.invokevirtual 26, 3) := by decide +kernel
theorem dL_turns_314 : decode cL_turns 314 = .ok (.iconst 1, 1) := by decide +kernel
theorem dL_turns_315 : decode cL_turns 315 = .ok (.if_icmp .ne 65, 3) := by decide +kernel
theorem dL_turns_318 : decode cL_turns 318 = .ok (.aload_n 0, 1) := by decide +kernel
theorem dL_turns_319 : decode cL_turns 319 = .ok (.iconst 1, 1) := by decide +kernel
theorem dL_turns_320 : decode cL_turns 320 = .ok (.iconst 5, 1) := by decide +kernel
theorem dL_turns_321 : decode cL_turns 321 = .ok (.iconst 0, 1) := by decide +kernel
theorem dL_turns_322 : decode cL_turns 322 = .ok (.iconst 2, 1) := by decide +kernel
theorem dL_turns_323 : decode cL_turns 323 = .ok (.iconst 1, 1) := by decide +kernel
theorem dL_turns_324 : decode cL_turns 324 = .ok (.invokestatic 91, 3) := by decide +kernel
theorem dL_turns_327 : decode cL_turns 327 = .ok (.ifCond .eq 53, 3) := by decide +kernel
theorem dL_turns_330 : decode cL_turns 330 = .ok (.aload_n 0, 1) := by decide +kernel
theorem dL_turns_331 : decode cL_turns 331 = .ok (.iconst 0, 1) := by decide +kernel
theorem dL_turns_332 : decode cL_turns 332 = .ok (.iconst 0, 1) := by decide +kernel
theorem dL_turns_333 : decode cL_turns 333 = .ok (.invokevirtual 13, 3) := by decide +kernel
theorem dL_turns_336 : decode cL_turns 336 = .ok (.iconst 2, 1) := by decide +kernel
theorem dL_turns_337 : decode cL_turns 337 = .ok (.if_icmp .ne 43, 3) := by decide +kernel
theorem dL_turns_340 : decode cL_turns 340 = .ok (.aload_n 0, 1) := by decide +kernel
theorem dL_turns_341 : decode cL_turns 341 = .ok (.iconst 0, 1) := by decide +kernel
theorem dL_turns_342 : decode cL_turns 342 = .ok (.iconst 0, 1) := by decide +kernel
theorem dL_turns_343 : decode cL_turns 343 = .ok (.iconst 0, 1) := by decide +kernel
theorem dL_turns_344 : decode cL_turns 344 = .ok (.invokestatic 68, 3) := by decide +kernel
theorem dL_turns_347 : decode cL_turns 347 = .ok (.bipush (-73), 2) := by decide +kernel
theorem dL_turns_349 : decode cL_turns 349 = .ok (.if_icmp .ne 31, 3) := by decide +kernel
theorem dL_turns_352 : decode cL_turns 352 = .ok (.aload_n 0, 1) := by decide +kernel
theorem dL_turns_353 : decode cL_turns 353 = .ok (.bipush 12, 2) := by decide +kernel
theorem dL_turns_355 : decode cL_turns 355 = .ok (.iconst 2, 1) := by decide +kernel
theorem dL_turns_356 : decode cL_turns 356 = .ok (.invokevirtual 13, 3) := by decide +kernel
theorem dL_turns_359 : decode cL_turns 359 = .ok (.iconst 3, 1) := by decide +kernel
theorem dL_turns_360 : decode cL_turns 360 = .ok (.if_icmp .ne 20, 3) := by decide +kernel
theorem dL_turns_363 : decode cL_turns 363 = .ok (.aload_n 0, 1) := by decide +kernel
theorem dL_turns_364 : decode cL_turns 364 = .ok (.bipush 12, 2) := by decide +kernel
theorem dL_turns_366 : decode cL_turns 366 = .ok (.iconst 1, 1) := by decide +kernel
theorem dL_turns_367 : decode cL_turns 367 = .ok (.invokevirtual 13, 3) := by decide +kernel
theorem dL_turns_370 : decode cL_turns 370 = .ok (.ifCond .ne 10, 3) := by decide +kernel
theorem dL_turns_373 : decode cL_turns 373 = .ok (.aload_n 0, 1) := by decide +kernel
theorem dL_turns_374 : decode cL_turns 374 = .ok (.invokestatic 87, 3) := by decide +kernel
theorem dL_turns_377 : decode cL_turns 377 = .ok (.ifCond .ne 5, 3) := by decide +kernel
theorem dL_turns_380 : decode cL_turns 380 = .ok (.iconst 0, 1) := by decide +kernel
theorem dL_turns_381 : decode cL_turns 381 = .ok (.ireturn, 1) := by decide +kernel
theorem dL_turns_382 : decode cL_turns 382 = .ok (.aload_n 0, 1) := by decide +kernel
theorem dL_turns_383 : decode cL_turns 383 = .ok (.invokestatic 99, 3) := by decide +kernel
theorem dL_turns_386 : decode cL_turns 386 = .ok (.iconst 2, 1) := by decide +kernel
theorem dL_turns_387 : decode cL_turns 387 = .ok (.if_icmp .ne 197, 3) := by decide +kernel
theorem dL_turns_390 : decode cL_turns 390 = .ok (.aload_n 0, 1) := by decide +kernel
theorem dL_turns_391 : decode cL_turns 391 = .ok (.invokevirtual 78, 3) := by decide +kernel
theorem dL_turns_394 : decode cL_turns 394 = .ok (.iconst 1, 1) := by decide +kernel
theorem dL_turns_395 : decode cL_turns 395 = .ok (.if_icmp .ne 189, 3) := by decide +kernel
theorem dL_turns_398 : decode cL_turns 398 = .ok (.aload_n 0, 1) := by decide +kernel
theorem dL_turns_399 : decode cL_turns 399 = .ok (.invokevirtual 64, 3) := by decide +kernel
theorem dL_turns_402 : decode cL_turns 402 = .ok (.iconst 1, 1) := by decide +kernel
theorem dL_turns_403 : decode cL_turns 403 = .ok (.if_icmp .ne 181, 3) := by decide +kernel
theorem dL_turns_406 : decode cL_turns 406 = .ok (.aload_n 0, 1) := by decide +kernel
theorem dL_turns_407 : decode cL_turns 407 = .ok (.iconst 1, 1) := by decide +kernel
theorem dL_turns_408 : decode cL_turns 408 = .ok (.invokevirtual 20, 3) := by decide +kernel
theorem dL_turns_411 : decode cL_turns 411 = .ok (.bipush 9, 2) := by decide +kernel
theorem dL_turns_413 : decode cL_turns 413 = .ok (.if_icmp .ne 171, 3) := by decide +kernel
theorem dL_turns_416 : decode cL_turns 416 = .ok (.aload_n 0, 1) := by decide +kernel
theorem dL_turns_417 : decode cL_turns 417 = .ok (.invokevirtual 81, 3) := by decide +kernel
theorem dL_turns_420 : decode cL_turns 420 = .ok (.iconst 1, 1) := by decide +kernel
theorem dL_turns_421 : decode cL_turns 421 = .ok (.if_icmp .ne 163, 3) := by decide +kernel
theorem dL_turns_424 : decode cL_turns 424 = .ok (.aload_n 0, 1) := by decide +kernel
theorem dL_turns_425 : decode cL_turns 425 = .ok (.invokevirtual 61, 3) := by decide +kernel
theorem dL_turns_428 : decode cL_turns 428 = .ok (.ifCond .ne 156, 3) := by decide +kernel
theorem dL_turns_431 : decode cL_turns 431 = .ok (.aload_n 0, 1) := by decide +kernel
theorem dL_turns_432 : decode cL_turns 432 = .ok (.invokestatic 99, 3) := by decide +kernel
