theorem dL_layers_355 : decode cL_layers 355 = .ok (.aload_n 0, 1) := by decide +kernel
theorem dL_layers_356 : decode cL_layers 356 = .ok (.iconst 2, 1) := by decide +kernel
theorem dL_layers_357 : decode cL_layers 357 = .ok (.invokevirtual 20, 3) := by decide +kernel
theorem dL_layers_360 : decode cL_layers 360 = .ok (.ifCond .eq 5, 3) := by decide +kernel
theorem dL_layers_363 : decode cL_layers 363 = .ok (.iconst 0, 1) := by decide +kernel
theorem dL_layers_364 : decode cL_layers 364 = .ok (.ireturn, 1) := by decide +kernel
theorem dL_layers_365 : decode cL_layers 365 = .ok (.aload_n 0, 1) := by decide +kernel
theorem dL_layers_366 : decode cL_layers 366 = .ok (.invokestatic 99, 3) := by decide +kernel
theorem dL_layers_369 : decode cL_layers 369 = .ok (.iconst 2, 1) := by decide +kernel
theorem dL_layers_370 : decode cL_layers 370 = .ok (.if_icmp .ne 129, 3) := by decide +kernel
theorem dL_layers_373 : decode cL_layers 373 = .ok (.aload_n 0, 1) := by decide +kernel
theorem dL_layers_374 : decode cL_layers 374 = .ok (.invokevirtual 78, 3) := by decide +kernel
theorem dL_layers_377 : decode cL_layers 377 = .ok (.ifCond .ne 122, 3) := by decide +kernel
theorem dL_layers_380 : decode cL_layers 380 = .ok (.aload_n 0, 1) := by decide +kernel
theorem dL_layers_381 : decode cL_layers 381 = .ok (.invokevirtual 61, 3) := by decide +kernel
theorem dL_layers_384 : decode cL_layers 384 = .ok (.ifCond .ne 115, 3) := by decide +kernel
theorem dL_layers_387 : decode cL_layers 387 = .ok (.aload_n 0, 1) := by decide +kernel
theorem dL_layers_388 : decode cL_layers 388 = .ok (.iconst 0, 1) := by decide +kernel
theorem dL_layers_389 : decode cL_layers 389 = .ok (.invokevirtual 20, 3) := by decide +kernel
theorem dL_layers_392 : decode cL_layers 392 = .ok (.iconst 4, 1) := by decide +kernel
theorem dL_layers_393 : decode cL_layers 393 = .ok (.if_icmp .ne 106, 3) := by decide +kernel
theorem dL_layers_396 : decode cL_layers 396 = .ok (.aload_n 0, 1) := by decide +kernel
theorem dL_layers_397 : decode cL_layers 397 = .ok (.bipush 12, 2) := by decide +kernel
theorem dL_layers_399 : decode cL_layers 399 = .ok (.bipush 7, 2) := by decide +kernel
theorem dL_layers_401 : decode cL_layers 401 = .ok (.invokevirtual 7, 3) := by decide +kernel
theorem dL_layers_404 : decode cL_layers 404 = .ok (.iconst 1, 1) := by decide +kernel
theorem dL_layers_405 : decode cL_layers 405 = .ok (.if_icmp .ne 94, 3) := by decide +kernel
theorem dL_layers_408 : decode cL_layers 408 = .ok (.aload_n 0, 1) := by decide +kernel
theorem dL_layers_409 : decode cL_layers 409 = .ok (.iconst 1, 1) := by decide +kernel
theorem dL_layers_410 : decode cL_layers 410 = .ok (.invokevirtual 16, 3) := by decide +kernel
theorem dL_layers_413 : decode cL_layers 413 = .ok (.iconst 1, 1) := by decide +kernel
theorem dL_layers_414 : decode cL_layers 414 = .ok (.if_icmp .ne 85, 3) := by decide +kernel
theorem dL_layers_417 : decode cL_layers 417 = .ok (.aload_n 0, 1) := by decide +kernel
theorem dL_layers_418 : decode cL_layers 418 = .ok (.invokevirtual 57, 3) := by decide +kernel
theorem dL_layers_421 : decode cL_layers 421 = .ok (.bipush 7, 2) := by decide +kernel
theorem dL_layers_423 : decode cL_layers 423 = .ok (.if_icmp .ne 76, 3) := by decide +kernel
theorem dL_layers_426 : decode cL_layers 426 = .ok (.aload_n 0, 1) := by decide +kernel
theorem dL_layers_427 : decode cL_layers 427 = .ok (.bipush 12, 2) := by decide +kernel
theorem dL_layers_429 : decode cL_layers 429 = .ok (.iconst 0, 1) := by decide +kernel
theorem dL_layers_430 : decode cL_layers 430 = .ok (.invokevirtual 7, 3) := by decide +kernel
theorem dL_layers_433 : decode cL_layers 433 = .ok (.iconst 1, 1) := by decide +kernel
theorem dL_layers_434 : decode cL_layers 434 = .ok (.if_icmp .ne 65, 3) := by decide +kernel
theorem dL_layers_437 : decode cL_layers 437 = .ok (.aload_n 0, 1) := by decide +kernel
theorem dL_layers_438 : decode cL_layers 438 = .ok (.iconst 0, 1) := by decide +kernel
theorem dL_layers_439 : decode cL_layers 439 = .ok (.invokevirtual 48, 3) := by decide +kernel
theorem dL_layers_442 : decode cL_layers 442 = .ok (.ifCond .ne 57, 3) := by decide +kernel
theorem dL_layers_445 : decode cL_layers 445 = .ok (.aload_n 0, 1) := by decide +kernel
theorem dL_layers_446 : decode cL_layers 446 = .ok (.iconst 1, 1) := by decide +kernel
theorem dL_layers_447 : decode cL_layers 447 = .ok (.invokevirtual 16, 3) := by decide +kernel
theorem dL_layers_450 : decode cL_layers 450 = .ok (.iconst 1, 1) := by decide +kernel
theorem dL_layers_451 : decode cL_layers 451 = .ok (.if_icmp .ne 48, 3) := by decide +kernel
theorem dL_layers_454 : decode cL_layers 454 = .ok (.aload_n 0, 1) := by decide +kernel
theorem dL_layers_455 : decode cL_layers 455 = .ok (.invokevirtual 57, 3) := by decide +kernel
theorem dL_layers_458 : decode cL_layers 458 = .ok (.bipush 6, 2) := by decide +kernel
theorem dL_layers_460 : decode cL_layers 460 = .ok (.if_icmp .ne 39, 3) := by decide +kernel
theorem dL_layers_463 : decode cL_layers 463 = .ok (.aload_n 0, 1) := by decide +kernel
theorem dL_layers_464 : decode cL_layers 464 = .ok (.iconst 0, 1) := by decide +kernel
theorem dL_layers_465 : decode cL_layers 465 = .ok (.invokevirtual 26, 3) := by decide +kernel
theorem dL_layers_468 : decode cL_layers 468 = .ok (.iconst 1, 1) := by decide +kernel
theorem dL_layers_469 : decode cL_layers 469 = .ok (.if_icmp .ne 30, 3) := by decide +kernel
theorem dL_layers_472 : decode cL_layers 472 = .ok (.aload_n 0, 1) := by decide +kernel
theorem dL_layers_473 : decode cL_layers 473 = .ok (.iconst 0, 1) := by decide +kernel
theorem dL_layers_474 : decode cL_layers 474 = .ok (.iconst 5, 1) := by decide +kernel
theorem dL_layers_475 : decode cL_layers 475 = .ok (.iconst 2, 1) := by decide +kernel
theorem dL_layers_476 : decode cL_layers 476 = .ok (.iconst 2, 1) := by decide +kernel
theorem dL_layers_477 : decode cL_layers 477 = .ok (.iconst 1, 1) := by decide +kernel
theorem dL_layers_478 : decode cL_layers 478 = .ok (.invokestatic 91, 3) := by decide +kernel
theorem dL_layers_481 : decode cL_layers 481 = .ok (.ifCond .eq 18, 3) := by decide +kernel
theorem dL_layers_484 : decode cL_layers 484 = .ok (.aload_n 0, 1) := by decide +kernel
theorem dL_layers_485 : decode cL_layers 485 = .ok (.iconst 2, 1) := by decide +kernel
theorem dL_layers_486 : decode cL_layers 486 = .ok (.invokevirtual 23, 3) := by decide +kernel
theorem dL_layers_489 : decode cL_layers 489 = .ok (.ifCond .ne 10, 3) := by decide +kernel
theorem dL_layers_492 : decode cL_layers 492 = .ok (.aload_n 0, 1) := by decide +kernel
theorem dL_layers_493 : decode cL_layers 493 = .ok (.invokestatic 87, 3) := by decide +kernel
theorem dL_layers_496 : decode cL_layers 496 = .ok (.ifCond .ne 5, 3) := by decide +kernel
