theorem dL_loops_271 : decode cL_loops 271 = .ok (.invokevirtual 7, 3) := by decide +kernel
theorem dL_loops_274 : decode cL_loops 274 = .ok (.iconst 1, 1) := by decide +kernel
theorem dL_loops_275 : decode cL_loops 275 = .ok (.if_icmp .ne 50, 3) := by decide +kernel
theorem dL_loops_278 : decode cL_loops 278 = .ok (.aload_n 0, 1) := by decide +kernel
theorem dL_loops_279 : decode cL_loops 279 = .ok (.iconst 1, 1) := by decide +kernel
theorem dL_loops_280 : decode cL_loops 280 = .ok (.invokevirtual 16, 3) := by decide +kernel
theorem dL_loops_283 : decode cL_loops 283 = .ok (.iconst 1, 1) := by decide +kernel
theorem dL_loops_284 : decode cL_loops 284 = .ok (.if_icmp .ne 41, 3) := by decide +kernel
theorem dL_loops_287 : decode cL_loops 287 = .ok (.aload_n 0, 1) := by decide +kernel
theorem dL_loops_288 : decode cL_loops 288 = .ok (.invokevirtual 57, 3) := by decide +kernel
theorem dL_loops_291 : decode cL_loops 291 = .ok (.bipush 9, 2) := by decide +kernel
theorem dL_loops_293 : decode cL_loops 293 = .ok (.if_icmp .ne 32, 3) := by decide +kernel
theorem dL_loops_296 : decode cL_loops 296 = .ok (.aload_n 0, 1) := by decide +kernel
theorem dL_loops_297 : decode cL_loops 297 = .ok (.iconst 0, 1) := by decide +kernel
theorem dL_loops_298 : decode cL_loops 298 = .ok (.invokevirtual 38, 3) := by decide +kernel
theorem dL_loops_301 : decode cL_loops 301 = .ok (.bipush 10, 2) := by decide +kernel
theorem dL_loops_303 : decode cL_loops 303 = .ok (.if_icmp .ne 22, 3) := by decide +kernel
theorem dL_loops_306 : decode cL_loops 306 = .ok (.aload_n 0, 1) := by decide +kernel
theorem dL_loops_307 : decode cL_loops 307 = .ok (.invokevirtual 84, 3) := by decide +kernel
theorem dL_loops_310 : decode cL_loops 310 = .ok (.iconst 1, 1) := by decide +kernel
theorem dL_loops_311 : decode cL_loops 311 = .ok (.if_icmp .ne 14, 3) := by decide +kernel
theorem dL_loops_314 : decode cL_loops 314 = .ok (.aload_n 0, 1) := by decide +kernel
theorem dL_loops_315 : decode cL_loops 315 = .ok (.invokestatic 87, 3) := by decide +kernel
theorem dL_loops_318 : decode cL_loops 318 = .ok (.ifCond .eq 7, 3) := by decide +kernel
theorem dL_loops_321 : decode cL_loops 321 = .ok (.iconst 1, 1) := by decide +kernel
theorem dL_loops_322 : decode cL_loops 322 = .ok (.goto 4, 3) := by decide +kernel
theorem dL_loops_325 : decode cL_loops 325 = .ok (.iconst 0, 1) := by decide +kernel
theorem dL_loops_326 : decode cL_loops 326 = .ok (.ireturn, 1) := by decide +kernel
theorem dL_law_0 : decode cL_law 0 = .ok (.invokestatic 103, 3) := by decide +kernel
theorem dL_law_3 : decode cL_law 3 = .ok (.ifCond .eq 21, 3) := by decide +kernel
theorem dL_law_6 : decode cL_law 6 = .ok (.invokestatic 107, 3) := by decide +kernel
theorem dL_law_9 : decode cL_law 9 = .ok (.ifCond .eq 15, 3) := by decide +kernel
theorem dL_law_12 : decode cL_law 12 = .ok (.invokestatic 110, 3) := by decide +kernel
theorem dL_law_15 : decode cL_law 15 = .ok (.ifCond .eq 9, 3) := by decide +kernel
theorem dL_law_18 : decode cL_law 18 = .ok (.invokestatic 113, 3) := by decide +kernel
theorem dL_law_21 : decode cL_law 21 = .ok (.ifCond .ne 5, 3) := by decide +kernel
theorem dL_law_24 : decode cL_law 24 = .ok (.iconst 0, 1) := by decide +kernel
theorem dL_law_25 : decode cL_law 25 = .ok (.ireturn, 1) := by decide +kernel
theorem dL_law_26 : decode cL_law 26 = .ok (.new 8, 3) := by decide +kernel
theorem dL_law_29 : decode cL_law 29 = .ok (.dup, 1) := by decide +kernel
theorem dL_law_30 : decode cL_law 30 = .ok (.invokespecial 77, 3) := by decide +kernel
theorem dL_law_33 : decode cL_law 33 = .ok (.astore_n 1, 1) := by decide +kernel
theorem dL_law_34 : decode cL_law 34 = .ok (.iconst 0, 1) := by decide +kernel
theorem dL_law_35 : decode cL_law 35 = .ok (.istore_n 2, 1) := by decide +kernel
theorem dL_law_36 : decode cL_law 36 = .ok (.iload_n 2, 1) := by decide +kernel
theorem dL_law_37 : decode cL_law 37 = .ok (.bipush 40, 2) := by decide +kernel
theorem dL_law_39 : decode cL_law 39 = .ok (.if_icmp .ge 127, 3) := by decide +kernel
theorem dL_law_42 : decode cL_law 42 = .ok (.aload_n 0, 1) := by decide +kernel
theorem dL_law_43 : decode cL_law 43 = .ok (.arraylength, 1) := by decide +kernel
theorem dL_law_44 : decode cL_law 44 = .ok (.ifCond .ne 9, 3) := by decide +kernel
theorem dL_law_47 : decode cL_law 47 = .ok (.iconst 5, 1) := by decide +kernel
theorem dL_law_48 : decode cL_law 48 = .ok (.iload_n 2, 1) := by decide +kernel
theorem dL_law_49 : decode cL_law 49 = .ok (.imul, 1) := by decide +kernel
theorem dL_law_50 : decode cL_law 50 = .ok (.goto 12, 3) := by decide +kernel
theorem dL_law_53 : decode cL_law 53 = .ok (.aload_n 0, 1) := by decide +kernel
theorem dL_law_54 : decode cL_law 54 = .ok (.iload_n 2, 1) := by decide +kernel
theorem dL_law_55 : decode cL_law 55 = .ok (.aload_n 0, 1) := by decide +kernel
theorem dL_law_56 : decode cL_law 56 = .ok (.arraylength, 1) := by decide +kernel
theorem dL_law_57 : decode cL_law 57 = .ok (.irem, 1) := by decide +kernel
theorem dL_law_58 : decode cL_law 58 = .ok (.iaload, 1) := by decide +kernel
theorem dL_law_59 : decode cL_law 59 = .ok (.bipush 11, 2) := by decide +kernel
theorem dL_law_61 : decode cL_law 61 = .ok (.iushr, 1) := by decide +kernel
theorem dL_law_62 : decode cL_law 62 = .ok (.istore_n 3, 1) := by decide +kernel
theorem dL_law_63 : decode cL_law 63 = .ok (.aload_n 1, 1) := by decide +kernel
theorem dL_law_64 : decode cL_law 64 = .ok (.iload_n 3, 1) := by decide +kernel
theorem dL_law_65 : decode cL_law 65 = .ok (.bipush 14, 2) := by decide +kernel
theorem dL_law_67 : decode cL_law 67 = .ok (.irem, 1) := by decide +kernel
theorem dL_law_68 : decode cL_law 68 = .ok (.iload_n 3, 1) := by decide +kernel
theorem dL_law_69 : decode cL_law 69 = .ok (.bipush 14, 2) := by decide +kernel
theorem dL_law_71 : decode cL_law 71 = .ok (.idiv, 1) := by decide +kernel
theorem dL_law_72 : decode cL_law 72 = .ok (.bipush 9, 2) := by decide +kernel
theorem dL_law_74 : decode cL_law 74 = .ok (.irem, 1) := by decide +kernel
theorem dL_law_75 : decode cL_law 75 = .ok (.invokevirtual 13, 3) := by decide +kernel
theorem dL_law_78 : decode cL_law 78 = .ok (.istore 4, 2) := by decide +kernel
theorem dL_law_80 : decode cL_law 80 = .ok (.aload_n 1, 1) := by decide +kernel
