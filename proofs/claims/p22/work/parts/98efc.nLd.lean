theorem dL_holds_338 : decode cL_holds 338 = .ok (.invokevirtual 21, 3) := by decide +kernel
theorem dL_holds_341 : decode cL_holds 341 = .ok (.ishl, 1) := by decide +kernel
theorem dL_holds_342 : decode cL_holds 342 = .ok (.iconst 1, 1) := by decide +kernel
theorem dL_holds_343 : decode cL_holds 343 = .ok (.isub, 1) := by decide +kernel
theorem dL_holds_344 : decode cL_holds 344 = .ok (.if_icmp .ne 64, 3) := by decide +kernel
theorem dL_holds_347 : decode cL_holds 347 = .ok (.aload_n 0, 1) := by decide +kernel
theorem dL_holds_348 : decode cL_holds 348 = .ok (.iload 6, 2) := by decide +kernel
theorem dL_holds_350 : decode cL_holds 350 = .ok (.bipush 7, 2) := by decide +kernel
theorem dL_holds_352 : decode cL_holds 352 = .ok (.invokevirtual 21, 3) := by decide +kernel
theorem dL_holds_355 : decode cL_holds 355 = .ok (.ifCond .eq 15, 3) := by decide +kernel
theorem dL_holds_358 : decode cL_holds 358 = .ok (.aload_n 0, 1) := by decide +kernel
theorem dL_holds_359 : decode cL_holds 359 = .ok (.iload 6, 2) := by decide +kernel
theorem dL_holds_361 : decode cL_holds 361 = .ok (.bipush 6, 2) := by decide +kernel
theorem dL_holds_363 : decode cL_holds 363 = .ok (.invokevirtual 21, 3) := by decide +kernel
theorem dL_holds_366 : decode cL_holds 366 = .ok (.iconst 1, 1) := by decide +kernel
theorem dL_holds_367 : decode cL_holds 367 = .ok (.if_icmp .ne 41, 3) := by decide +kernel
theorem dL_holds_370 : decode cL_holds 370 = .ok (.aload_n 0, 1) := by decide +kernel
theorem dL_holds_371 : decode cL_holds 371 = .ok (.iload 6, 2) := by decide +kernel
theorem dL_holds_373 : decode cL_holds 373 = .ok (.iconst 5, 1) := by decide +kernel
theorem dL_holds_374 : decode cL_holds 374 = .ok (.invokevirtual 21, 3) := by decide +kernel
theorem dL_holds_377 : decode cL_holds 377 = .ok (.ifCond .lt 31, 3) := by decide +kernel
theorem dL_holds_380 : decode cL_holds 380 = .ok (.aload_n 0, 1) := by decide +kernel
theorem dL_holds_381 : decode cL_holds 381 = .ok (.iload 6, 2) := by decide +kernel
theorem dL_holds_383 : decode cL_holds 383 = .ok (.iconst 4, 1) := by decide +kernel
theorem dL_holds_384 : decode cL_holds 384 = .ok (.invokevirtual 21, 3) := by decide +kernel
theorem dL_holds_387 : decode cL_holds 387 = .ok (.ldc 28, 2) := by decide +kernel
theorem dL_holds_389 : decode cL_holds 389 = .ok (.if_icmp .lt 19, 3) := by decide +kernel
theorem dL_holds_392 : decode cL_holds 392 = .ok (.aload_n 0, 1) := by decide +kernel
theorem dL_holds_393 : decode cL_holds 393 = .ok (.iload 6, 2) := by decide +kernel
theorem dL_holds_395 : decode cL_holds 395 = .ok (.iconst 4, 1) := by decide +kernel
theorem dL_holds_396 : decode cL_holds 396 = .ok (.invokevirtual 21, 3) := by decide +kernel
theorem dL_holds_399 : decode cL_holds 399 = .ok (.ldc 29, 2) := by decide +kernel
theorem dL_holds_401 : decode cL_holds 401 = .ok (.if_icmp .gt 7, 3) := by decide +kernel
theorem dL_holds_404 : decode cL_holds 404 = .ok (.iconst 1, 1) := by decide +kernel
theorem dL_holds_405 : decode cL_holds 405 = .ok (.goto 4, 3) := by decide +kernel
theorem dL_holds_408 : decode cL_holds 408 = .ok (.iconst 0, 1) := by decide +kernel
theorem dL_holds_409 : decode cL_holds 409 = .ok (.istore 5, 2) := by decide +kernel
theorem dL_holds_411 : decode cL_holds 411 = .ok (.iinc 6 1, 3) := by decide +kernel
theorem dL_holds_414 : decode cL_holds 414 = .ok (.goto (-229), 3) := by decide +kernel
theorem dL_holds_417 : decode cL_holds 417 = .ok (.iload 5, 2) := by decide +kernel
theorem dL_holds_419 : decode cL_holds 419 = .ok (.ifCond .eq 27, 3) := by decide +kernel
theorem dL_holds_422 : decode cL_holds 422 = .ok (.lload_n 1, 1) := by decide +kernel
theorem dL_holds_423 : decode cL_holds 423 = .ok (.aload_n 0, 1) := by decide +kernel
theorem dL_holds_424 : decode cL_holds 424 = .ok (.iconst 3, 1) := by decide +kernel
theorem dL_holds_425 : decode cL_holds 425 = .ok (.invokevirtual 9, 3) := by decide +kernel
theorem dL_holds_428 : decode cL_holds 428 = .ok (.lcmp, 1) := by decide +kernel
theorem dL_holds_429 : decode cL_holds 429 = .ok (.ifCond .ne 17, 3) := by decide +kernel
theorem dL_holds_432 : decode cL_holds 432 = .ok (.lload_n 3, 1) := by decide +kernel
theorem dL_holds_433 : decode cL_holds 433 = .ok (.aload_n 0, 1) := by decide +kernel
theorem dL_holds_434 : decode cL_holds 434 = .ok (.iconst 1, 1) := by decide +kernel
theorem dL_holds_435 : decode cL_holds 435 = .ok (.invokevirtual 9, 3) := by decide +kernel
theorem dL_holds_438 : decode cL_holds 438 = .ok (.lcmp, 1) := by decide +kernel
theorem dL_holds_439 : decode cL_holds 439 = .ok (.ifCond .ne 7, 3) := by decide +kernel
theorem dL_holds_442 : decode cL_holds 442 = .ok (.iconst 1, 1) := by decide +kernel
theorem dL_holds_443 : decode cL_holds 443 = .ok (.goto 4, 3) := by decide +kernel
theorem dL_holds_446 : decode cL_holds 446 = .ok (.iconst 0, 1) := by decide +kernel
theorem dL_holds_447 : decode cL_holds 447 = .ok (.ireturn, 1) := by decide +kernel
theorem dL_seen_0 : decode cL_seen 0 = .ok (.iconst 1, 1) := by decide +kernel
theorem dL_seen_1 : decode cL_seen 1 = .ok (.istore_n 2, 1) := by decide +kernel
theorem dL_seen_2 : decode cL_seen 2 = .ok (.iconst 0, 1) := by decide +kernel
theorem dL_seen_3 : decode cL_seen 3 = .ok (.istore_n 3, 1) := by decide +kernel
theorem dL_seen_4 : decode cL_seen 4 = .ok (.iload_n 3, 1) := by decide +kernel
theorem dL_seen_5 : decode cL_seen 5 = .ok (.iconst 4, 1) := by decide +kernel
theorem dL_seen_6 : decode cL_seen 6 = .ok (.if_icmp .ge 152, 3) := by decide +kernel
theorem dL_seen_9 : decode cL_seen 9 = .ok (.iload_n 2, 1) := by decide +kernel
theorem dL_seen_10 : decode cL_seen 10 = .ok (.ifCond .eq 148, 3) := by decide +kernel
theorem dL_seen_13 : decode cL_seen 13 = .ok (.iload_n 3, 1) := by decide +kernel
theorem dL_seen_14 : decode cL_seen 14 = .ok (.ifCond .ne 7, 3) := by decide +kernel
theorem dL_seen_17 : decode cL_seen 17 = .ok (.iconst 1, 1) := by decide +kernel
theorem dL_seen_18 : decode cL_seen 18 = .ok (.goto 24, 3) := by decide +kernel
theorem dL_seen_21 : decode cL_seen 21 = .ok (.iload_n 3, 1) := by decide +kernel
theorem dL_seen_22 : decode cL_seen 22 = .ok (.iconst 1, 1) := by decide +kernel
theorem dL_seen_23 : decode cL_seen 23 = .ok (.if_icmp .ne 7, 3) := by decide +kernel
theorem dL_seen_26 : decode cL_seen 26 = .ok (.iconst 3, 1) := by decide +kernel
theorem dL_seen_27 : decode cL_seen 27 = .ok (.goto 15, 3) := by decide +kernel
theorem dL_seen_30 : decode cL_seen 30 = .ok (.iload_n 3, 1) := by decide +kernel
theorem dL_seen_31 : decode cL_seen 31 = .ok (.iconst 2, 1) := by decide +kernel
theorem dL_seen_32 : decode cL_seen 32 = .ok (.if_icmp .ne 8, 3) := by decide +kernel
theorem dL_seen_35 : decode cL_seen 35 = .ok (.bipush 9, 2) := by decide +kernel
theorem dL_seen_37 : decode cL_seen 37 = .ok (.goto 5, 3) := by decide +kernel
theorem dL_seen_40 : decode cL_seen 40 = .ok (.bipush 27, 2) := by decide +kernel
theorem dL_seen_42 : decode cL_seen 42 = .ok (.istore 4, 2) := by decide +kernel
theorem dL_seen_44 : decode cL_seen 44 = .ok (.iconst 0, 1) := by decide +kernel
theorem dL_seen_45 : decode cL_seen 45 = .ok (.istore 5, 2) := by decide +kernel
theorem dL_seen_47 : decode cL_seen 47 = .ok (.iconst 0, 1) := by decide +kernel
theorem dL_seen_48 : decode cL_seen 48 = .ok (.istore 6, 2) := by decide +kernel
theorem dL_seen_50 : decode cL_seen 50 = .ok (.aload_n 0, 1) := by decide +kernel
theorem dL_seen_51 : decode cL_seen 51 = .ok (.iconst 2, 1) := by decide +kernel
theorem dL_seen_52 : decode cL_seen 52 = .ok (.invokevirtual 9, 3) := by decide +kernel
theorem dL_seen_55 : decode cL_seen 55 = .ok (.l2i, 1) := by decide +kernel
theorem dL_seen_56 : decode cL_seen 56 = .ok (.iconst 1, 1) := by decide +kernel
theorem dL_seen_57 : decode cL_seen 57 = .ok (.isub, 1) := by decide +kernel
theorem dL_seen_58 : decode cL_seen 58 = .ok (.istore 7, 2) := by decide +kernel
theorem dL_seen_60 : decode cL_seen 60 = .ok (.iload 7, 2) := by decide +kernel
theorem dL_seen_62 : decode cL_seen 62 = .ok (.ifCond .lt 90, 3) := by decide +kernel
theorem dL_seen_65 : decode cL_seen 65 = .ok (.iload_n 2, 1) := by decide +kernel
theorem dL_seen_66 : decode cL_seen 66 = .ok (.ifCond .eq 86, 3) := by decide +kernel
theorem dL_seen_69 : decode cL_seen 69 = .ok (.aload_n 0, 1) := by decide +kernel
theorem dL_seen_70 : decode cL_seen 70 = .ok (.iload 7, 2) := by decide +kernel
theorem dL_seen_72 : decode cL_seen 72 = .ok (.iconst 3, 1) := by decide +kernel
