theorem dL_law_383 : decode cL_law 383 = .ok (.iaload, 1) := by decide +kernel
theorem dL_law_384 : decode cL_law 384 = .ok (.if_icmp .ne 19, 3) := by decide +kernel
theorem dL_law_387 : decode cL_law 387 = .ok (.aload_n 1, 1) := by decide +kernel
theorem dL_law_388 : decode cL_law 388 = .ok (.bipush 8, 2) := by decide +kernel
theorem dL_law_390 : decode cL_law 390 = .ok (.invokevirtual 19, 3) := by decide +kernel
theorem dL_law_393 : decode cL_law 393 = .ok (.iload 12, 2) := by decide +kernel
theorem dL_law_395 : decode cL_law 395 = .ok (.isub, 1) := by decide +kernel
theorem dL_law_396 : decode cL_law 396 = .ok (.aload 9, 2) := by decide +kernel
theorem dL_law_398 : decode cL_law 398 = .ok (.iconst 3, 1) := by decide +kernel
theorem dL_law_399 : decode cL_law 399 = .ok (.iaload, 1) := by decide +kernel
theorem dL_law_400 : decode cL_law 400 = .ok (.if_icmp .eq 5, 3) := by decide +kernel
theorem dL_law_403 : decode cL_law 403 = .ok (.iconst 0, 1) := by decide +kernel
theorem dL_law_404 : decode cL_law 404 = .ok (.ireturn, 1) := by decide +kernel
theorem dL_law_405 : decode cL_law 405 = .ok (.iconst 0, 1) := by decide +kernel
theorem dL_law_406 : decode cL_law 406 = .ok (.istore 13, 2) := by decide +kernel
theorem dL_law_408 : decode cL_law 408 = .ok (.iconst 0, 1) := by decide +kernel
theorem dL_law_409 : decode cL_law 409 = .ok (.istore 14, 2) := by decide +kernel
theorem dL_law_411 : decode cL_law 411 = .ok (.iconst 0, 1) := by decide +kernel
theorem dL_law_412 : decode cL_law 412 = .ok (.istore 15, 2) := by decide +kernel
theorem dL_law_414 : decode cL_law 414 = .ok (.iconst 0, 1) := by decide +kernel
theorem dL_law_415 : decode cL_law 415 = .ok (.istore 16, 2) := by decide +kernel
theorem dL_law_417 : decode cL_law 417 = .ok (.iconst 0, 1) := by decide +kernel
theorem dL_law_418 : decode cL_law 418 = .ok (.istore 17, 2) := by decide +kernel
theorem dL_law_420 : decode cL_law 420 = .ok (.iload 17, 2) := by decide +kernel
theorem dL_law_422 : decode cL_law 422 = .ok (.sipush 144, 3) := by decide +kernel
theorem dL_law_425 : decode cL_law 425 = .ok (.if_icmp .ge 354, 3) := by decide +kernel
theorem dL_law_428 : decode cL_law 428 = .ok (.iload 17, 2) := by decide +kernel
theorem dL_law_430 : decode cL_law 430 = .ok (.bipush 12, 2) := by decide +kernel
theorem dL_law_432 : decode cL_law 432 = .ok (.irem, 1) := by decide +kernel
theorem dL_law_433 : decode cL_law 433 = .ok (.istore 18, 2) := by decide +kernel
theorem dL_law_435 : decode cL_law 435 = .ok (.iload 17, 2) := by decide +kernel
theorem dL_law_437 : decode cL_law 437 = .ok (.bipush 12, 2) := by decide +kernel
theorem dL_law_439 : decode cL_law 439 = .ok (.idiv, 1) := by decide +kernel
theorem dL_law_440 : decode cL_law 440 = .ok (.istore 19, 2) := by decide +kernel
theorem dL_law_442 : decode cL_law 442 = .ok (.aload_n 1, 1) := by decide +kernel
theorem dL_law_443 : decode cL_law 443 = .ok (.iload 18, 2) := by decide +kernel
theorem dL_law_445 : decode cL_law 445 = .ok (.iload 19, 2) := by decide +kernel
theorem dL_law_447 : decode cL_law 447 = .ok (.iconst 2, 1) := by decide +kernel
theorem dL_law_448 : decode cL_law 448 = .ok (.invokevirtual 69, 3) := by decide +kernel
theorem dL_law_451 : decode cL_law 451 = .ok (.iconst 1, 1) := by decide +kernel
theorem dL_law_452 : decode cL_law 452 = .ok (.if_icmp .ne 7, 3) := by decide +kernel
theorem dL_law_455 : decode cL_law 455 = .ok (.iconst 1, 1) := by decide +kernel
theorem dL_law_456 : decode cL_law 456 = .ok (.goto 4, 3) := by decide +kernel
theorem dL_law_459 : decode cL_law 459 = .ok (.iconst 0, 1) := by decide +kernel
theorem dL_law_460 : decode cL_law 460 = .ok (.istore 20, 2) := by decide +kernel
theorem dL_law_462 : decode cL_law 462 = .ok (.aload_n 1, 1) := by decide +kernel
theorem dL_law_463 : decode cL_law 463 = .ok (.iload 18, 2) := by decide +kernel
theorem dL_law_465 : decode cL_law 465 = .ok (.iload 19, 2) := by decide +kernel
theorem dL_law_467 : decode cL_law 467 = .ok (.iconst 1, 1) := by decide +kernel
theorem dL_law_468 : decode cL_law 468 = .ok (.invokevirtual 69, 3) := by decide +kernel
theorem dL_law_471 : decode cL_law 471 = .ok (.istore 21, 2) := by decide +kernel
theorem dL_law_473 : decode cL_law 473 = .ok (.iload 13, 2) := by decide +kernel
theorem dL_law_475 : decode cL_law 475 = .ok (.aload_n 1, 1) := by decide +kernel
theorem dL_law_476 : decode cL_law 476 = .ok (.iload 18, 2) := by decide +kernel
theorem dL_law_478 : decode cL_law 478 = .ok (.iload 19, 2) := by decide +kernel
theorem dL_law_480 : decode cL_law 480 = .ok (.iconst 2, 1) := by decide +kernel
theorem dL_law_481 : decode cL_law 481 = .ok (.invokevirtual 69, 3) := by decide +kernel
theorem dL_law_484 : decode cL_law 484 = .ok (.iadd, 1) := by decide +kernel
theorem dL_law_485 : decode cL_law 485 = .ok (.istore 13, 2) := by decide +kernel
theorem dL_law_487 : decode cL_law 487 = .ok (.iload 14, 2) := by decide +kernel
theorem dL_law_489 : decode cL_law 489 = .ok (.iload 21, 2) := by decide +kernel
theorem dL_law_491 : decode cL_law 491 = .ok (.ifCond .le 7, 3) := by decide +kernel
theorem dL_law_494 : decode cL_law 494 = .ok (.iconst 1, 1) := by decide +kernel
theorem dL_law_495 : decode cL_law 495 = .ok (.goto 4, 3) := by decide +kernel
theorem dL_law_498 : decode cL_law 498 = .ok (.iconst 0, 1) := by decide +kernel
theorem dL_law_499 : decode cL_law 499 = .ok (.iadd, 1) := by decide +kernel
theorem dL_law_500 : decode cL_law 500 = .ok (.istore 14, 2) := by decide +kernel
theorem dL_law_502 : decode cL_law 502 = .ok (.iload 15, 2) := by decide +kernel
theorem dL_law_504 : decode cL_law 504 = .ok (.iload 21, 2) := by decide +kernel
theorem dL_law_506 : decode cL_law 506 = .ok (.ifCond .ne 7, 3) := by decide +kernel
