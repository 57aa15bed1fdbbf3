theorem dL_hangs_367 : decode cL_hangs 367 = .ok (.iconst 1, 1) := by decide +kernel
theorem dL_hangs_368 : decode cL_hangs 368 = .ok (.goto 4, 3) := by decide +kernel
theorem dL_hangs_371 : decode cL_hangs 371 = .ok (.iconst 0, 1) := by decide +kernel
theorem dL_hangs_372 : decode cL_hangs 372 = .ok (.iadd, 1) := by decide +kernel
theorem dL_hangs_373 : decode cL_hangs 373 = .ok (.istore 9, 2) := by decide +kernel
theorem dL_hangs_375 : decode cL_hangs 375 = .ok (.iload 11, 2) := by decide +kernel
theorem dL_hangs_377 : decode cL_hangs 377 = .ok (.aload_n 0, 1) := by decide +kernel
theorem dL_hangs_378 : decode cL_hangs 378 = .ok (.iload 10, 2) := by decide +kernel
theorem dL_hangs_380 : decode cL_hangs 380 = .ok (.iconst 2, 1) := by decide +kernel
theorem dL_hangs_381 : decode cL_hangs 381 = .ok (.invokestatic 129, 3) := by decide +kernel
theorem dL_hangs_384 : decode cL_hangs 384 = .ok (.iload 5, 2) := by decide +kernel
theorem dL_hangs_386 : decode cL_hangs 386 = .ok (.ishr, 1) := by decide +kernel
theorem dL_hangs_387 : decode cL_hangs 387 = .ok (.iconst 1, 1) := by decide +kernel
theorem dL_hangs_388 : decode cL_hangs 388 = .ok (.iand, 1) := by decide +kernel
theorem dL_hangs_389 : decode cL_hangs 389 = .ok (.iconst 1, 1) := by decide +kernel
theorem dL_hangs_390 : decode cL_hangs 390 = .ok (.if_icmp .ne 7, 3) := by decide +kernel
theorem dL_hangs_393 : decode cL_hangs 393 = .ok (.iconst 1, 1) := by decide +kernel
theorem dL_hangs_394 : decode cL_hangs 394 = .ok (.goto 4, 3) := by decide +kernel
theorem dL_hangs_397 : decode cL_hangs 397 = .ok (.iconst 0, 1) := by decide +kernel
theorem dL_hangs_398 : decode cL_hangs 398 = .ok (.if_icmp .eq 5, 3) := by decide +kernel
theorem dL_hangs_401 : decode cL_hangs 401 = .ok (.iconst 0, 1) := by decide +kernel
theorem dL_hangs_402 : decode cL_hangs 402 = .ok (.ireturn, 1) := by decide +kernel
theorem dL_hangs_403 : decode cL_hangs 403 = .ok (.iinc 10 1, 3) := by decide +kernel
theorem dL_hangs_406 : decode cL_hangs 406 = .ok (.goto (-87), 3) := by decide +kernel
theorem dL_hangs_409 : decode cL_hangs 409 = .ok (.iload_n 1, 1) := by decide +kernel
theorem dL_hangs_410 : decode cL_hangs 410 = .ok (.iload 7, 2) := by decide +kernel
theorem dL_hangs_412 : decode cL_hangs 412 = .ok (.ifCond .ne 7, 3) := by decide +kernel
theorem dL_hangs_415 : decode cL_hangs 415 = .ok (.iconst 1, 1) := by decide +kernel
theorem dL_hangs_416 : decode cL_hangs 416 = .ok (.goto 4, 3) := by decide +kernel
theorem dL_hangs_419 : decode cL_hangs 419 = .ok (.iconst 0, 1) := by decide +kernel
theorem dL_hangs_420 : decode cL_hangs 420 = .ok (.iadd, 1) := by decide +kernel
theorem dL_hangs_421 : decode cL_hangs 421 = .ok (.istore_n 1, 1) := by decide +kernel
theorem dL_hangs_422 : decode cL_hangs 422 = .ok (.iload_n 2, 1) := by decide +kernel
theorem dL_hangs_423 : decode cL_hangs 423 = .ok (.iload 6, 2) := by decide +kernel
theorem dL_hangs_425 : decode cL_hangs 425 = .ok (.iadd, 1) := by decide +kernel
theorem dL_hangs_426 : decode cL_hangs 426 = .ok (.istore_n 2, 1) := by decide +kernel
theorem dL_hangs_427 : decode cL_hangs 427 = .ok (.iload 6, 2) := by decide +kernel
theorem dL_hangs_429 : decode cL_hangs 429 = .ok (.iload_n 3, 1) := by decide +kernel
theorem dL_hangs_430 : decode cL_hangs 430 = .ok (.if_icmp .le 8, 3) := by decide +kernel
theorem dL_hangs_433 : decode cL_hangs 433 = .ok (.iload 6, 2) := by decide +kernel
theorem dL_hangs_435 : decode cL_hangs 435 = .ok (.goto 4, 3) := by decide +kernel
theorem dL_hangs_438 : decode cL_hangs 438 = .ok (.iload_n 3, 1) := by decide +kernel
theorem dL_hangs_439 : decode cL_hangs 439 = .ok (.istore_n 3, 1) := by decide +kernel
theorem dL_hangs_440 : decode cL_hangs 440 = .ok (.aload_n 0, 1) := by decide +kernel
theorem dL_hangs_441 : decode cL_hangs 441 = .ok (.iload 5, 2) := by decide +kernel
theorem dL_hangs_443 : decode cL_hangs 443 = .ok (.iconst 3, 1) := by decide +kernel
theorem dL_hangs_444 : decode cL_hangs 444 = .ok (.invokestatic 116, 3) := by decide +kernel
theorem dL_hangs_447 : decode cL_hangs 447 = .ok (.iload 6, 2) := by decide +kernel
theorem dL_hangs_449 : decode cL_hangs 449 = .ok (.iconst 2, 1) := by decide +kernel
theorem dL_hangs_450 : decode cL_hangs 450 = .ok (.idiv, 1) := by decide +kernel
theorem dL_hangs_451 : decode cL_hangs 451 = .ok (.if_icmp .ne 90, 3) := by decide +kernel
theorem dL_hangs_454 : decode cL_hangs 454 = .ok (.aload_n 0, 1) := by decide +kernel
theorem dL_hangs_455 : decode cL_hangs 455 = .ok (.iload 5, 2) := by decide +kernel
theorem dL_hangs_457 : decode cL_hangs 457 = .ok (.iconst 4, 1) := by decide +kernel
theorem dL_hangs_458 : decode cL_hangs 458 = .ok (.invokestatic 116, 3) := by decide +kernel
theorem dL_hangs_461 : decode cL_hangs 461 = .ok (.iload 7, 2) := by decide +kernel
theorem dL_hangs_463 : decode cL_hangs 463 = .ok (.iconst 2, 1) := by decide +kernel
theorem dL_hangs_464 : decode cL_hangs 464 = .ok (.idiv, 1) := by decide +kernel
theorem dL_hangs_465 : decode cL_hangs 465 = .ok (.if_icmp .ne 76, 3) := by decide +kernel
theorem dL_hangs_468 : decode cL_hangs 468 = .ok (.aload_n 0, 1) := by decide +kernel
theorem dL_hangs_469 : decode cL_hangs 469 = .ok (.iload 5, 2) := by decide +kernel
theorem dL_hangs_471 : decode cL_hangs 471 = .ok (.iconst 5, 1) := by decide +kernel
theorem dL_hangs_472 : decode cL_hangs 472 = .ok (.invokestatic 116, 3) := by decide +kernel
theorem dL_hangs_475 : decode cL_hangs 475 = .ok (.iload 7, 2) := by decide +kernel
theorem dL_hangs_477 : decode cL_hangs 477 = .ok (.ifCond .ne 7, 3) := by decide +kernel
theorem dL_hangs_480 : decode cL_hangs 480 = .ok (.iconst 1, 1) := by decide +kernel
theorem dL_hangs_481 : decode cL_hangs 481 = .ok (.goto 4, 3) := by decide +kernel
theorem dL_hangs_484 : decode cL_hangs 484 = .ok (.iconst 0, 1) := by decide +kernel
theorem dL_hangs_485 : decode cL_hangs 485 = .ok (.if_icmp .ne 56, 3) := by decide +kernel
theorem dL_hangs_488 : decode cL_hangs 488 = .ok (.aload_n 0, 1) := by decide +kernel
theorem dL_hangs_489 : decode cL_hangs 489 = .ok (.iload 5, 2) := by decide +kernel
theorem dL_hangs_491 : decode cL_hangs 491 = .ok (.bipush 6, 2) := by decide +kernel
theorem dL_hangs_493 : decode cL_hangs 493 = .ok (.invokestatic 116, 3) := by decide +kernel
theorem dL_hangs_496 : decode cL_hangs 496 = .ok (.iload 9, 2) := by decide +kernel
theorem dL_hangs_498 : decode cL_hangs 498 = .ok (.if_icmp .ne 43, 3) := by decide +kernel
theorem dL_hangs_501 : decode cL_hangs 501 = .ok (.aload_n 0, 1) := by decide +kernel
theorem dL_hangs_502 : decode cL_hangs 502 = .ok (.iload 5, 2) := by decide +kernel
theorem dL_hangs_504 : decode cL_hangs 504 = .ok (.iload 8, 2) := by decide +kernel
theorem dL_hangs_506 : decode cL_hangs 506 = .ok (.ifCond .ge 8, 3) := by decide +kernel
theorem dL_hangs_509 : decode cL_hangs 509 = .ok (.iload 5, 2) := by decide +kernel
