theorem dL_hangs_367 : decode cL_hangs 367 = .ok (.iconst 1, 1) := by decide +kernel
theorem dL_hangs_368 : decode cL_hangs 368 = .ok (.goto 4, 3) := by decide +kernel
theorem dL_hangs_371 : decode cL_hangs 371 = .ok (.iconst 0, 1) := by decide +kernel
theorem dL_hangs_372 : decode cL_hangs 372 = .ok (.iadd, 1) := by decide +kernel
theorem dL_hangs_373 : decode cL_hangs 373 = .ok (.istore 9, 2) := by decide +kernel
theorem dL_hangs_375 : decode cL_hangs 375 = .ok (.iload 11, 2) := by decide +kernel
theorem dL_hangs_377 : decode cL_hangs 377 = .ok (.aload_n 0, 1) := by decide +kernel
theorem dL_hangs_378 : decode cL_hangs 378 = .ok (.iload 10, 2) := by decide +kernel
theorem dL_hangs_380 : decode cL_hangs 380 = .ok (.iconst 2, 1) := by decide +kernel
theorem dL_hangs_381 : decode cL_hangs 381 = .ok (.invokestatic 129, 3) := by decide +kernel
theorem dL_hangs_384 : decode cL_hangs 384 = .ok (.iload 5, 2) := by decide +kernel
theorem dL_hangs_386 : decode cL_hangs 386 = .ok (.ishr, 1) := by decide +kernel
theorem dL_hangs_387 : decode cL_hangs 387 = .ok (.iconst 1, 1) := by decide +kernel
theorem dL_hangs_388 : decode cL_hangs 388 = .ok (.iand, 1) := by decide +kernel
theorem dL_hangs_389 : decode cL_hangs 389 = .ok (.iconst 1, 1) := by decide +kernel
theorem dL_hangs_390 : decode cL_hangs 390 = .ok (.if_icmp .ne 7, 3) := by decide +kernel
theorem dL_hangs_393 : decode cL_hangs 393 = .ok (.iconst 1, 1) := by decide +kernel
theorem dL_hangs_394 : decode cL_hangs 394 = .ok (.goto 4, 3) := by decide +kernel
theorem dL_hangs_397 : decode cL_hangs 397 = .ok (.iconst 0, 1) := by decide +kernel
theorem dL_hangs_398 : decode cL_hangs 398 = .ok (.if_icmp .eq 5, 3) := by decide +kernel
theorem dL_hangs_401 : decode cL_hangs 401 = .ok (.iconst 0, 1) := by decide +kernel
theorem dL_hangs_402 : decode cL_hangs 402 = .ok (.ireturn, 1) := by decide +kernel
theorem dL_hangs_403 : decode cL_hangs 403 = .ok (.iinc 10 1, 3) := by decide +kernel
theorem dL_hangs_406 : decode cL_hangs 406 = .ok (.goto (-87), 3) := by decide +kernel
theorem dL_hangs_409 : decode cL_hangs 409 = .ok (.iload_n 1, 1) := by decide +kernel
theorem dL_hangs_410 : decode cL_hangs 410 = .ok (.iload 7, 2) := by decide +kernel
theorem dL_hangs_412 : decode cL_hangs 412 = .ok (.ifCond .ne 7, 3) := by decide +kernel
theorem dL_hangs_415 : decode cL_hangs 415 = .ok (.iconst 1, 1) := by decide +kernel
theorem dL_hangs_416 : decode cL_hangs 416 = .ok (.goto 4, 3) := by decide +kernel
theorem dL_hangs_419 : decode cL_hangs 419 = .ok (.iconst 0, 1) := by decide +kernel
theorem dL_hangs_420 : decode cL_hangs 420 = .ok (.iadd, 1) := by decide +kernel
theorem dL_hangs_421 : decode cL_hangs 421 = .ok (.istore_n 1, 1) := by decide +kernel
theorem dL_hangs_422 : decode cL_hangs 422 = .ok (.iload_n 2, 1) := by decide +kernel
theorem dL_hangs_423 : decode cL_hangs 423 = .ok (.iload 6, 2) := by decide +kernel
theorem dL_hangs_425 : decode cL_hangs 425 = .ok (.iadd, 1) := by decide +kernel
theorem dL_hangs_426 : decode cL_hangs 426 = .ok (.istore_n 2, 1) := by decide +kernel
theorem dL_hangs_427 : decode cL_hangs 427 = .ok (.iload 6, 2) := by decide +kernel
theorem dL_hangs_429 : decode cL_hangs 429 = .ok (.iload_n 3, 1) := by decide +kernel
theorem dL_hangs_430 : decode cL_hangs 430 = .ok (.if_icmp .le 8, 3) := by decide +kernel
theorem dL_hangs_433 : decode cL_hangs 433 = .ok (.iload 6, 2) := by decide +kernel
theorem dL_hangs_435 : decode cL_hangs 435 = .ok (.goto 4, 3) := by decide +kernel
theorem dL_hangs_438 : decode cL_hangs 438 = .ok (.iload_n 3, 1) := by decide +kernel
theorem dL_hangs_439 : decode cL_hangs 439 = .ok (.istore_n 3, 1) := by decide +kernel
theorem dL_hangs_440 : decode cL_hangs 440 = .ok (.aload_n 0, 1) := by decide +kernel
theorem dL_hangs_441 : decode cL_hangs 441 = .ok (.iload 5, 2) := by decide +kernel
theorem dL_hangs_443 : decode cL_hangs 443 = .ok (.iconst 3, 1) := by decide +kernel
theorem dL_hangs_444 : decode cL_hangs 444 = .ok (.invokestatic 116, 3) := by decide +kernel
theorem dL_hangs_447 : decode cL_hangs 447 = .ok (.iload 6, 2) := by decide +kernel
theorem dL_hangs_449 : decode cL_hangs 449 = .ok (.iconst 2, 1) := by decide +kernel
theorem dL_hangs_450 : decode cL_hangs 450 = .ok (.idiv, 1) := by decide +kernel
theorem dL_hangs_451 : decode cL_hangs 451 = .ok (.if_icmp .ne 90, 3) := by decide +kernel
theorem dL_hangs_454 : decode cL_hangs 454 = .ok (.aload_n 0, 1) := by decide +kernel
theorem dL_hangs_455 : decode cL_hangs 455 = .ok (.iload 5, 2) := by decide +kernel
theorem dL_hangs_457 : decode cL_hangs 457 = .ok (.iconst 4, 1) := by decide +kernel
theorem dL_hangs_458 : decode cL_hangs 458 = .ok (.invokestatic 116, 3) := by decide +kernel
theorem dL_hangs_461 : decode cL_hangs 461 = .ok (.iload 7, 2) := by decide +kernel
theorem dL_hangs_463 : decode cL_hangs 463 = .ok (.iconst 2, 1) := by decide +kernel
theorem dL_hangs_464 : decode cL_hangs 464 = .ok (.idiv, 1) := by decide +kernel
theorem dL_hangs_465 : decode cL_hangs 465 = .ok (.if_icmp .ne 76, 3) := by decide +kernel
theorem dL_hangs_468 : decode cL_hangs 468 = .ok (.aload_n 0, 1) := by decide +kernel
theorem dL_hangs_469 : decode cL_hangs 469 = .ok (.iload 5, 2) := by decide +kernel
theorem dL_hangs_471 : decode cL_hangs 471 = .ok (.iconst 5, 1) := by decide +kernel
theorem dL_hangs_472 : decode cL_hangs 472 = .ok (.invokestatic 116, 3) := by decide +kernel
theorem dL_hangs_475 : decode cL_hangs 475 = .ok (.iload 7, 2) := by decide +kernel
theorem dL_hangs_477 : decode cL_hangs 477 = .ok (.ifCond .ne 7, 3) := by decide +kernel
theorem dL_hangs_480 : decode cL_hangs 480 = .ok (.iconst 1, 1) := by decide +kernel
theorem dL_hangs_481 : decode cL_hangs 481 = .ok (.goto 4, 3) := by decide +kernel
theorem dL_hangs_484 : decode cL_hangs 484 = .ok (.iconst 0, 1) := by decide +kernel
theorem dL_hangs_485 : decode cL_hangs 485 = .ok (.if_icmp .ne 56, 3) := by decide +kernel
theorem dL_hangs_488 : decode cL_hangs 488 = .ok (.aload_n 0, 1) := by decide +kernel
theorem dL_hangs_489 : decode cL_hangs 489 = .ok (.iload 5, 2) := by decide +kernel
theorem dL_hangs_491 : decode cL_hangs 491 = .ok (.bipush 6, 2) := by decide +kernel
theorem dL_hangs_493 : decode cL_hangs 493 = .ok (.invokestatic 116, 3) := by decide +kernel
theorem dL_hangs_496 : decode cL_hangs 496 = .ok (.iload 9, 2) := by decide +kernel
theorem dL_hangs_498 : decode cL_hangs 498 = .ok (.if_icmp .ne 43, 3) := by decide +kernel
theorem dL_hangs_501 : decode cL_hangs 501 = .ok (.aload_n 0, 1) := by decide +kernel
theorem dL_hangs_502 : decode cL_hangs 502 = .ok (.iload 5, 2) := by decide +kernel
theorem dL_hangs_504 : decode cL_hangs 504 = .ok (.iload 8, 2) := by decide +kernel
theorem dL_hangs_506 : decode cL_hangs 506 = .ok (.ifCond .ge 8, 3) := by decide +kernel
theorem dL_hangs_509 : decode cL_hangs 509 = .ok (.iload 5, 2) := by decide +kernel
theorem dL_hangs_511 : decode cL_hangs 511 = .ok (.goto 5, 3) := by decide +kernel
theorem dL_hangs_514 : decode cL_hangs 514 = .ok (.iload 8, 2) := by decide +kernel
theorem dL_hangs_516 : decode cL_hangs 516 = .ok (.invokestatic 131, 3) := by decide +kernel
theorem dL_hangs_519 : decode cL_hangs 519 = .ok (.iload 6, 2) := by decide +kernel
theorem dL_hangs_521 : decode cL_hangs 521 = .ok (.iconst 2, 1) := by decide +kernel
theorem dL_hangs_522 : decode cL_hangs 522 = .ok (.idiv, 1) := by decide +kernel
theorem dL_hangs_523 : decode cL_hangs 523 = .ok (.if_icmp .ne 18, 3) := by decide +kernel
theorem dL_hangs_526 : decode cL_hangs 526 = .ok (.aload_n 0, 1) := by decide +kernel
theorem dL_hangs_527 : decode cL_hangs 527 = .ok (.iload 5, 2) := by decide +kernel
theorem dL_hangs_529 : decode cL_hangs 529 = .ok (.iload 5, 2) := by decide +kernel
theorem dL_hangs_531 : decode cL_hangs 531 = .ok (.invokestatic 131, 3) := by decide +kernel
theorem dL_hangs_534 : decode cL_hangs 534 = .ok (.iload 6, 2) := by decide +kernel
theorem dL_hangs_536 : decode cL_hangs 536 = .ok (.iconst 2, 1) := by decide +kernel
theorem dL_hangs_537 : decode cL_hangs 537 = .ok (.idiv, 1) := by decide +kernel
theorem dL_hangs_538 : decode cL_hangs 538 = .ok (.if_icmp .le 5, 3) := by decide +kernel
theorem dL_hangs_541 : decode cL_hangs 541 = .ok (.iconst 0, 1) := by decide +kernel
theorem dL_hangs_542 : decode cL_hangs 542 = .ok (.ireturn, 1) := by decide +kernel
theorem dL_hangs_543 : decode cL_hangs 543 = .ok (.iinc 5 1, 3) := by decide +kernel
theorem dL_hangs_546 : decode cL_hangs 546 = .ok (.goto (-531), 3) := by decide +kernel
theorem dL_hangs_549 : decode cL_hangs 549 = .ok (.iconst 0, 1) := by decide +kernel
theorem dL_hangs_550 : decode cL_hangs 550 = .ok (.istore 5, 2) := by decide +kernel
theorem dL_hangs_552 : decode cL_hangs 552 = .ok (.iconst 0, 1) := by decide +kernel
theorem dL_hangs_553 : decode cL_hangs 553 = .ok (.istore 6, 2) := by decide +kernel
theorem dL_hangs_555 : decode cL_hangs 555 = .ok (.iconst 0, 1) := by decide +kernel
theorem dL_hangs_556 : decode cL_hangs 556 = .ok (.istore 7, 2) := by decide +kernel
theorem dL_hangs_558 : decode cL_hangs 558 = .ok (.iload 7, 2) := by decide +kernel
theorem dL_hangs_560 : decode cL_hangs 560 = .ok (.bipush 8, 2) := by decide +kernel
theorem dL_hangs_562 : decode cL_hangs 562 = .ok (.if_icmp .ge 69, 3) := by decide +kernel
theorem dL_hangs_565 : decode cL_hangs 565 = .ok (.iload 5, 2) := by decide +kernel
theorem dL_hangs_567 : decode cL_hangs 567 = .ok (.aload_n 0, 1) := by decide +kernel
theorem dL_hangs_568 : decode cL_hangs 568 = .ok (.iload 7, 2) := by decide +kernel
theorem dL_hangs_570 : decode cL_hangs 570 = .ok (.iconst 3, 1) := by decide +kernel
theorem dL_hangs_571 : decode cL_hangs 571 = .ok (.invokestatic 125, 3) := by decide +kernel
theorem dL_hangs_574 : decode cL_hangs 574 = .ok (.ifCond .ge 7, 3) := by decide +kernel
theorem dL_hangs_577 : decode cL_hangs 577 = .ok (.iconst 0, 1) := by decide +kernel
theorem dL_hangs_578 : decode cL_hangs 578 = .ok (.goto 4, 3) := by decide +kernel
theorem dL_hangs_581 : decode cL_hangs 581 = .ok (.iconst 1, 1) := by decide +kernel
theorem dL_hangs_582 : decode cL_hangs 582 = .ok (.iadd, 1) := by decide +kernel
theorem dL_hangs_583 : decode cL_hangs 583 = .ok (.istore 5, 2) := by decide +kernel
theorem dL_hangs_585 : decode cL_hangs 585 = .ok (.iconst 0, 1) := by decide +kernel
theorem dL_hangs_586 : decode cL_hangs 586 = .ok (.istore 8, 2) := by decide +kernel
theorem dL_hangs_588 : decode cL_hangs 588 = .ok (.iload 8, 2) := by decide +kernel
theorem dL_hangs_590 : decode cL_hangs 590 = .ok (.iload 7, 2) := by decide +kernel
theorem dL_hangs_592 : decode cL_hangs 592 = .ok (.if_icmp .ge 33, 3) := by decide +kernel
theorem dL_hangs_595 : decode cL_hangs 595 = .ok (.iload 6, 2) := by decide +kernel
theorem dL_hangs_597 : decode cL_hangs 597 = .ok (.aload 4, 2) := by decide +kernel
theorem dL_hangs_599 : decode cL_hangs 599 = .ok (.bipush 8, 2) := by decide +kernel
theorem dL_hangs_601 : decode cL_hangs 601 = .ok (.iload 7, 2) := by decide +kernel
theorem dL_hangs_603 : decode cL_hangs 603 = .ok (.imul, 1) := by decide +kernel
theorem dL_hangs_604 : decode cL_hangs 604 = .ok (.iload 8, 2) := by decide +kernel
theorem dL_hangs_606 : decode cL_hangs 606 = .ok (.iadd, 1) := by decide +kernel
theorem dL_hangs_607 : decode cL_hangs 607 = .ok (.iaload, 1) := by decide +kernel
theorem dL_hangs_608 : decode cL_hangs 608 = .ok (.ifCond .ne 7, 3) := by decide +kernel
theorem dL_hangs_611 : decode cL_hangs 611 = .ok (.iconst 1, 1) := by decide +kernel
theorem dL_hangs_612 : decode cL_hangs 612 = .ok (.goto 4, 3) := by decide +kernel
theorem dL_hangs_615 : decode cL_hangs 615 = .ok (.iconst 0, 1) := by decide +kernel
theorem dL_hangs_616 : decode cL_hangs 616 = .ok (.iadd, 1) := by decide +kernel
theorem dL_hangs_617 : decode cL_hangs 617 = .ok (.istore 6, 2) := by decide +kernel
theorem dL_hangs_619 : decode cL_hangs 619 = .ok (.iinc 8 1, 3) := by decide +kernel
theorem dL_hangs_622 : decode cL_hangs 622 = .ok (.goto (-34), 3) := by decide +kernel
theorem dL_hangs_625 : decode cL_hangs 625 = .ok (.iinc 7 1, 3) := by decide +kernel
theorem dL_hangs_628 : decode cL_hangs 628 = .ok (.goto (-70), 3) := by decide +kernel
theorem dL_hangs_631 : decode cL_hangs 631 = .ok (.aload_n 0, 1) := by decide +kernel
theorem dL_hangs_632 : decode cL_hangs 632 = .ok (.iconst 0, 1) := by decide +kernel
theorem dL_hangs_633 : decode cL_hangs 633 = .ok (.invokestatic 127, 3) := by decide +kernel
theorem dL_hangs_636 : decode cL_hangs 636 = .ok (.iload 5, 2) := by decide +kernel
theorem dL_hangs_638 : decode cL_hangs 638 = .ok (.if_icmp .ne 77, 3) := by decide +kernel
theorem dL_hangs_641 : decode cL_hangs 641 = .ok (.aload_n 0, 1) := by decide +kernel
theorem dL_hangs_642 : decode cL_hangs 642 = .ok (.iconst 1, 1) := by decide +kernel
theorem dL_hangs_643 : decode cL_hangs 643 = .ok (.invokestatic 127, 3) := by decide +kernel
theorem dL_hangs_646 : decode cL_hangs 646 = .ok (.iload 5, 2) := by decide +kernel
theorem dL_hangs_648 : decode cL_hangs 648 = .ok (.if_icmp .gt 67, 3) := by decide +kernel
theorem dL_hangs_651 : decode cL_hangs 651 = .ok (.aload_n 0, 1) := by decide +kernel
theorem dL_hangs_652 : decode cL_hangs 652 = .ok (.iconst 1, 1) := by decide +kernel
theorem dL_hangs_653 : decode cL_hangs 653 = .ok (.invokestatic 127, 3) := by decide +kernel
theorem dL_hangs_656 : decode cL_hangs 656 = .ok (.ifCond .le 7, 3) := by decide +kernel
theorem dL_hangs_659 : decode cL_hangs 659 = .ok (.iconst 1, 1) := by decide +kernel
theorem dL_hangs_660 : decode cL_hangs 660 = .ok (.goto 4, 3) := by decide +kernel
theorem dL_hangs_663 : decode cL_hangs 663 = .ok (.iconst 0, 1) := by decide +kernel
theorem dL_hangs_664 : decode cL_hangs 664 = .ok (.iload 5, 2) := by decide +kernel
theorem dL_hangs_666 : decode cL_hangs 666 = .ok (.ifCond .le 7, 3) := by decide +kernel
theorem dL_hangs_669 : decode cL_hangs 669 = .ok (.iconst 1, 1) := by decide +kernel
theorem dL_hangs_670 : decode cL_hangs 670 = .ok (.goto 4, 3) := by decide +kernel
theorem dL_hangs_673 : decode cL_hangs 673 = .ok (.iconst 0, 1) := by decide +kernel
theorem dL_hangs_674 : decode cL_hangs 674 = .ok (.if_icmp .ne 41, 3) := by decide +kernel
theorem dL_hangs_677 : decode cL_hangs 677 = .ok (.aload_n 0, 1) := by decide +kernel
theorem dL_hangs_678 : decode cL_hangs 678 = .ok (.iconst 3, 1) := by decide +kernel
theorem dL_hangs_679 : decode cL_hangs 679 = .ok (.invokestatic 127, 3) := by decide +kernel
theorem dL_hangs_682 : decode cL_hangs 682 = .ok (.iload 6, 2) := by decide +kernel
theorem dL_hangs_684 : decode cL_hangs 684 = .ok (.if_icmp .ne 31, 3) := by decide +kernel
theorem dL_hangs_687 : decode cL_hangs 687 = .ok (.aload_n 0, 1) := by decide +kernel
theorem dL_hangs_688 : decode cL_hangs 688 = .ok (.iconst 4, 1) := by decide +kernel
theorem dL_hangs_689 : decode cL_hangs 689 = .ok (.invokestatic 127, 3) := by decide +kernel
theorem dL_hangs_692 : decode cL_hangs 692 = .ok (.iload_n 1, 1) := by decide +kernel
theorem dL_hangs_693 : decode cL_hangs 693 = .ok (.if_icmp .ne 22, 3) := by decide +kernel
theorem dL_hangs_696 : decode cL_hangs 696 = .ok (.aload_n 0, 1) := by decide +kernel
theorem dL_hangs_697 : decode cL_hangs 697 = .ok (.aload_n 0, 1) := by decide +kernel
theorem dL_hangs_698 : decode cL_hangs 698 = .ok (.invokevirtual 133, 3) := by decide +kernel
theorem dL_hangs_701 : decode cL_hangs 701 = .ok (.iconst 3, 1) := by decide +kernel
theorem dL_hangs_702 : decode cL_hangs 702 = .ok (.invokestatic 116, 3) := by decide +kernel
theorem dL_hangs_705 : decode cL_hangs 705 = .ok (.iload_n 3, 1) := by decide +kernel
theorem dL_hangs_706 : decode cL_hangs 706 = .ok (.iconst 2, 1) := by decide +kernel
theorem dL_hangs_707 : decode cL_hangs 707 = .ok (.idiv, 1) := by decide +kernel
theorem dL_hangs_708 : decode cL_hangs 708 = .ok (.if_icmp .ne 7, 3) := by decide +kernel
theorem dL_hangs_711 : decode cL_hangs 711 = .ok (.iconst 1, 1) := by decide +kernel
theorem dL_hangs_712 : decode cL_hangs 712 = .ok (.goto 4, 3) := by decide +kernel
theorem dL_hangs_715 : decode cL_hangs 715 = .ok (.iconst 0, 1) := by decide +kernel
theorem dL_hangs_716 : decode cL_hangs 716 = .ok (.istore 7, 2) := by decide +kernel
theorem dL_hangs_718 : decode cL_hangs 718 = .ok (.iload 7, 2) := by decide +kernel
theorem dL_hangs_720 : decode cL_hangs 720 = .ok (.ifCond .eq 23, 3) := by decide +kernel
theorem dL_hangs_723 : decode cL_hangs 723 = .ok (.aload_n 0, 1) := by decide +kernel
theorem dL_hangs_724 : decode cL_hangs 724 = .ok (.invokevirtual 136, 3) := by decide +kernel
theorem dL_hangs_727 : decode cL_hangs 727 = .ok (.iload_n 2, 1) := by decide +kernel
theorem dL_hangs_728 : decode cL_hangs 728 = .ok (.iconst 2, 1) := by decide +kernel
theorem dL_hangs_729 : decode cL_hangs 729 = .ok (.idiv, 1) := by decide +kernel
theorem dL_hangs_730 : decode cL_hangs 730 = .ok (.i2d, 1) := by decide +kernel
theorem dL_hangs_731 : decode cL_hangs 731 = .ok (.ldc2_w 140, 3) := by decide +kernel
theorem dL_hangs_734 : decode cL_hangs 734 = .ok (.ddiv, 1) := by decide +kernel
theorem dL_hangs_735 : decode cL_hangs 735 = .ok (.dcmp .l, 1) := by decide +kernel
theorem dL_hangs_736 : decode cL_hangs 736 = .ok (.ifCond .ne 7, 3) := by decide +kernel
theorem dL_hangs_739 : decode cL_hangs 739 = .ok (.iconst 1, 1) := by decide +kernel
theorem dL_hangs_740 : decode cL_hangs 740 = .ok (.goto 4, 3) := by decide +kernel
theorem dL_hangs_743 : decode cL_hangs 743 = .ok (.iconst 0, 1) := by decide +kernel
theorem dL_hangs_744 : decode cL_hangs 744 = .ok (.ireturn, 1) := by decide +kernel
set_option maxRecDepth 20000 in
theorem ggL_print_L_count : GoodIn wsL_print wsL_count := goodIn_ca (goodIn_r _ [6, 7, 8, 9, 10, 11, 12, 13, 14, 15, 16, 17, 18, 19, 20, 21, 22, 23, 24, 25, 26, 27, 28, 29, 30, 31, 32, 33, 34, 35, 36, 37, 38, 39, 40, 41, 42, 43, 44, 45, 46, 47, 48, 49, 50, 51, 52, 53, 54, 55, 56, 57, 58, 59, 60, 61, 62, 63, 64, 65, 66, 67, 68, 69, 70, 71, 72, 73, 135, 136, 137, 138, 139, 140, 141, 142, 143, 144, 145, 146, 147, 148, 149, 150, 151, 152] (by decide +kernel) (by decide +kernel)) (goodIn_sub (fun _ h => List.mem_cons_of_mem _ (List.mem_append_left _ (List.mem_append_right _ h))) (by decide +kernel))
set_option maxRecDepth 20000 in
theorem gL_print_L_count : GoodIn wsL_print (va_wsS RL 127 yL_count wsL_count) := goodIn_app (goodIn_of _ (by decide +kernel)) ggL_print_L_count
set_option maxRecDepth 20000 in
theorem ggL_print_L_potOf : GoodIn wsL_print wsL_potOf := goodIn_ca (goodIn_ca (goodIn_r _ [76, 77, 7, 8, 78, 79, 80, 81, 12, 82, 16, 83, 84, 85, 86, 87, 88, 89, 90, 14, 15, 91, 92, 53, 93, 94, 95, 96, 21, 97, 39, 40, 41, 42, 43, 44, 45, 46, 47, 48, 49, 50, 51, 52, 54, 55, 56, 57, 58, 59, 60, 61, 135, 136, 137, 138, 139, 140, 141, 142, 143, 144, 145, 146, 147, 148] (by decide +kernel) (by decide +kernel)) (goodIn_sub (fun _ h => List.mem_cons_of_mem _ (List.mem_append_right _ h)) (by decide +kernel))) (goodIn_sub (fun _ h => List.mem_cons_of_mem _ (List.mem_append_left _ (List.mem_append_right _ h))) (by decide +kernel))
set_option maxRecDepth 20000 in
theorem gL_print_L_potOf : GoodIn wsL_print (va_wsS RL 125 yL_potOf wsL_potOf) := goodIn_app (goodIn_of _ (by decide +kernel)) ggL_print_L_potOf
set_option maxRecDepth 20000 in
theorem ggL_print_L_painterOf : GoodIn wsL_print wsL_painterOf := goodIn_ca (goodIn_ca (goodIn_r _ [100, 77, 7, 8, 78, 101, 102, 103, 12, 104, 14, 15, 16, 105, 106, 107, 86, 87, 108, 109, 110, 21, 111, 44, 45, 46, 47, 48, 49, 50, 51, 52, 53, 54, 55, 56, 57, 58, 59, 60, 61, 112, 67, 68, 69, 23, 70, 71, 72, 73, 43, 113, 114, 115, 116, 117, 118, 119, 135, 136, 137, 138, 139, 140, 141, 142, 143, 144, 145, 146, 147, 148] (by decide +kernel) (by decide +kernel)) (goodIn_sub (fun _ h => List.mem_cons_of_mem _ (List.mem_append_left _ (List.mem_append_right _ h))) (by decide +kernel))) (goodIn_sub (fun _ h => List.mem_cons_of_mem _ (List.mem_append_right _ h)) (by decide +kernel))
set_option maxRecDepth 20000 in
theorem gL_print_L_painterOf : GoodIn wsL_print (va_wsS RL 116 yL_painterOf wsL_painterOf) := goodIn_app (goodIn_of _ (by decide +kernel)) ggL_print_L_painterOf
set_option maxRecDepth 20000 in
theorem ggL_print_L_chartOf : GoodIn wsL_print wsL_chartOf := goodIn_ca (goodIn_ca (goodIn_r _ [122, 77, 7, 8, 78, 123, 124, 125, 12, 126, 14, 15, 16, 127, 128, 129, 130, 86, 87, 131, 132, 133, 21, 134, 118, 119, 39, 40, 41, 42, 43, 44, 45, 46, 47, 48, 49, 50, 51, 52, 53, 54, 55, 56, 57, 58, 59, 60, 61, 135, 136, 137, 138, 139, 140, 141, 142, 143, 144, 145, 146, 147, 148] (by decide +kernel) (by decide +kernel)) (goodIn_sub (fun _ h => List.mem_cons_of_mem _ (List.mem_append_left _ (List.mem_append_right _ h))) (by decide +kernel))) (goodIn_sub (fun _ h => List.mem_cons_of_mem _ (List.mem_append_right _ h)) (by decide +kernel))
set_option maxRecDepth 20000 in
theorem gL_print_L_chartOf : GoodIn wsL_print (va_wsS RL 129 yL_chartOf wsL_chartOf) := goodIn_app (goodIn_of _ (by decide +kernel)) ggL_print_L_chartOf
theorem dL_print_0 : decode cL_print 0 = .ok (.ldc2_w 142, 3) := by decide +kernel
theorem dL_print_3 : decode cL_print 3 = .ok (.lstore_n 1, 1) := by decide +kernel
theorem dL_print_4 : decode cL_print 4 = .ok (.iconst 0, 1) := by decide +kernel
theorem dL_print_5 : decode cL_print 5 = .ok (.istore_n 3, 1) := by decide +kernel
theorem dL_print_6 : decode cL_print 6 = .ok (.iload_n 3, 1) := by decide +kernel
theorem dL_print_7 : decode cL_print 7 = .ok (.bipush 7, 2) := by decide +kernel
theorem dL_print_9 : decode cL_print 9 = .ok (.if_icmp .ge 22, 3) := by decide +kernel
theorem dL_print_12 : decode cL_print 12 = .ok (.ldc2_w 144, 3) := by decide +kernel
theorem dL_print_15 : decode cL_print 15 = .ok (.lload_n 1, 1) := by decide +kernel
theorem dL_print_16 : decode cL_print 16 = .ok (.lmul, 1) := by decide +kernel
theorem dL_print_17 : decode cL_print 17 = .ok (.aload_n 0, 1) := by decide +kernel
theorem dL_print_18 : decode cL_print 18 = .ok (.iload_n 3, 1) := by decide +kernel
theorem dL_print_19 : decode cL_print 19 = .ok (.invokestatic 127, 3) := by decide +kernel
theorem dL_print_22 : decode cL_print 22 = .ok (.i2l, 1) := by decide +kernel
theorem dL_print_23 : decode cL_print 23 = .ok (.ladd, 1) := by decide +kernel
theorem dL_print_24 : decode cL_print 24 = .ok (.lstore_n 1, 1) := by decide +kernel
theorem dL_print_25 : decode cL_print 25 = .ok (.iinc 3 1, 3) := by decide +kernel
theorem dL_print_28 : decode cL_print 28 = .ok (.goto (-22), 3) := by decide +kernel
theorem dL_print_31 : decode cL_print 31 = .ok (.iconst 0, 1) := by decide +kernel
theorem dL_print_32 : decode cL_print 32 = .ok (.istore_n 3, 1) := by decide +kernel
theorem dL_print_33 : decode cL_print 33 = .ok (.iload_n 3, 1) := by decide +kernel
theorem dL_print_34 : decode cL_print 34 = .ok (.bipush 32, 2) := by decide +kernel
theorem dL_print_36 : decode cL_print 36 = .ok (.if_icmp .ge 27, 3) := by decide +kernel
theorem dL_print_39 : decode cL_print 39 = .ok (.ldc2_w 144, 3) := by decide +kernel
theorem dL_print_42 : decode cL_print 42 = .ok (.lload_n 1, 1) := by decide +kernel
theorem dL_print_43 : decode cL_print 43 = .ok (.lmul, 1) := by decide +kernel
theorem dL_print_44 : decode cL_print 44 = .ok (.aload_n 0, 1) := by decide +kernel
theorem dL_print_45 : decode cL_print 45 = .ok (.iload_n 3, 1) := by decide +kernel
theorem dL_print_46 : decode cL_print 46 = .ok (.iconst 4, 1) := by decide +kernel
theorem dL_print_47 : decode cL_print 47 = .ok (.idiv, 1) := by decide +kernel
theorem dL_print_48 : decode cL_print 48 = .ok (.iload_n 3, 1) := by decide +kernel
theorem dL_print_49 : decode cL_print 49 = .ok (.iconst 4, 1) := by decide +kernel
theorem dL_print_50 : decode cL_print 50 = .ok (.irem, 1) := by decide +kernel
theorem dL_print_51 : decode cL_print 51 = .ok (.invokestatic 125, 3) := by decide +kernel
theorem dL_print_54 : decode cL_print 54 = .ok (.i2l, 1) := by decide +kernel
theorem dL_print_55 : decode cL_print 55 = .ok (.ladd, 1) := by decide +kernel
theorem dL_print_56 : decode cL_print 56 = .ok (.lstore_n 1, 1) := by decide +kernel
theorem dL_print_57 : decode cL_print 57 = .ok (.iinc 3 1, 3) := by decide +kernel
theorem dL_print_60 : decode cL_print 60 = .ok (.goto (-27), 3) := by decide +kernel
theorem dL_print_63 : decode cL_print 63 = .ok (.iconst 0, 1) := by decide +kernel
theorem dL_print_64 : decode cL_print 64 = .ok (.istore_n 3, 1) := by decide +kernel
theorem dL_print_65 : decode cL_print 65 = .ok (.iload_n 3, 1) := by decide +kernel
theorem dL_print_66 : decode cL_print 66 = .ok (.bipush 28, 2) := by decide +kernel
theorem dL_print_68 : decode cL_print 68 = .ok (.if_icmp .ge 29, 3) := by decide +kernel
theorem dL_print_71 : decode cL_print 71 = .ok (.ldc2_w 144, 3) := by decide +kernel
theorem dL_print_74 : decode cL_print 74 = .ok (.lload_n 1, 1) := by decide +kernel
theorem dL_print_75 : decode cL_print 75 = .ok (.lmul, 1) := by decide +kernel
theorem dL_print_76 : decode cL_print 76 = .ok (.aload_n 0, 1) := by decide +kernel
theorem dL_print_77 : decode cL_print 77 = .ok (.iload_n 3, 1) := by decide +kernel
theorem dL_print_78 : decode cL_print 78 = .ok (.bipush 7, 2) := by decide +kernel
theorem dL_print_80 : decode cL_print 80 = .ok (.idiv, 1) := by decide +kernel
theorem dL_print_81 : decode cL_print 81 = .ok (.iload_n 3, 1) := by decide +kernel
theorem dL_print_82 : decode cL_print 82 = .ok (.bipush 7, 2) := by decide +kernel
theorem dL_print_84 : decode cL_print 84 = .ok (.irem, 1) := by decide +kernel
theorem dL_print_85 : decode cL_print 85 = .ok (.invokestatic 116, 3) := by decide +kernel
theorem dL_print_88 : decode cL_print 88 = .ok (.i2l, 1) := by decide +kernel
theorem dL_print_89 : decode cL_print 89 = .ok (.ladd, 1) := by decide +kernel
theorem dL_print_90 : decode cL_print 90 = .ok (.lstore_n 1, 1) := by decide +kernel
theorem dL_print_91 : decode cL_print 91 = .ok (.iinc 3 1, 3) := by decide +kernel
theorem dL_print_94 : decode cL_print 94 = .ok (.goto (-29), 3) := by decide +kernel
theorem dL_print_97 : decode cL_print 97 = .ok (.iconst 0, 1) := by decide +kernel
theorem dL_print_98 : decode cL_print 98 = .ok (.istore_n 3, 1) := by decide +kernel
theorem dL_print_99 : decode cL_print 99 = .ok (.iload_n 3, 1) := by decide +kernel
theorem dL_print_100 : decode cL_print 100 = .ok (.iconst 3, 1) := by decide +kernel
theorem dL_print_101 : decode cL_print 101 = .ok (.aload_n 0, 1) := by decide +kernel
theorem dL_print_102 : decode cL_print 102 = .ok (.iconst 2, 1) := by decide +kernel
theorem dL_print_103 : decode cL_print 103 = .ok (.invokestatic 127, 3) := by decide +kernel
theorem dL_print_106 : decode cL_print 106 = .ok (.imul, 1) := by decide +kernel
theorem dL_print_107 : decode cL_print 107 = .ok (.if_icmp .ge 27, 3) := by decide +kernel
theorem dL_print_110 : decode cL_print 110 = .ok (.ldc2_w 144, 3) := by decide +kernel
theorem dL_print_113 : decode cL_print 113 = .ok (.lload_n 1, 1) := by decide +kernel
theorem dL_print_114 : decode cL_print 114 = .ok (.lmul, 1) := by decide +kernel
theorem dL_print_115 : decode cL_print 115 = .ok (.aload_n 0, 1) := by decide +kernel
theorem dL_print_116 : decode cL_print 116 = .ok (.iload_n 3, 1) := by decide +kernel
theorem dL_print_117 : decode cL_print 117 = .ok (.iconst 3, 1) := by decide +kernel
theorem dL_print_118 : decode cL_print 118 = .ok (.idiv, 1) := by decide +kernel
theorem dL_print_119 : decode cL_print 119 = .ok (.iload_n 3, 1) := by decide +kernel
theorem dL_print_120 : decode cL_print 120 = .ok (.iconst 3, 1) := by decide +kernel
theorem dL_print_121 : decode cL_print 121 = .ok (.irem, 1) := by decide +kernel
theorem dL_print_122 : decode cL_print 122 = .ok (.invokestatic 129, 3) := by decide +kernel
theorem dL_print_125 : decode cL_print 125 = .ok (.i2l, 1) := by decide +kernel
theorem dL_print_126 : decode cL_print 126 = .ok (.ladd, 1) := by decide +kernel
theorem dL_print_127 : decode cL_print 127 = .ok (.lstore_n 1, 1) := by decide +kernel
theorem dL_print_128 : decode cL_print 128 = .ok (.iinc 3 1, 3) := by decide +kernel
theorem dL_print_131 : decode cL_print 131 = .ok (.goto (-32), 3) := by decide +kernel
theorem dL_print_134 : decode cL_print 134 = .ok (.lload_n 1, 1) := by decide +kernel
theorem dL_print_135 : decode cL_print 135 = .ok (.lreturn, 1) := by decide +kernel
set_option maxRecDepth 20000 in
theorem ggL_labels_L_print : GoodIn wsL_labels wsL_print := goodIn_ca (goodIn_ca (goodIn_r _ [4, 5, 6, 7, 8, 3, 9, 10, 11, 12, 13, 14, 15, 16, 17, 18, 19, 20, 21, 22, 23, 24, 25, 26, 27, 28, 29, 30, 31, 32, 33, 34, 35, 36, 37, 38, 39, 40, 41, 42, 43, 44, 45, 46, 47, 48, 49, 50, 51, 52, 53, 54, 55, 56, 57, 58, 59, 60, 61, 62, 63, 64, 65, 66, 67, 68, 69, 70, 71, 72, 73, 74, 75, 76, 77, 78, 79, 80, 81, 82, 83, 84, 85, 86, 87, 88, 89, 90, 91, 92, 93, 94, 95, 96, 97, 98, 99, 100, 101, 102, 103, 104, 105, 106, 107, 108, 109, 110, 111, 112, 113, 114, 115, 116, 117, 118, 119, 120, 121, 122, 123, 124, 125, 126, 127, 128, 129, 130, 131, 132, 133, 134, 135, 136, 137, 231, 232, 233, 234, 235, 236, 237, 238, 239, 240, 241, 242, 243, 244, 245, 246, 247, 248] (by decide +kernel) (by decide +kernel)) (goodIn_sub (fun _ h => List.mem_cons_of_mem _ (List.mem_append_left _ (List.mem_append_left _ (List.mem_append_right _ h)))) (by decide +kernel))) (goodIn_sub (fun _ h => List.mem_cons_of_mem _ (List.mem_append_left _ (List.mem_append_right _ h))) (by decide +kernel))
set_option maxRecDepth 20000 in
theorem gL_labels_L_print : GoodIn wsL_labels (va_wsS RL 146 yL_print wsL_print) := goodIn_app (goodIn_of _ (by decide +kernel)) ggL_labels_L_print
set_option maxRecDepth 20000 in
theorem ggL_labels_L_fewest : GoodIn wsL_labels wsL_fewest := goodIn_ca (goodIn_ca (goodIn_r _ [140, 80, 10, 11, 81, 141, 142, 143, 15, 144, 145, 19, 108, 109, 110, 89, 90, 91, 92, 93, 17, 18, 146, 147, 148, 149, 150, 151, 152, 74, 75, 24, 76, 46, 47, 48, 49, 50, 51, 52, 53, 54, 55, 56, 57, 58, 59, 60, 61, 62, 63, 64, 153, 154, 155, 156, 157, 158, 159, 160, 161, 162, 163, 164, 165, 166, 167, 168, 169, 170, 171, 172, 173, 231, 232, 233, 234, 249, 250, 251, 252, 235, 236, 237, 238, 239, 240, 241, 242, 243, 244] (by decide +kernel) (by decide +kernel)) (goodIn_sub (fun _ h => List.mem_cons_of_mem _ (List.mem_append_left _ (List.mem_append_right _ h))) (by decide +kernel))) (goodIn_sub (fun _ h => List.mem_cons_of_mem _ (List.mem_append_left _ (List.mem_append_left _ (List.mem_append_right _ h)))) (by decide +kernel))
set_option maxRecDepth 20000 in
theorem gL_labels_L_fewest : GoodIn wsL_labels (va_wsS RL 150 yL_fewest wsL_fewest) := goodIn_app (goodIn_of _ (by decide +kernel)) ggL_labels_L_fewest
set_option maxRecDepth 20000 in
theorem ggL_labels_L_labelAll : GoodIn wsL_labels wsL_labelAll := goodIn_ca (goodIn_r _ [176, 80, 11, 177, 178, 179, 15, 180, 20, 19, 108, 109, 110, 89, 90, 181, 182, 183, 184, 185, 186, 187, 188, 189, 190, 191, 192, 193, 194, 24, 195, 47, 196, 197, 198, 199, 26, 53, 52, 46, 121, 122, 120, 200, 201, 202, 203, 204, 205, 73, 74, 75, 76, 48, 49, 50, 51, 54, 55, 56, 57, 58, 59, 60, 61, 62, 63, 64, 206, 207, 208, 27, 28, 29, 30, 31, 32, 33, 34, 35, 36, 37, 231, 232, 233, 234, 245, 246, 247, 248, 235, 236, 237, 238, 239, 240, 241, 242, 243, 244] (by decide +kernel) (by decide +kernel)) (goodIn_sub (fun _ h => List.mem_cons_of_mem _ (List.mem_append_left _ (List.mem_append_right _ h))) (by decide +kernel))
set_option maxRecDepth 20000 in
theorem gL_labels_L_labelAll : GoodIn wsL_labels (va_wsS RL 105 yL_labelAll wsL_labelAll) := goodIn_app (goodIn_of _ (by decide +kernel)) ggL_labels_L_labelAll
set_option maxRecDepth 20000 in
theorem ggL_labels_L_count : GoodIn wsL_labels wsL_count := goodIn_ca (goodIn_r _ [9, 10, 11, 12, 13, 14, 15, 16, 17, 18, 19, 20, 21, 22, 23, 24, 25, 26, 27, 28, 29, 30, 31, 32, 33, 34, 35, 36, 37, 38, 39, 40, 41, 42, 43, 44, 45, 46, 47, 48, 49, 50, 51, 52, 53, 54, 55, 56, 57, 58, 59, 60, 61, 62, 63, 64, 65, 66, 67, 68, 69, 70, 71, 72, 73, 74, 75, 76, 231, 232, 233, 234, 235, 236, 237, 238, 239, 240, 241, 242, 243, 244, 245, 246, 247, 248] (by decide +kernel) (by decide +kernel)) (goodIn_sub (fun _ h => List.mem_cons_of_mem _ (List.mem_append_left _ (List.mem_append_left _ (List.mem_append_right _ h)))) (by decide +kernel))
set_option maxRecDepth 20000 in
theorem gL_labels_L_count : GoodIn wsL_labels (va_wsS RL 127 yL_count wsL_count) := goodIn_app (goodIn_of _ (by decide +kernel)) ggL_labels_L_count
set_option maxRecDepth 20000 in
theorem ggL_labels_L_painterOf : GoodIn wsL_labels wsL_painterOf := goodIn_ca (goodIn_ca (goodIn_r _ [103, 80, 10, 11, 81, 104, 105, 106, 15, 107, 17, 18, 19, 108, 109, 110, 89, 90, 111, 112, 113, 24, 114, 47, 48, 49, 50, 51, 52, 53, 54, 55, 56, 57, 58, 59, 60, 61, 62, 63, 64, 115, 70, 71, 72, 26, 73, 74, 75, 76, 46, 116, 117, 118, 119, 120, 121, 122, 231, 232, 233, 234, 235, 236, 237, 238, 239, 240, 241, 242, 243, 244] (by decide +kernel) (by decide +kernel)) (goodIn_sub (fun _ h => List.mem_cons_of_mem _ (List.mem_append_left _ (List.mem_append_left _ (List.mem_append_right _ h)))) (by decide +kernel))) (goodIn_sub (fun _ h => List.mem_cons_of_mem _ (List.mem_append_left _ (List.mem_append_right _ h))) (by decide +kernel))
set_option maxRecDepth 20000 in
theorem gL_labels_L_painterOf : GoodIn wsL_labels (va_wsS RL 116 yL_painterOf wsL_painterOf) := goodIn_app (goodIn_of _ (by decide +kernel)) ggL_labels_L_painterOf
set_option maxRecDepth 20000 in
theorem ggL_labels_L_potOf : GoodIn wsL_labels wsL_potOf := goodIn_ca (goodIn_ca (goodIn_r _ [79, 80, 10, 11, 81, 82, 83, 84, 15, 85, 19, 86, 87, 88, 89, 90, 91, 92, 93, 17, 18, 94, 95, 56, 96, 97, 98, 99, 24, 100, 42, 43, 44, 45, 46, 47, 48, 49, 50, 51, 52, 53, 54, 55, 57, 58, 59, 60, 61, 62, 63, 64, 231, 232, 233, 234, 235, 236, 237, 238, 239, 240, 241, 242, 243, 244] (by decide +kernel) (by decide +kernel)) (goodIn_sub (fun _ h => List.mem_cons_of_mem _ (List.mem_append_left _ (List.mem_append_right _ h))) (by decide +kernel))) (goodIn_sub (fun _ h => List.mem_cons_of_mem _ (List.mem_append_left _ (List.mem_append_left _ (List.mem_append_right _ h)))) (by decide +kernel))
set_option maxRecDepth 20000 in
theorem gL_labels_L_potOf : GoodIn wsL_labels (va_wsS RL 125 yL_potOf wsL_potOf) := goodIn_app (goodIn_of _ (by decide +kernel)) ggL_labels_L_potOf
set_option maxRecDepth 20000 in
theorem ggL_labels_L_apart : GoodIn wsL_labels wsL_apart := goodIn_ca (goodIn_r _ [211, 80, 11, 212, 213, 214, 15, 215, 19, 108, 109, 110, 89, 90, 86, 87, 88, 216, 74, 75, 24, 76, 46, 47, 48, 49, 50, 51, 52, 53, 54, 55, 56, 57, 58, 59, 60, 61, 62, 63, 64, 231, 232, 233, 234, 235, 236, 237, 238, 239, 240, 241, 242, 243, 244] (by decide +kernel) (by decide +kernel)) (goodIn_sub (fun _ h => List.mem_cons_of_mem _ (List.mem_append_left _ (List.mem_append_right _ h))) (by decide +kernel))
set_option maxRecDepth 20000 in
theorem gL_labels_L_apart : GoodIn wsL_labels (va_wsS RL 118 yL_apart wsL_apart) := goodIn_app (goodIn_of _ (by decide +kernel)) ggL_labels_L_apart
set_option maxRecDepth 20000 in
theorem ggL_labels_L_undo : GoodIn wsL_labels wsL_undo := goodIn_ca (goodIn_r _ [219, 220, 11, 221, 222, 223, 15, 224, 225, 226, 20, 19, 227, 228, 229, 184, 230, 186, 187, 192, 193, 194, 24, 195, 47, 196, 197, 198, 199, 26, 53, 52, 46, 121, 122, 120, 200, 201, 231, 232, 233, 234, 245, 246, 247, 248, 235, 236, 237, 238, 239, 240, 241, 242, 243, 244] (by decide +kernel) (by decide +kernel)) (goodIn_sub (fun _ h => List.mem_cons_of_mem _ (List.mem_append_right _ h)) (by decide +kernel))
set_option maxRecDepth 20000 in
theorem gL_labels_L_undo : GoodIn wsL_labels (va_wsS RL 152 yL_undo wsL_undo) := goodIn_app (goodIn_of _ (by decide +kernel)) ggL_labels_L_undo
theorem dL_labels_0 : decode cL_labels 0 = .ok (.aload_n 0, 1) := by decide +kernel
theorem dL_labels_1 : decode cL_labels 1 = .ok (.invokestatic 146, 3) := by decide +kernel
theorem dL_labels_4 : decode cL_labels 4 = .ok (.lstore_n 2, 1) := by decide +kernel
theorem dL_labels_5 : decode cL_labels 5 = .ok (.aload_n 0, 1) := by decide +kernel
theorem dL_labels_6 : decode cL_labels 6 = .ok (.iload_n 1, 1) := by decide +kernel
theorem dL_labels_7 : decode cL_labels 7 = .ok (.iconst 0, 1) := by decide +kernel
theorem dL_labels_8 : decode cL_labels 8 = .ok (.invokestatic 150, 3) := by decide +kernel
theorem dL_labels_11 : decode cL_labels 11 = .ok (.istore 4, 2) := by decide +kernel
theorem dL_labels_13 : decode cL_labels 13 = .ok (.aload_n 0, 1) := by decide +kernel
theorem dL_labels_14 : decode cL_labels 14 = .ok (.iload_n 1, 1) := by decide +kernel
theorem dL_labels_15 : decode cL_labels 15 = .ok (.invokestatic 105, 3) := by decide +kernel
theorem dL_labels_18 : decode cL_labels 18 = .ok (.istore 5, 2) := by decide +kernel
theorem dL_labels_20 : decode cL_labels 20 = .ok (.iload 4, 2) := by decide +kernel
theorem dL_labels_22 : decode cL_labels 22 = .ok (.aload_n 0, 1) := by decide +kernel
theorem dL_labels_23 : decode cL_labels 23 = .ok (.iload_n 1, 1) := by decide +kernel
theorem dL_labels_24 : decode cL_labels 24 = .ok (.iconst 1, 1) := by decide +kernel
theorem dL_labels_25 : decode cL_labels 25 = .ok (.invokestatic 150, 3) := by decide +kernel
theorem dL_labels_28 : decode cL_labels 28 = .ok (.if_icmp .ne 112, 3) := by decide +kernel
theorem dL_labels_31 : decode cL_labels 31 = .ok (.iload 5, 2) := by decide +kernel
theorem dL_labels_33 : decode cL_labels 33 = .ok (.iload 4, 2) := by decide +kernel
theorem dL_labels_35 : decode cL_labels 35 = .ok (.if_icmp .lt 105, 3) := by decide +kernel
theorem dL_labels_38 : decode cL_labels 38 = .ok (.iload 5, 2) := by decide +kernel
theorem dL_labels_40 : decode cL_labels 40 = .ok (.aload_n 0, 1) := by decide +kernel
theorem dL_labels_41 : decode cL_labels 41 = .ok (.iconst 1, 1) := by decide +kernel
theorem dL_labels_42 : decode cL_labels 42 = .ok (.invokestatic 127, 3) := by decide +kernel
theorem dL_labels_45 : decode cL_labels 45 = .ok (.if_icmp .ne 95, 3) := by decide +kernel
theorem dL_labels_48 : decode cL_labels 48 = .ok (.aload_n 0, 1) := by decide +kernel
theorem dL_labels_49 : decode cL_labels 49 = .ok (.iconst 0, 1) := by decide +kernel
theorem dL_labels_50 : decode cL_labels 50 = .ok (.invokestatic 127, 3) := by decide +kernel
theorem dL_labels_53 : decode cL_labels 53 = .ok (.bipush 8, 2) := by decide +kernel
theorem dL_labels_55 : decode cL_labels 55 = .ok (.if_icmp .ne 85, 3) := by decide +kernel
theorem dL_labels_58 : decode cL_labels 58 = .ok (.aload_n 0, 1) := by decide +kernel
theorem dL_labels_59 : decode cL_labels 59 = .ok (.iload_n 1, 1) := by decide +kernel
theorem dL_labels_60 : decode cL_labels 60 = .ok (.iconst 5, 1) := by decide +kernel
theorem dL_labels_61 : decode cL_labels 61 = .ok (.invokestatic 116, 3) := by decide +kernel
theorem dL_labels_64 : decode cL_labels 64 = .ok (.iconst 1, 1) := by decide +kernel
theorem dL_labels_65 : decode cL_labels 65 = .ok (.if_icmp .ne 75, 3) := by decide +kernel
theorem dL_labels_68 : decode cL_labels 68 = .ok (.aload_n 0, 1) := by decide +kernel
theorem dL_labels_69 : decode cL_labels 69 = .ok (.iconst 0, 1) := by decide +kernel
theorem dL_labels_70 : decode cL_labels 70 = .ok (.iconst 3, 1) := by decide +kernel
theorem dL_labels_71 : decode cL_labels 71 = .ok (.invokestatic 125, 3) := by decide +kernel
theorem dL_labels_74 : decode cL_labels 74 = .ok (.ifCond .ne 66, 3) := by decide +kernel
theorem dL_labels_77 : decode cL_labels 77 = .ok (.iload 4, 2) := by decide +kernel
theorem dL_labels_79 : decode cL_labels 79 = .ok (.iconst 1, 1) := by decide +kernel
theorem dL_labels_80 : decode cL_labels 80 = .ok (.if_icmp .ne 7, 3) := by decide +kernel
theorem dL_labels_83 : decode cL_labels 83 = .ok (.iconst 1, 1) := by decide +kernel
theorem dL_labels_84 : decode cL_labels 84 = .ok (.goto 4, 3) := by decide +kernel
theorem dL_labels_87 : decode cL_labels 87 = .ok (.iconst 0, 1) := by decide +kernel
theorem dL_labels_88 : decode cL_labels 88 = .ok (.aload_n 0, 1) := by decide +kernel
theorem dL_labels_89 : decode cL_labels 89 = .ok (.iload_n 1, 1) := by decide +kernel
theorem dL_labels_90 : decode cL_labels 90 = .ok (.iconst 3, 1) := by decide +kernel
theorem dL_labels_91 : decode cL_labels 91 = .ok (.invokestatic 116, 3) := by decide +kernel
theorem dL_labels_94 : decode cL_labels 94 = .ok (.ifCond .ne 7, 3) := by decide +kernel
theorem dL_labels_97 : decode cL_labels 97 = .ok (.iconst 1, 1) := by decide +kernel
theorem dL_labels_98 : decode cL_labels 98 = .ok (.goto 4, 3) := by decide +kernel
theorem dL_labels_101 : decode cL_labels 101 = .ok (.iconst 0, 1) := by decide +kernel
theorem dL_labels_102 : decode cL_labels 102 = .ok (.if_icmp .ne 38, 3) := by decide +kernel
theorem dL_labels_105 : decode cL_labels 105 = .ok (.iload 4, 2) := by decide +kernel
theorem dL_labels_107 : decode cL_labels 107 = .ok (.iconst 1, 1) := by decide +kernel
theorem dL_labels_108 : decode cL_labels 108 = .ok (.if_icmp .lt 32, 3) := by decide +kernel
theorem dL_labels_111 : decode cL_labels 111 = .ok (.iload 4, 2) := by decide +kernel
theorem dL_labels_113 : decode cL_labels 113 = .ok (.bipush 8, 2) := by decide +kernel
theorem dL_labels_115 : decode cL_labels 115 = .ok (.if_icmp .gt 25, 3) := by decide +kernel
theorem dL_labels_118 : decode cL_labels 118 = .ok (.iload 4, 2) := by decide +kernel
theorem dL_labels_120 : decode cL_labels 120 = .ok (.iconst 1, 1) := by decide +kernel
theorem dL_labels_121 : decode cL_labels 121 = .ok (.isub, 1) := by decide +kernel
theorem dL_labels_122 : decode cL_labels 122 = .ok (.iload 4, 2) := by decide +kernel
theorem dL_labels_124 : decode cL_labels 124 = .ok (.imul, 1) := by decide +kernel
theorem dL_labels_125 : decode cL_labels 125 = .ok (.iconst 2, 1) := by decide +kernel
theorem dL_labels_126 : decode cL_labels 126 = .ok (.idiv, 1) := by decide +kernel
theorem dL_labels_127 : decode cL_labels 127 = .ok (.aload_n 0, 1) := by decide +kernel
theorem dL_labels_128 : decode cL_labels 128 = .ok (.iload_n 1, 1) := by decide +kernel
theorem dL_labels_129 : decode cL_labels 129 = .ok (.iconst 3, 1) := by decide +kernel
theorem dL_labels_130 : decode cL_labels 130 = .ok (.invokestatic 116, 3) := by decide +kernel
theorem dL_labels_133 : decode cL_labels 133 = .ok (.if_icmp .gt 7, 3) := by decide +kernel
theorem dL_labels_136 : decode cL_labels 136 = .ok (.iconst 1, 1) := by decide +kernel
theorem dL_labels_137 : decode cL_labels 137 = .ok (.goto 4, 3) := by decide +kernel
theorem dL_labels_140 : decode cL_labels 140 = .ok (.iconst 0, 1) := by decide +kernel
theorem dL_labels_141 : decode cL_labels 141 = .ok (.istore 6, 2) := by decide +kernel
theorem dL_labels_143 : decode cL_labels 143 = .ok (.iconst 0, 1) := by decide +kernel
theorem dL_labels_144 : decode cL_labels 144 = .ok (.istore 7, 2) := by decide +kernel
theorem dL_labels_146 : decode cL_labels 146 = .ok (.iload 7, 2) := by decide +kernel
theorem dL_labels_148 : decode cL_labels 148 = .ok (.bipush 8, 2) := by decide +kernel
theorem dL_labels_150 : decode cL_labels 150 = .ok (.if_icmp .ge 108, 3) := by decide +kernel
theorem dL_labels_153 : decode cL_labels 153 = .ok (.iload 6, 2) := by decide +kernel
theorem dL_labels_155 : decode cL_labels 155 = .ok (.ifCond .eq 103, 3) := by decide +kernel
theorem dL_labels_158 : decode cL_labels 158 = .ok (.iconst 0, 1) := by decide +kernel
theorem dL_labels_159 : decode cL_labels 159 = .ok (.istore 8, 2) := by decide +kernel
theorem dL_labels_161 : decode cL_labels 161 = .ok (.iload 8, 2) := by decide +kernel
theorem dL_labels_163 : decode cL_labels 163 = .ok (.aload_n 0, 1) := by decide +kernel
theorem dL_labels_164 : decode cL_labels 164 = .ok (.iload 7, 2) := by decide +kernel
theorem dL_labels_166 : decode cL_labels 166 = .ok (.iconst 3, 1) := by decide +kernel
theorem dL_labels_167 : decode cL_labels 167 = .ok (.invokestatic 125, 3) := by decide +kernel
theorem dL_labels_170 : decode cL_labels 170 = .ok (.if_icmp .ge 82, 3) := by decide +kernel
theorem dL_labels_173 : decode cL_labels 173 = .ok (.iconst 0, 1) := by decide +kernel
theorem dL_labels_174 : decode cL_labels 174 = .ok (.istore 9, 2) := by decide +kernel
theorem dL_labels_176 : decode cL_labels 176 = .ok (.iconst 0, 1) := by decide +kernel
theorem dL_labels_177 : decode cL_labels 177 = .ok (.istore 10, 2) := by decide +kernel
theorem dL_labels_179 : decode cL_labels 179 = .ok (.iload 10, 2) := by decide +kernel
theorem dL_labels_181 : decode cL_labels 181 = .ok (.iload 7, 2) := by decide +kernel
theorem dL_labels_183 : decode cL_labels 183 = .ok (.if_icmp .ge 46, 3) := by decide +kernel
theorem dL_labels_186 : decode cL_labels 186 = .ok (.iload 9, 2) := by decide +kernel
theorem dL_labels_188 : decode cL_labels 188 = .ok (.ifCond .ne 28, 3) := by decide +kernel
theorem dL_labels_191 : decode cL_labels 191 = .ok (.aload_n 0, 1) := by decide +kernel
theorem dL_labels_192 : decode cL_labels 192 = .ok (.iload 10, 2) := by decide +kernel
theorem dL_labels_194 : decode cL_labels 194 = .ok (.iconst 3, 1) := by decide +kernel
theorem dL_labels_195 : decode cL_labels 195 = .ok (.invokestatic 125, 3) := by decide +kernel
theorem dL_labels_198 : decode cL_labels 198 = .ok (.iload 8, 2) := by decide +kernel
theorem dL_labels_200 : decode cL_labels 200 = .ok (.if_icmp .ne 20, 3) := by decide +kernel
theorem dL_labels_203 : decode cL_labels 203 = .ok (.aload_n 0, 1) := by decide +kernel
theorem dL_labels_204 : decode cL_labels 204 = .ok (.iload_n 1, 1) := by decide +kernel
theorem dL_labels_205 : decode cL_labels 205 = .ok (.iload 10, 2) := by decide +kernel
theorem dL_labels_207 : decode cL_labels 207 = .ok (.iload 7, 2) := by decide +kernel
theorem dL_labels_209 : decode cL_labels 209 = .ok (.invokestatic 118, 3) := by decide +kernel
theorem dL_labels_212 : decode cL_labels 212 = .ok (.iconst 1, 1) := by decide +kernel
theorem dL_labels_213 : decode cL_labels 213 = .ok (.if_icmp .ne 7, 3) := by decide +kernel
theorem dL_labels_216 : decode cL_labels 216 = .ok (.iconst 1, 1) := by decide +kernel
theorem dL_labels_217 : decode cL_labels 217 = .ok (.goto 4, 3) := by decide +kernel
theorem dL_labels_220 : decode cL_labels 220 = .ok (.iconst 0, 1) := by decide +kernel
theorem dL_labels_221 : decode cL_labels 221 = .ok (.istore 9, 2) := by decide +kernel
theorem dL_labels_223 : decode cL_labels 223 = .ok (.iinc 10 1, 3) := by decide +kernel
theorem dL_labels_226 : decode cL_labels 226 = .ok (.goto (-47), 3) := by decide +kernel
theorem dL_labels_229 : decode cL_labels 229 = .ok (.iload 6, 2) := by decide +kernel
theorem dL_labels_231 : decode cL_labels 231 = .ok (.ifCond .eq 12, 3) := by decide +kernel
theorem dL_labels_234 : decode cL_labels 234 = .ok (.iload 9, 2) := by decide +kernel
theorem dL_labels_236 : decode cL_labels 236 = .ok (.ifCond .eq 7, 3) := by decide +kernel
theorem dL_labels_239 : decode cL_labels 239 = .ok (.iconst 1, 1) := by decide +kernel
theorem dL_labels_240 : decode cL_labels 240 = .ok (.goto 4, 3) := by decide +kernel
theorem dL_labels_243 : decode cL_labels 243 = .ok (.iconst 0, 1) := by decide +kernel
theorem dL_labels_244 : decode cL_labels 244 = .ok (.istore 6, 2) := by decide +kernel
theorem dL_labels_246 : decode cL_labels 246 = .ok (.iinc 8 1, 3) := by decide +kernel
theorem dL_labels_249 : decode cL_labels 249 = .ok (.goto (-88), 3) := by decide +kernel
theorem dL_labels_252 : decode cL_labels 252 = .ok (.iinc 7 1, 3) := by decide +kernel
theorem dL_labels_255 : decode cL_labels 255 = .ok (.goto (-109), 3) := by decide +kernel
theorem dL_labels_258 : decode cL_labels 258 = .ok (.iload 6, 2) := by decide +kernel
theorem dL_labels_260 : decode cL_labels 260 = .ok (.ifCond .eq 23, 3) := by decide +kernel
theorem dL_labels_263 : decode cL_labels 263 = .ok (.aload_n 0, 1) := by decide +kernel
theorem dL_labels_264 : decode cL_labels 264 = .ok (.invokestatic 152, 3) := by decide +kernel
theorem dL_labels_267 : decode cL_labels 267 = .ok (.ifCond .lt 16, 3) := by decide +kernel
theorem dL_labels_270 : decode cL_labels 270 = .ok (.aload_n 0, 1) := by decide +kernel
theorem dL_labels_271 : decode cL_labels 271 = .ok (.invokestatic 146, 3) := by decide +kernel
theorem dL_labels_274 : decode cL_labels 274 = .ok (.lload_n 2, 1) := by decide +kernel
theorem dL_labels_275 : decode cL_labels 275 = .ok (.lcmp, 1) := by decide +kernel
theorem dL_labels_276 : decode cL_labels 276 = .ok (.ifCond .ne 7, 3) := by decide +kernel
theorem dL_labels_279 : decode cL_labels 279 = .ok (.iconst 1, 1) := by decide +kernel
theorem dL_labels_280 : decode cL_labels 280 = .ok (.goto 4, 3) := by decide +kernel
theorem dL_labels_283 : decode cL_labels 283 = .ok (.iconst 0, 1) := by decide +kernel
theorem dL_labels_284 : decode cL_labels 284 = .ok (.ireturn, 1) := by decide +kernel
set_option maxRecDepth 20000 in
theorem ggL_borrows_L_print : GoodIn wsL_borrows wsL_print := goodIn_ca (goodIn_ca (goodIn_r _ [4, 5, 6, 7, 8, 3, 9, 10, 11, 12, 13, 14, 15, 16, 17, 18, 19, 20, 21, 22, 23, 24, 25, 26, 27, 28, 29, 30, 31, 32, 33, 34, 35, 36, 37, 38, 39, 40, 41, 42, 43, 44, 45, 46, 47, 48, 49, 50, 51, 52, 53, 54, 55, 56, 57, 58, 59, 60, 61, 62, 63, 64, 65, 66, 67, 68, 69, 70, 71, 72, 73, 74, 75, 76, 77, 78, 79, 80, 81, 82, 83, 84, 85, 86, 87, 88, 89, 90, 91, 92, 93, 94, 95, 96, 97, 98, 99, 100, 101, 102, 103, 104, 105, 106, 107, 108, 109, 110, 111, 112, 113, 114, 115, 116, 117, 118, 119, 120, 121, 122, 123, 124, 125, 126, 127, 128, 129, 130, 131, 132, 133, 134, 135, 136, 137, 187, 188, 189, 190, 191, 192, 193, 194, 195, 196, 197, 198, 199, 200, 201, 202, 203, 204] (by decide +kernel) (by decide +kernel)) (goodIn_sub (fun _ h => List.mem_cons_of_mem _ (List.mem_append_left _ (List.mem_append_left _ (List.mem_append_right _ h)))) (by decide +kernel))) (goodIn_sub (fun _ h => List.mem_cons_of_mem _ (List.mem_append_left _ (List.mem_append_right _ h))) (by decide +kernel))
set_option maxRecDepth 20000 in
theorem gL_borrows_L_print : GoodIn wsL_borrows (va_wsS RL 146 yL_print wsL_print) := goodIn_app (goodIn_of _ (by decide +kernel)) ggL_borrows_L_print
set_option maxRecDepth 20000 in
theorem ggL_borrows_L_ifBorrowed : GoodIn wsL_borrows wsL_ifBorrowed := goodIn_ca (goodIn_r _ [140, 80, 11, 141, 142, 143, 15, 144, 19, 108, 109, 110, 89, 90, 111, 112, 113, 24, 114, 47, 48, 49, 50, 51, 52, 53, 54, 55, 56, 57, 58, 59, 60, 61, 62, 63, 64, 187, 188, 189, 190, 191, 192, 193, 194, 195, 196, 197, 198, 199, 200] (by decide +kernel) (by decide +kernel)) (goodIn_sub (fun _ h => List.mem_cons_of_mem _ (List.mem_append_left _ (List.mem_append_right _ h))) (by decide +kernel))
set_option maxRecDepth 20000 in
theorem gL_borrows_L_ifBorrowed : GoodIn wsL_borrows (va_wsS RL 131 yL_ifBorrowed wsL_ifBorrowed) := goodIn_app (goodIn_of _ (by decide +kernel)) ggL_borrows_L_ifBorrowed
set_option maxRecDepth 20000 in
theorem ggL_borrows_L_painterOf : GoodIn wsL_borrows wsL_painterOf := goodIn_ca (goodIn_ca (goodIn_r _ [103, 80, 10, 11, 81, 104, 105, 106, 15, 107, 17, 18, 19, 108, 109, 110, 89, 90, 111, 112, 113, 24, 114, 47, 48, 49, 50, 51, 52, 53, 54, 55, 56, 57, 58, 59, 60, 61, 62, 63, 64, 115, 70, 71, 72, 26, 73, 74, 75, 76, 46, 116, 117, 118, 119, 120, 121, 122, 187, 188, 189, 190, 191, 192, 193, 194, 195, 196, 197, 198, 199, 200] (by decide +kernel) (by decide +kernel)) (goodIn_sub (fun _ h => List.mem_cons_of_mem _ (List.mem_append_left _ (List.mem_append_left _ (List.mem_append_right _ h)))) (by decide +kernel))) (goodIn_sub (fun _ h => List.mem_cons_of_mem _ (List.mem_append_left _ (List.mem_append_right _ h))) (by decide +kernel))
set_option maxRecDepth 20000 in
theorem gL_borrows_L_painterOf : GoodIn wsL_borrows (va_wsS RL 116 yL_painterOf wsL_painterOf) := goodIn_app (goodIn_of _ (by decide +kernel)) ggL_borrows_L_painterOf
set_option maxRecDepth 20000 in
theorem ggL_borrows_L_borrow : GoodIn wsL_borrows wsL_borrow := goodIn_ca (goodIn_r _ [147, 80, 11, 148, 149, 150, 15, 151, 20, 19, 108, 109, 110, 89, 90, 152, 153, 154, 155, 156, 157, 158, 159, 160, 161, 162, 163, 164, 165, 24, 166, 47, 167, 168, 169, 170, 26, 53, 52, 46, 121, 122, 120, 171, 172, 187, 188, 189, 190, 191, 192, 193, 194, 195, 196, 197, 198, 199, 200, 201, 202, 203, 204] (by decide +kernel) (by decide +kernel)) (goodIn_sub (fun _ h => List.mem_cons_of_mem _ (List.mem_append_left _ (List.mem_append_right _ h))) (by decide +kernel))
set_option maxRecDepth 20000 in
theorem gL_borrows_L_borrow : GoodIn wsL_borrows (va_wsS RL 109 yL_borrow wsL_borrow) := goodIn_app (goodIn_of _ (by decide +kernel)) ggL_borrows_L_borrow
set_option maxRecDepth 20000 in
theorem ggL_borrows_L_undo : GoodIn wsL_borrows wsL_undo := goodIn_ca (goodIn_r _ [175, 176, 11, 177, 178, 179, 15, 180, 181, 182, 20, 19, 183, 184, 185, 155, 186, 157, 158, 163, 164, 165, 24, 166, 47, 167, 168, 169, 170, 26, 53, 52, 46, 121, 122, 120, 171, 172, 187, 188, 189, 190, 201, 202, 203, 204, 191, 192, 193, 194, 195, 196, 197, 198, 199, 200] (by decide +kernel) (by decide +kernel)) (goodIn_sub (fun _ h => List.mem_cons_of_mem _ (List.mem_append_right _ h)) (by decide +kernel))
set_option maxRecDepth 20000 in
theorem gL_borrows_L_undo : GoodIn wsL_borrows (va_wsS RL 152 yL_undo wsL_undo) := goodIn_app (goodIn_of _ (by decide +kernel)) ggL_borrows_L_undo
theorem dL_borrows_0 : decode cL_borrows 0 = .ok (.aload_n 0, 1) := by decide +kernel
theorem dL_borrows_1 : decode cL_borrows 1 = .ok (.invokestatic 146, 3) := by decide +kernel
theorem dL_borrows_4 : decode cL_borrows 4 = .ok (.lstore_n 3, 1) := by decide +kernel
theorem dL_borrows_5 : decode cL_borrows 5 = .ok (.aload_n 0, 1) := by decide +kernel
theorem dL_borrows_6 : decode cL_borrows 6 = .ok (.iload_n 1, 1) := by decide +kernel
theorem dL_borrows_7 : decode cL_borrows 7 = .ok (.iload_n 2, 1) := by decide +kernel
theorem dL_borrows_8 : decode cL_borrows 8 = .ok (.invokestatic 131, 3) := by decide +kernel
theorem dL_borrows_11 : decode cL_borrows 11 = .ok (.istore 5, 2) := by decide +kernel
theorem dL_borrows_13 : decode cL_borrows 13 = .ok (.aload_n 0, 1) := by decide +kernel
theorem dL_borrows_14 : decode cL_borrows 14 = .ok (.iload_n 1, 1) := by decide +kernel
theorem dL_borrows_15 : decode cL_borrows 15 = .ok (.iconst 2, 1) := by decide +kernel
theorem dL_borrows_16 : decode cL_borrows 16 = .ok (.invokestatic 116, 3) := by decide +kernel
theorem dL_borrows_19 : decode cL_borrows 19 = .ok (.istore 6, 2) := by decide +kernel
theorem dL_borrows_21 : decode cL_borrows 21 = .ok (.aload_n 0, 1) := by decide +kernel
theorem dL_borrows_22 : decode cL_borrows 22 = .ok (.iload_n 1, 1) := by decide +kernel
theorem dL_borrows_23 : decode cL_borrows 23 = .ok (.iload_n 2, 1) := by decide +kernel
theorem dL_borrows_24 : decode cL_borrows 24 = .ok (.invokestatic 109, 3) := by decide +kernel
theorem dL_borrows_27 : decode cL_borrows 27 = .ok (.iload 6, 2) := by decide +kernel
theorem dL_borrows_29 : decode cL_borrows 29 = .ok (.if_icmp .ne 37, 3) := by decide +kernel
theorem dL_borrows_32 : decode cL_borrows 32 = .ok (.aload_n 0, 1) := by decide +kernel
theorem dL_borrows_33 : decode cL_borrows 33 = .ok (.iload_n 1, 1) := by decide +kernel
theorem dL_borrows_34 : decode cL_borrows 34 = .ok (.iconst 3, 1) := by decide +kernel
theorem dL_borrows_35 : decode cL_borrows 35 = .ok (.invokestatic 116, 3) := by decide +kernel
theorem dL_borrows_38 : decode cL_borrows 38 = .ok (.iload 5, 2) := by decide +kernel
theorem dL_borrows_40 : decode cL_borrows 40 = .ok (.if_icmp .ne 26, 3) := by decide +kernel
theorem dL_borrows_43 : decode cL_borrows 43 = .ok (.aload_n 0, 1) := by decide +kernel
theorem dL_borrows_44 : decode cL_borrows 44 = .ok (.iload_n 1, 1) := by decide +kernel
theorem dL_borrows_45 : decode cL_borrows 45 = .ok (.iconst 2, 1) := by decide +kernel
theorem dL_borrows_46 : decode cL_borrows 46 = .ok (.invokestatic 116, 3) := by decide +kernel
theorem dL_borrows_49 : decode cL_borrows 49 = .ok (.iload_n 1, 1) := by decide +kernel
theorem dL_borrows_50 : decode cL_borrows 50 = .ok (.iload_n 2, 1) := by decide +kernel
theorem dL_borrows_51 : decode cL_borrows 51 = .ok (.if_icmp .ne 7, 3) := by decide +kernel
theorem dL_borrows_54 : decode cL_borrows 54 = .ok (.iconst (-1), 1) := by decide +kernel
theorem dL_borrows_55 : decode cL_borrows 55 = .ok (.goto 4, 3) := by decide +kernel
theorem dL_borrows_58 : decode cL_borrows 58 = .ok (.iload_n 2, 1) := by decide +kernel
theorem dL_borrows_59 : decode cL_borrows 59 = .ok (.if_icmp .ne 7, 3) := by decide +kernel
theorem dL_borrows_62 : decode cL_borrows 62 = .ok (.iconst 1, 1) := by decide +kernel
theorem dL_borrows_63 : decode cL_borrows 63 = .ok (.goto 4, 3) := by decide +kernel
theorem dL_borrows_66 : decode cL_borrows 66 = .ok (.iconst 0, 1) := by decide +kernel
theorem dL_borrows_67 : decode cL_borrows 67 = .ok (.istore 7, 2) := by decide +kernel
theorem dL_borrows_69 : decode cL_borrows 69 = .ok (.iload 7, 2) := by decide +kernel
theorem dL_borrows_71 : decode cL_borrows 71 = .ok (.ifCond .eq 23, 3) := by decide +kernel
theorem dL_borrows_74 : decode cL_borrows 74 = .ok (.aload_n 0, 1) := by decide +kernel
theorem dL_borrows_75 : decode cL_borrows 75 = .ok (.invokestatic 152, 3) := by decide +kernel
theorem dL_borrows_78 : decode cL_borrows 78 = .ok (.ifCond .lt 16, 3) := by decide +kernel
theorem dL_borrows_81 : decode cL_borrows 81 = .ok (.aload_n 0, 1) := by decide +kernel
theorem dL_borrows_82 : decode cL_borrows 82 = .ok (.invokestatic 146, 3) := by decide +kernel
theorem dL_borrows_85 : decode cL_borrows 85 = .ok (.lload_n 3, 1) := by decide +kernel
theorem dL_borrows_86 : decode cL_borrows 86 = .ok (.lcmp, 1) := by decide +kernel
theorem dL_borrows_87 : decode cL_borrows 87 = .ok (.ifCond .ne 7, 3) := by decide +kernel
theorem dL_borrows_90 : decode cL_borrows 90 = .ok (.iconst 1, 1) := by decide +kernel
theorem dL_borrows_91 : decode cL_borrows 91 = .ok (.goto 4, 3) := by decide +kernel
theorem dL_borrows_94 : decode cL_borrows 94 = .ok (.iconst 0, 1) := by decide +kernel
theorem dL_borrows_95 : decode cL_borrows 95 = .ok (.ireturn, 1) := by decide +kernel
set_option maxRecDepth 20000 in
theorem ggL_corrects_L_count : GoodIn wsL_corrects wsL_count := goodIn_ca (goodIn_r _ [4, 5, 6, 7, 8, 9, 10, 11, 12, 13, 14, 15, 16, 17, 18, 19, 20, 21, 22, 23, 24, 25, 26, 27, 28, 29, 30, 31, 32, 33, 34, 35, 36, 37, 38, 39, 40, 41, 42, 43, 44, 45, 46, 47, 48, 49, 50, 51, 52, 53, 54, 55, 56, 57, 58, 59, 60, 61, 62, 63, 64, 65, 66, 67, 68, 69, 70, 71, 237, 238, 239, 240, 241, 242, 243, 244, 245, 246, 247, 248, 249, 250, 251, 252, 253, 254] (by decide +kernel) (by decide +kernel)) (goodIn_sub (fun _ h => List.mem_cons_of_mem _ (List.mem_append_left _ (List.mem_append_left _ (List.mem_append_right _ h)))) (by decide +kernel))
set_option maxRecDepth 20000 in
theorem gL_corrects_L_count : GoodIn wsL_corrects (va_wsS RL 127 yL_count wsL_count) := goodIn_app (goodIn_of _ (by decide +kernel)) ggL_corrects_L_count
set_option maxRecDepth 20000 in
theorem ggL_corrects_L_hang : GoodIn wsL_corrects wsL_hang := goodIn_ca (goodIn_ca (goodIn_r _ [74, 75, 5, 6, 76, 77, 78, 79, 10, 80, 15, 14, 81, 82, 83, 84, 85, 86, 87, 88, 12, 13, 89, 90, 91, 92, 93, 94, 95, 96, 97, 98, 99, 100, 101, 102, 19, 103, 42, 104, 105, 106, 107, 21, 48, 47, 41, 108, 109, 110, 111, 112, 113, 114, 115, 116, 237, 238, 239, 240, 251, 252, 253, 254, 241, 242, 243, 244, 245, 246, 247, 248, 249, 250] (by decide +kernel) (by decide +kernel)) (goodIn_sub (fun _ h => List.mem_cons_of_mem _ (List.mem_append_left _ (List.mem_append_right _ h))) (by decide +kernel))) (goodIn_sub (fun _ h => List.mem_cons_of_mem _ (List.mem_append_left _ (List.mem_append_left _ (List.mem_append_right _ h)))) (by decide +kernel))
set_option maxRecDepth 20000 in
theorem gL_corrects_L_hang : GoodIn wsL_corrects (va_wsS RL 98 yL_hang wsL_hang) := goodIn_app (goodIn_of _ (by decide +kernel)) ggL_corrects_L_hang
set_option maxRecDepth 20000 in
theorem ggL_corrects_L_undo : GoodIn wsL_corrects wsL_undo := goodIn_ca (goodIn_r _ [119, 120, 6, 121, 122, 123, 10, 124, 125, 126, 15, 14, 127, 128, 129, 92, 130, 94, 95, 100, 101, 102, 19, 103, 42, 104, 105, 106, 107, 21, 48, 47, 41, 108, 109, 110, 111, 112, 237, 238, 239, 240, 251, 252, 253, 254, 241, 242, 243, 244, 245, 246, 247, 248, 249, 250] (by decide +kernel) (by decide +kernel)) (goodIn_sub (fun _ h => List.mem_cons_of_mem _ (List.mem_append_right _ h)) (by decide +kernel))
set_option maxRecDepth 20000 in
theorem gL_corrects_L_undo : GoodIn wsL_corrects (va_wsS RL 152 yL_undo wsL_undo) := goodIn_app (goodIn_of _ (by decide +kernel)) ggL_corrects_L_undo
set_option maxRecDepth 20000 in
theorem ggL_corrects_L_print : GoodIn wsL_corrects wsL_print := goodIn_ca (goodIn_ca (goodIn_r _ [133, 134, 135, 1, 2, 3, 4, 5, 6, 7, 8, 9, 10, 11, 12, 13, 14, 15, 16, 17, 18, 19, 20, 21, 22, 23, 24, 25, 26, 27, 28, 29, 30, 31, 32, 33, 34, 35, 36, 37, 38, 39, 40, 41, 42, 43, 44, 45, 46, 47, 48, 49, 50, 51, 52, 53, 54, 55, 56, 57, 58, 59, 60, 61, 62, 63, 64, 65, 66, 67, 68, 69, 70, 71, 136, 137, 138, 75, 76, 139, 140, 141, 142, 81, 82, 83, 84, 85, 143, 144, 145, 146, 147, 148, 149, 150, 151, 152, 153, 154, 155, 156, 157, 158, 159, 160, 161, 162, 163, 164, 165, 166, 167, 168, 169, 170, 171, 110, 108, 109, 172, 173, 174, 175, 176, 177, 178, 179, 180, 181, 182, 183, 184, 185, 186, 237, 238, 239, 240, 241, 242, 243, 244, 245, 246, 247, 248, 249, 250, 251, 252, 253, 254] (by decide +kernel) (by decide +kernel)) (goodIn_sub (fun _ h => List.mem_cons_of_mem _ (List.mem_append_left _ (List.mem_append_left _ (List.mem_append_right _ h)))) (by decide +kernel))) (goodIn_sub (fun _ h => List.mem_cons_of_mem _ (List.mem_append_left _ (List.mem_append_right _ h))) (by decide +kernel))
set_option maxRecDepth 20000 in
theorem gL_corrects_L_print : GoodIn wsL_corrects (va_wsS RL 146 yL_print wsL_print) := goodIn_app (goodIn_of _ (by decide +kernel)) ggL_corrects_L_print
set_option maxRecDepth 20000 in
theorem ggL_corrects_L_potOf : GoodIn wsL_corrects wsL_potOf := goodIn_ca (goodIn_ca (goodIn_r _ [138, 75, 5, 6, 76, 139, 140, 141, 10, 142, 14, 81, 82, 83, 84, 85, 143, 144, 145, 12, 13, 146, 147, 51, 148, 149, 150, 151, 19, 152, 37, 38, 39, 40, 41, 42, 43, 44, 45, 46, 47, 48, 49, 50, 52, 53, 54, 55, 56, 57, 58, 59, 237, 238, 239, 240, 241, 242, 243, 244, 245, 246, 247, 248, 249, 250] (by decide +kernel) (by decide +kernel)) (goodIn_sub (fun _ h => List.mem_cons_of_mem _ (List.mem_append_left _ (List.mem_append_right _ h))) (by decide +kernel))) (goodIn_sub (fun _ h => List.mem_cons_of_mem _ (List.mem_append_left _ (List.mem_append_left _ (List.mem_append_right _ h)))) (by decide +kernel))
set_option maxRecDepth 20000 in
theorem gL_corrects_L_potOf : GoodIn wsL_corrects (va_wsS RL 125 yL_potOf wsL_potOf) := goodIn_app (goodIn_of _ (by decide +kernel)) ggL_corrects_L_potOf
set_option maxRecDepth 20000 in
theorem ggL_corrects_L_leastChange : GoodIn wsL_corrects wsL_leastChange := goodIn_ca (goodIn_ca (goodIn_r _ [189, 75, 5, 6, 76, 190, 191, 192, 10, 193, 14, 160, 161, 162, 84, 85, 81, 82, 83, 86, 87, 88, 12, 13, 194, 195, 196, 19, 197, 42, 41, 198, 199, 51, 200, 201, 50, 52, 53, 54, 55, 56, 57, 58, 59, 43, 44, 45, 46, 47, 48, 49, 202, 237, 238, 239, 240, 241, 242, 243, 244, 245, 246, 247, 248, 249, 250] (by decide +kernel) (by decide +kernel)) (goodIn_sub (fun _ h => List.mem_cons_of_mem _ (List.mem_append_left _ (List.mem_append_right _ h))) (by decide +kernel))) (goodIn_sub (fun _ h => List.mem_cons_of_mem _ (List.mem_append_left _ (List.mem_append_left _ (List.mem_append_right _ h)))) (by decide +kernel))
set_option maxRecDepth 20000 in
theorem gL_corrects_L_leastChange : GoodIn wsL_corrects (va_wsS RL 154 yL_leastChange wsL_leastChange) := goodIn_app (goodIn_of _ (by decide +kernel)) ggL_corrects_L_leastChange
set_option maxRecDepth 20000 in
theorem ggL_corrects_L_chartOf : GoodIn wsL_corrects wsL_chartOf := goodIn_ca (goodIn_ca (goodIn_r _ [174, 75, 5, 6, 76, 175, 176, 177, 10, 178, 12, 13, 14, 179, 180, 181, 182, 84, 85, 183, 184, 185, 19, 186, 108, 109, 37, 38, 39, 40, 41, 42, 43, 44, 45, 46, 47, 48, 49, 50, 51, 52, 53, 54, 55, 56, 57, 58, 59, 237, 238, 239, 240, 241, 242, 243, 244, 245, 246, 247, 248, 249, 250] (by decide +kernel) (by decide +kernel)) (goodIn_sub (fun _ h => List.mem_cons_of_mem _ (List.mem_append_left _ (List.mem_append_left _ (List.mem_append_right _ h)))) (by decide +kernel))) (goodIn_sub (fun _ h => List.mem_cons_of_mem _ (List.mem_append_left _ (List.mem_append_right _ h))) (by decide +kernel))
set_option maxRecDepth 20000 in
theorem gL_corrects_L_chartOf : GoodIn wsL_corrects (va_wsS RL 129 yL_chartOf wsL_chartOf) := goodIn_app (goodIn_of _ (by decide +kernel)) ggL_corrects_L_chartOf
set_option maxRecDepth 20000 in
theorem ggL_corrects_L_correct : GoodIn wsL_corrects wsL_correct := goodIn_ca (goodIn_r _ [205, 75, 6, 206, 207, 208, 10, 209, 15, 14, 179, 180, 181, 182, 84, 85, 160, 161, 162, 89, 90, 91, 92, 93, 94, 95, 96, 97, 98, 99, 100, 101, 102, 19, 103, 42, 104, 105, 106, 107, 21, 48, 47, 41, 108, 109, 110, 111, 112, 210, 211, 212, 213, 214, 195, 196, 197, 198, 199, 51, 200, 201, 50, 52, 53, 54, 55, 56, 57, 58, 59, 43, 44, 45, 46, 49, 237, 238, 239, 240, 241, 242, 243, 244, 245, 246, 247, 248, 249, 250, 251, 252, 253, 254] (by decide +kernel) (by decide +kernel)) (goodIn_sub (fun _ h => List.mem_cons_of_mem _ (List.mem_append_left _ (List.mem_append_right _ h))) (by decide +kernel))
set_option maxRecDepth 20000 in
theorem gL_corrects_L_correct : GoodIn wsL_corrects (va_wsS RL 103 yL_correct wsL_correct) := goodIn_app (goodIn_of _ (by decide +kernel)) ggL_corrects_L_correct
set_option maxRecDepth 20000 in
theorem ggL_corrects_L_far : GoodIn wsL_corrects wsL_far := goodIn_r _ [217] (by decide +kernel) (by decide +kernel)
set_option maxRecDepth 20000 in
theorem gL_corrects_L_far : GoodIn wsL_corrects (va_wsS RL 122 yL_far wsL_far) := goodIn_app (goodIn_of _ (by decide +kernel)) ggL_corrects_L_far
set_option maxRecDepth 20000 in
theorem ggL_corrects_L_apart : GoodIn wsL_corrects wsL_apart := goodIn_ca (goodIn_r _ [220, 75, 6, 221, 222, 223, 10, 224, 14, 160, 161, 162, 84, 85, 81, 82, 83, 225, 69, 70, 19, 71, 41, 42, 43, 44, 45, 46, 47, 48, 49, 50, 51, 52, 53, 54, 55, 56, 57, 58, 59, 237, 238, 239, 240, 241, 242, 243, 244, 245, 246, 247, 248, 249, 250] (by decide +kernel) (by decide +kernel)) (goodIn_sub (fun _ h => List.mem_cons_of_mem _ (List.mem_append_left _ (List.mem_append_right _ h))) (by decide +kernel))
set_option maxRecDepth 20000 in
theorem gL_corrects_L_apart : GoodIn wsL_corrects (va_wsS RL 118 yL_apart wsL_apart) := goodIn_app (goodIn_of _ (by decide +kernel)) ggL_corrects_L_apart
set_option maxRecDepth 20000 in
theorem ggL_corrects_L_mix : GoodIn wsL_corrects wsL_mix := goodIn_ca (goodIn_ca (goodIn_r _ [228, 75, 5, 6, 76, 229, 230, 231, 10, 232, 15, 14, 81, 82, 83, 84, 85, 143, 144, 145, 12, 13, 89, 90, 91, 92, 93, 94, 95, 96, 97, 98, 99, 100, 101, 102, 19, 103, 42, 104, 105, 106, 107, 21, 48, 47, 41, 108, 109, 110, 111, 112, 146, 147, 51, 148, 233, 234, 235, 236, 237, 238, 239, 240, 241, 242, 243, 244, 245, 246, 247, 248, 249, 250, 251, 252, 253, 254] (by decide +kernel) (by decide +kernel)) (goodIn_sub (fun _ h => List.mem_cons_of_mem _ (List.mem_append_left _ (List.mem_append_right _ h))) (by decide +kernel))) (goodIn_sub (fun _ h => List.mem_cons_of_mem _ (List.mem_append_left _ (List.mem_append_left _ (List.mem_append_right _ h)))) (by decide +kernel))
set_option maxRecDepth 20000 in
theorem gL_corrects_L_mix : GoodIn wsL_corrects (va_wsS RL 114 yL_mix wsL_mix) := goodIn_app (goodIn_of _ (by decide +kernel)) ggL_corrects_L_mix
theorem dL_corrects_0 : decode cL_corrects 0 = .ok (.aload_n 0, 1) := by decide +kernel
theorem dL_corrects_1 : decode cL_corrects 1 = .ok (.iconst 2, 1) := by decide +kernel
theorem dL_corrects_2 : decode cL_corrects 2 = .ok (.invokestatic 127, 3) := by decide +kernel
theorem dL_corrects_5 : decode cL_corrects 5 = .ok (.bipush 6, 2) := by decide +kernel
theorem dL_corrects_7 : decode cL_corrects 7 = .ok (.if_icmp .ne 26, 3) := by decide +kernel
theorem dL_corrects_10 : decode cL_corrects 10 = .ok (.aload_n 0, 1) := by decide +kernel
theorem dL_corrects_11 : decode cL_corrects 11 = .ok (.iload_n 2, 1) := by decide +kernel
theorem dL_corrects_12 : decode cL_corrects 12 = .ok (.iload_n 3, 1) := by decide +kernel
theorem dL_corrects_13 : decode cL_corrects 13 = .ok (.invokestatic 98, 3) := by decide +kernel
theorem dL_corrects_16 : decode cL_corrects 16 = .ok (.iconst (-1), 1) := by decide +kernel
theorem dL_corrects_17 : decode cL_corrects 17 = .ok (.if_icmp .ne 14, 3) := by decide +kernel
theorem dL_corrects_20 : decode cL_corrects 20 = .ok (.aload_n 0, 1) := by decide +kernel
theorem dL_corrects_21 : decode cL_corrects 21 = .ok (.invokestatic 152, 3) := by decide +kernel
theorem dL_corrects_24 : decode cL_corrects 24 = .ok (.ifCond .lt 7, 3) := by decide +kernel
theorem dL_corrects_27 : decode cL_corrects 27 = .ok (.iconst 1, 1) := by decide +kernel
theorem dL_corrects_28 : decode cL_corrects 28 = .ok (.goto 4, 3) := by decide +kernel
theorem dL_corrects_31 : decode cL_corrects 31 = .ok (.iconst 0, 1) := by decide +kernel
theorem dL_corrects_32 : decode cL_corrects 32 = .ok (.ireturn, 1) := by decide +kernel
theorem dL_corrects_33 : decode cL_corrects 33 = .ok (.aload_n 0, 1) := by decide +kernel
theorem dL_corrects_34 : decode cL_corrects 34 = .ok (.invokestatic 146, 3) := by decide +kernel
theorem dL_corrects_37 : decode cL_corrects 37 = .ok (.lstore 5, 2) := by decide +kernel
theorem dL_corrects_39 : decode cL_corrects 39 = .ok (.aload_n 0, 1) := by decide +kernel
theorem dL_corrects_40 : decode cL_corrects 40 = .ok (.iload_n 2, 1) := by decide +kernel
theorem dL_corrects_41 : decode cL_corrects 41 = .ok (.iconst 0, 1) := by decide +kernel
theorem dL_corrects_42 : decode cL_corrects 42 = .ok (.invokestatic 125, 3) := by decide +kernel
theorem dL_corrects_45 : decode cL_corrects 45 = .ok (.istore 7, 2) := by decide +kernel
theorem dL_corrects_47 : decode cL_corrects 47 = .ok (.aload_n 0, 1) := by decide +kernel
theorem dL_corrects_48 : decode cL_corrects 48 = .ok (.iload_n 2, 1) := by decide +kernel
theorem dL_corrects_49 : decode cL_corrects 49 = .ok (.iconst 1, 1) := by decide +kernel
theorem dL_corrects_50 : decode cL_corrects 50 = .ok (.invokestatic 125, 3) := by decide +kernel
theorem dL_corrects_53 : decode cL_corrects 53 = .ok (.istore 8, 2) := by decide +kernel
theorem dL_corrects_55 : decode cL_corrects 55 = .ok (.aload_n 0, 1) := by decide +kernel
theorem dL_corrects_56 : decode cL_corrects 56 = .ok (.iload_n 2, 1) := by decide +kernel
theorem dL_corrects_57 : decode cL_corrects 57 = .ok (.iconst 2, 1) := by decide +kernel
theorem dL_corrects_58 : decode cL_corrects 58 = .ok (.invokestatic 125, 3) := by decide +kernel
theorem dL_corrects_61 : decode cL_corrects 61 = .ok (.istore 9, 2) := by decide +kernel
theorem dL_corrects_63 : decode cL_corrects 63 = .ok (.aload_n 0, 1) := by decide +kernel
theorem dL_corrects_64 : decode cL_corrects 64 = .ok (.iload_n 1, 1) := by decide +kernel
theorem dL_corrects_65 : decode cL_corrects 65 = .ok (.iload_n 2, 1) := by decide +kernel
theorem dL_corrects_66 : decode cL_corrects 66 = .ok (.iload_n 3, 1) := by decide +kernel
theorem dL_corrects_67 : decode cL_corrects 67 = .ok (.invokestatic 154, 3) := by decide +kernel
theorem dL_corrects_70 : decode cL_corrects 70 = .ok (.istore 10, 2) := by decide +kernel
theorem dL_corrects_72 : decode cL_corrects 72 = .ok (.aload_n 0, 1) := by decide +kernel
theorem dL_corrects_73 : decode cL_corrects 73 = .ok (.iload_n 2, 1) := by decide +kernel
theorem dL_corrects_74 : decode cL_corrects 74 = .ok (.iload_n 3, 1) := by decide +kernel
theorem dL_corrects_75 : decode cL_corrects 75 = .ok (.invokestatic 98, 3) := by decide +kernel
theorem dL_corrects_78 : decode cL_corrects 78 = .ok (.istore 11, 2) := by decide +kernel
theorem dL_corrects_80 : decode cL_corrects 80 = .ok (.aload_n 0, 1) := by decide +kernel
theorem dL_corrects_81 : decode cL_corrects 81 = .ok (.iconst 5, 1) := by decide +kernel
theorem dL_corrects_82 : decode cL_corrects 82 = .ok (.invokestatic 127, 3) := by decide +kernel
theorem dL_corrects_85 : decode cL_corrects 85 = .ok (.istore 12, 2) := by decide +kernel
theorem dL_corrects_87 : decode cL_corrects 87 = .ok (.iload 10, 2) := by decide +kernel
theorem dL_corrects_89 : decode cL_corrects 89 = .ok (.ifCond .ne 7, 3) := by decide +kernel
theorem dL_corrects_92 : decode cL_corrects 92 = .ok (.iconst 1, 1) := by decide +kernel
theorem dL_corrects_93 : decode cL_corrects 93 = .ok (.goto 4, 3) := by decide +kernel
theorem dL_corrects_96 : decode cL_corrects 96 = .ok (.iconst 0, 1) := by decide +kernel
theorem dL_corrects_97 : decode cL_corrects 97 = .ok (.aload_n 0, 1) := by decide +kernel
theorem dL_corrects_98 : decode cL_corrects 98 = .ok (.iload 11, 2) := by decide +kernel
theorem dL_corrects_100 : decode cL_corrects 100 = .ok (.iconst 2, 1) := by decide +kernel
theorem dL_corrects_101 : decode cL_corrects 101 = .ok (.invokestatic 129, 3) := by decide +kernel
theorem dL_corrects_104 : decode cL_corrects 104 = .ok (.iload_n 1, 1) := by decide +kernel
theorem dL_corrects_105 : decode cL_corrects 105 = .ok (.ishr, 1) := by decide +kernel
theorem dL_corrects_106 : decode cL_corrects 106 = .ok (.iconst 1, 1) := by decide +kernel
theorem dL_corrects_107 : decode cL_corrects 107 = .ok (.iand, 1) := by decide +kernel
theorem dL_corrects_108 : decode cL_corrects 108 = .ok (.iconst 1, 1) := by decide +kernel
theorem dL_corrects_109 : decode cL_corrects 109 = .ok (.if_icmp .ne 7, 3) := by decide +kernel
theorem dL_corrects_112 : decode cL_corrects 112 = .ok (.iconst 1, 1) := by decide +kernel
theorem dL_corrects_113 : decode cL_corrects 113 = .ok (.goto 4, 3) := by decide +kernel
theorem dL_corrects_116 : decode cL_corrects 116 = .ok (.iconst 0, 1) := by decide +kernel
theorem dL_corrects_117 : decode cL_corrects 117 = .ok (.if_icmp .ne 40, 3) := by decide +kernel
theorem dL_corrects_120 : decode cL_corrects 120 = .ok (.aload_n 0, 1) := by decide +kernel
theorem dL_corrects_121 : decode cL_corrects 121 = .ok (.iload 11, 2) := by decide +kernel
theorem dL_corrects_123 : decode cL_corrects 123 = .ok (.iload_n 1, 1) := by decide +kernel
theorem dL_corrects_124 : decode cL_corrects 124 = .ok (.invokestatic 103, 3) := by decide +kernel
theorem dL_corrects_127 : decode cL_corrects 127 = .ok (.iload 10, 2) := by decide +kernel
theorem dL_corrects_129 : decode cL_corrects 129 = .ok (.if_icmp .ne 28, 3) := by decide +kernel
theorem dL_corrects_132 : decode cL_corrects 132 = .ok (.aload_n 0, 1) := by decide +kernel
theorem dL_corrects_133 : decode cL_corrects 133 = .ok (.iconst 5, 1) := by decide +kernel
theorem dL_corrects_134 : decode cL_corrects 134 = .ok (.invokestatic 127, 3) := by decide +kernel
theorem dL_corrects_137 : decode cL_corrects 137 = .ok (.iload 12, 2) := by decide +kernel
theorem dL_corrects_139 : decode cL_corrects 139 = .ok (.iload 10, 2) := by decide +kernel
theorem dL_corrects_141 : decode cL_corrects 141 = .ok (.ifCond .le 7, 3) := by decide +kernel
theorem dL_corrects_144 : decode cL_corrects 144 = .ok (.iconst 1, 1) := by decide +kernel
theorem dL_corrects_145 : decode cL_corrects 145 = .ok (.goto 4, 3) := by decide +kernel
theorem dL_corrects_148 : decode cL_corrects 148 = .ok (.iconst 0, 1) := by decide +kernel
theorem dL_corrects_149 : decode cL_corrects 149 = .ok (.iadd, 1) := by decide +kernel
theorem dL_corrects_150 : decode cL_corrects 150 = .ok (.if_icmp .ne 7, 3) := by decide +kernel
theorem dL_corrects_153 : decode cL_corrects 153 = .ok (.iconst 1, 1) := by decide +kernel
theorem dL_corrects_154 : decode cL_corrects 154 = .ok (.goto 4, 3) := by decide +kernel
theorem dL_corrects_157 : decode cL_corrects 157 = .ok (.iconst 0, 1) := by decide +kernel
theorem dL_corrects_158 : decode cL_corrects 158 = .ok (.istore 13, 2) := by decide +kernel
theorem dL_corrects_160 : decode cL_corrects 160 = .ok (.bipush 100, 2) := by decide +kernel
theorem dL_corrects_162 : decode cL_corrects 162 = .ok (.iload 7, 2) := by decide +kernel
theorem dL_corrects_164 : decode cL_corrects 164 = .ok (.imul, 1) := by decide +kernel
theorem dL_corrects_165 : decode cL_corrects 165 = .ok (.bipush 10, 2) := by decide +kernel
theorem dL_corrects_167 : decode cL_corrects 167 = .ok (.iload 8, 2) := by decide +kernel
theorem dL_corrects_169 : decode cL_corrects 169 = .ok (.imul, 1) := by decide +kernel
theorem dL_corrects_170 : decode cL_corrects 170 = .ok (.iadd, 1) := by decide +kernel
theorem dL_corrects_171 : decode cL_corrects 171 = .ok (.iload 9, 2) := by decide +kernel
theorem dL_corrects_173 : decode cL_corrects 173 = .ok (.iadd, 1) := by decide +kernel
theorem dL_corrects_174 : decode cL_corrects 174 = .ok (.bipush 100, 2) := by decide +kernel
theorem dL_corrects_176 : decode cL_corrects 176 = .ok (.aload_n 0, 1) := by decide +kernel
theorem dL_corrects_177 : decode cL_corrects 177 = .ok (.iload_n 2, 1) := by decide +kernel
theorem dL_corrects_178 : decode cL_corrects 178 = .ok (.iconst 0, 1) := by decide +kernel
theorem dL_corrects_179 : decode cL_corrects 179 = .ok (.invokestatic 125, 3) := by decide +kernel
theorem dL_corrects_182 : decode cL_corrects 182 = .ok (.imul, 1) := by decide +kernel
theorem dL_corrects_183 : decode cL_corrects 183 = .ok (.bipush 10, 2) := by decide +kernel
theorem dL_corrects_185 : decode cL_corrects 185 = .ok (.aload_n 0, 1) := by decide +kernel
theorem dL_corrects_186 : decode cL_corrects 186 = .ok (.iload_n 2, 1) := by decide +kernel
theorem dL_corrects_187 : decode cL_corrects 187 = .ok (.iconst 1, 1) := by decide +kernel
theorem dL_corrects_188 : decode cL_corrects 188 = .ok (.invokestatic 125, 3) := by decide +kernel
theorem dL_corrects_191 : decode cL_corrects 191 = .ok (.imul, 1) := by decide +kernel
theorem dL_corrects_192 : decode cL_corrects 192 = .ok (.iadd, 1) := by decide +kernel
theorem dL_corrects_193 : decode cL_corrects 193 = .ok (.aload_n 0, 1) := by decide +kernel
theorem dL_corrects_194 : decode cL_corrects 194 = .ok (.iload_n 2, 1) := by decide +kernel
theorem dL_corrects_195 : decode cL_corrects 195 = .ok (.iconst 2, 1) := by decide +kernel
theorem dL_corrects_196 : decode cL_corrects 196 = .ok (.invokestatic 125, 3) := by decide +kernel
theorem dL_corrects_199 : decode cL_corrects 199 = .ok (.iadd, 1) := by decide +kernel
theorem dL_corrects_200 : decode cL_corrects 200 = .ok (.invokestatic 122, 3) := by decide +kernel
theorem dL_corrects_203 : decode cL_corrects 203 = .ok (.istore 14, 2) := by decide +kernel
theorem dL_corrects_205 : decode cL_corrects 205 = .ok (.iload 13, 2) := by decide +kernel
theorem dL_corrects_207 : decode cL_corrects 207 = .ok (.ifCond .eq 45, 3) := by decide +kernel
theorem dL_corrects_210 : decode cL_corrects 210 = .ok (.iload 10, 2) := by decide +kernel
theorem dL_corrects_212 : decode cL_corrects 212 = .ok (.ifCond .ge 11, 3) := by decide +kernel
theorem dL_corrects_215 : decode cL_corrects 215 = .ok (.iload 14, 2) := by decide +kernel
theorem dL_corrects_217 : decode cL_corrects 217 = .ok (.ifCond .ne 35, 3) := by decide +kernel
theorem dL_corrects_220 : decode cL_corrects 220 = .ok (.goto 21, 3) := by decide +kernel
theorem dL_corrects_223 : decode cL_corrects 223 = .ok (.iload 14, 2) := by decide +kernel
theorem dL_corrects_225 : decode cL_corrects 225 = .ok (.iload 10, 2) := by decide +kernel
theorem dL_corrects_227 : decode cL_corrects 227 = .ok (.if_icmp .ne 25, 3) := by decide +kernel
theorem dL_corrects_230 : decode cL_corrects 230 = .ok (.aload_n 0, 1) := by decide +kernel
theorem dL_corrects_231 : decode cL_corrects 231 = .ok (.iload_n 1, 1) := by decide +kernel
theorem dL_corrects_232 : decode cL_corrects 232 = .ok (.iload_n 2, 1) := by decide +kernel
theorem dL_corrects_233 : decode cL_corrects 233 = .ok (.iload_n 3, 1) := by decide +kernel
theorem dL_corrects_234 : decode cL_corrects 234 = .ok (.invokestatic 118, 3) := by decide +kernel
theorem dL_corrects_237 : decode cL_corrects 237 = .ok (.iconst 1, 1) := by decide +kernel
theorem dL_corrects_238 : decode cL_corrects 238 = .ok (.if_icmp .ne 14, 3) := by decide +kernel
theorem dL_corrects_241 : decode cL_corrects 241 = .ok (.aload_n 0, 1) := by decide +kernel
theorem dL_corrects_242 : decode cL_corrects 242 = .ok (.invokestatic 152, 3) := by decide +kernel
theorem dL_corrects_245 : decode cL_corrects 245 = .ok (.ifCond .lt 7, 3) := by decide +kernel
theorem dL_corrects_248 : decode cL_corrects 248 = .ok (.iconst 1, 1) := by decide +kernel
theorem dL_corrects_249 : decode cL_corrects 249 = .ok (.goto 4, 3) := by decide +kernel
theorem dL_corrects_252 : decode cL_corrects 252 = .ok (.iconst 0, 1) := by decide +kernel
theorem dL_corrects_253 : decode cL_corrects 253 = .ok (.istore 13, 2) := by decide +kernel
theorem dL_corrects_255 : decode cL_corrects 255 = .ok (.iload 13, 2) := by decide +kernel
theorem dL_corrects_257 : decode cL_corrects 257 = .ok (.ifCond .eq 58, 3) := by decide +kernel
theorem dL_corrects_260 : decode cL_corrects 260 = .ok (.aload_n 0, 1) := by decide +kernel
theorem dL_corrects_261 : decode cL_corrects 261 = .ok (.iload_n 2, 1) := by decide +kernel
theorem dL_corrects_262 : decode cL_corrects 262 = .ok (.iconst 0, 1) := by decide +kernel
theorem dL_corrects_263 : decode cL_corrects 263 = .ok (.iload 4, 2) := by decide +kernel
theorem dL_corrects_265 : decode cL_corrects 265 = .ok (.bipush 100, 2) := by decide +kernel
theorem dL_corrects_267 : decode cL_corrects 267 = .ok (.idiv, 1) := by decide +kernel
theorem dL_corrects_268 : decode cL_corrects 268 = .ok (.invokestatic 114, 3) := by decide +kernel
theorem dL_corrects_271 : decode cL_corrects 271 = .ok (.iload 7, 2) := by decide +kernel
theorem dL_corrects_273 : decode cL_corrects 273 = .ok (.if_icmp .ne 42, 3) := by decide +kernel
theorem dL_corrects_276 : decode cL_corrects 276 = .ok (.aload_n 0, 1) := by decide +kernel
theorem dL_corrects_277 : decode cL_corrects 277 = .ok (.iload_n 2, 1) := by decide +kernel
theorem dL_corrects_278 : decode cL_corrects 278 = .ok (.iconst 1, 1) := by decide +kernel
theorem dL_corrects_279 : decode cL_corrects 279 = .ok (.iload 4, 2) := by decide +kernel
theorem dL_corrects_281 : decode cL_corrects 281 = .ok (.bipush 10, 2) := by decide +kernel
theorem dL_corrects_283 : decode cL_corrects 283 = .ok (.idiv, 1) := by decide +kernel
theorem dL_corrects_284 : decode cL_corrects 284 = .ok (.bipush 10, 2) := by decide +kernel
theorem dL_corrects_286 : decode cL_corrects 286 = .ok (.irem, 1) := by decide +kernel
theorem dL_corrects_287 : decode cL_corrects 287 = .ok (.invokestatic 114, 3) := by decide +kernel
theorem dL_corrects_290 : decode cL_corrects 290 = .ok (.iload 8, 2) := by decide +kernel
theorem dL_corrects_292 : decode cL_corrects 292 = .ok (.if_icmp .ne 23, 3) := by decide +kernel
theorem dL_corrects_295 : decode cL_corrects 295 = .ok (.aload_n 0, 1) := by decide +kernel
theorem dL_corrects_296 : decode cL_corrects 296 = .ok (.iload_n 2, 1) := by decide +kernel
theorem dL_corrects_297 : decode cL_corrects 297 = .ok (.iconst 2, 1) := by decide +kernel
theorem dL_corrects_298 : decode cL_corrects 298 = .ok (.iload 4, 2) := by decide +kernel
theorem dL_corrects_300 : decode cL_corrects 300 = .ok (.bipush 10, 2) := by decide +kernel
theorem dL_corrects_302 : decode cL_corrects 302 = .ok (.irem, 1) := by decide +kernel
theorem dL_corrects_303 : decode cL_corrects 303 = .ok (.invokestatic 114, 3) := by decide +kernel
theorem dL_corrects_306 : decode cL_corrects 306 = .ok (.iload 9, 2) := by decide +kernel
theorem dL_corrects_308 : decode cL_corrects 308 = .ok (.if_icmp .ne 7, 3) := by decide +kernel
theorem dL_corrects_311 : decode cL_corrects 311 = .ok (.iconst 1, 1) := by decide +kernel
theorem dL_corrects_312 : decode cL_corrects 312 = .ok (.goto 4, 3) := by decide +kernel
theorem dL_corrects_315 : decode cL_corrects 315 = .ok (.iconst 0, 1) := by decide +kernel
theorem dL_corrects_316 : decode cL_corrects 316 = .ok (.istore 13, 2) := by decide +kernel
theorem dL_corrects_318 : decode cL_corrects 318 = .ok (.bipush 100, 2) := by decide +kernel
theorem dL_corrects_320 : decode cL_corrects 320 = .ok (.iload 7, 2) := by decide +kernel
theorem dL_corrects_322 : decode cL_corrects 322 = .ok (.imul, 1) := by decide +kernel
theorem dL_corrects_323 : decode cL_corrects 323 = .ok (.bipush 10, 2) := by decide +kernel
theorem dL_corrects_325 : decode cL_corrects 325 = .ok (.iload 8, 2) := by decide +kernel
theorem dL_corrects_327 : decode cL_corrects 327 = .ok (.imul, 1) := by decide +kernel
theorem dL_corrects_328 : decode cL_corrects 328 = .ok (.iadd, 1) := by decide +kernel
theorem dL_corrects_329 : decode cL_corrects 329 = .ok (.iload 9, 2) := by decide +kernel
theorem dL_corrects_331 : decode cL_corrects 331 = .ok (.iadd, 1) := by decide +kernel
theorem dL_corrects_332 : decode cL_corrects 332 = .ok (.iload 4, 2) := by decide +kernel
theorem dL_corrects_334 : decode cL_corrects 334 = .ok (.invokestatic 122, 3) := by decide +kernel
theorem dL_corrects_337 : decode cL_corrects 337 = .ok (.istore 15, 2) := by decide +kernel
theorem dL_corrects_339 : decode cL_corrects 339 = .ok (.iload 13, 2) := by decide +kernel
theorem dL_corrects_341 : decode cL_corrects 341 = .ok (.ifCond .eq 29, 3) := by decide +kernel
theorem dL_corrects_344 : decode cL_corrects 344 = .ok (.aload_n 0, 1) := by decide +kernel
theorem dL_corrects_345 : decode cL_corrects 345 = .ok (.iload_n 1, 1) := by decide +kernel
theorem dL_corrects_346 : decode cL_corrects 346 = .ok (.iload_n 2, 1) := by decide +kernel
theorem dL_corrects_347 : decode cL_corrects 347 = .ok (.iload_n 3, 1) := by decide +kernel
theorem dL_corrects_348 : decode cL_corrects 348 = .ok (.invokestatic 118, 3) := by decide +kernel
theorem dL_corrects_351 : decode cL_corrects 351 = .ok (.ifCond .eq 15, 3) := by decide +kernel
theorem dL_corrects_354 : decode cL_corrects 354 = .ok (.iload 10, 2) := by decide +kernel
theorem dL_corrects_356 : decode cL_corrects 356 = .ok (.ifCond .lt 14, 3) := by decide +kernel
theorem dL_corrects_359 : decode cL_corrects 359 = .ok (.iload 15, 2) := by decide +kernel
theorem dL_corrects_361 : decode cL_corrects 361 = .ok (.iload 10, 2) := by decide +kernel
theorem dL_corrects_363 : decode cL_corrects 363 = .ok (.if_icmp .lt 7, 3) := by decide +kernel
theorem dL_corrects_366 : decode cL_corrects 366 = .ok (.iconst 1, 1) := by decide +kernel
theorem dL_corrects_367 : decode cL_corrects 367 = .ok (.goto 4, 3) := by decide +kernel
theorem dL_corrects_370 : decode cL_corrects 370 = .ok (.iconst 0, 1) := by decide +kernel
theorem dL_corrects_371 : decode cL_corrects 371 = .ok (.istore 13, 2) := by decide +kernel
theorem dL_corrects_373 : decode cL_corrects 373 = .ok (.iload 13, 2) := by decide +kernel
theorem dL_corrects_375 : decode cL_corrects 375 = .ok (.ifCond .eq 45, 3) := by decide +kernel
theorem dL_corrects_378 : decode cL_corrects 378 = .ok (.aload_n 0, 1) := by decide +kernel
theorem dL_corrects_379 : decode cL_corrects 379 = .ok (.invokestatic 152, 3) := by decide +kernel
theorem dL_corrects_382 : decode cL_corrects 382 = .ok (.ifCond .lt 38, 3) := by decide +kernel
theorem dL_corrects_385 : decode cL_corrects 385 = .ok (.aload_n 0, 1) := by decide +kernel
theorem dL_corrects_386 : decode cL_corrects 386 = .ok (.invokestatic 152, 3) := by decide +kernel
theorem dL_corrects_389 : decode cL_corrects 389 = .ok (.ifCond .lt 31, 3) := by decide +kernel
theorem dL_corrects_392 : decode cL_corrects 392 = .ok (.aload_n 0, 1) := by decide +kernel
theorem dL_corrects_393 : decode cL_corrects 393 = .ok (.invokestatic 152, 3) := by decide +kernel
theorem dL_corrects_396 : decode cL_corrects 396 = .ok (.ifCond .lt 24, 3) := by decide +kernel
theorem dL_corrects_399 : decode cL_corrects 399 = .ok (.aload_n 0, 1) := by decide +kernel
theorem dL_corrects_400 : decode cL_corrects 400 = .ok (.invokestatic 152, 3) := by decide +kernel
theorem dL_corrects_403 : decode cL_corrects 403 = .ok (.ifCond .lt 17, 3) := by decide +kernel
theorem dL_corrects_406 : decode cL_corrects 406 = .ok (.aload_n 0, 1) := by decide +kernel
theorem dL_corrects_407 : decode cL_corrects 407 = .ok (.invokestatic 146, 3) := by decide +kernel
theorem dL_corrects_410 : decode cL_corrects 410 = .ok (.lload 5, 2) := by decide +kernel
theorem dL_corrects_412 : decode cL_corrects 412 = .ok (.lcmp, 1) := by decide +kernel
theorem dL_corrects_413 : decode cL_corrects 413 = .ok (.ifCond .ne 7, 3) := by decide +kernel
theorem dL_corrects_416 : decode cL_corrects 416 = .ok (.iconst 1, 1) := by decide +kernel
theorem dL_corrects_417 : decode cL_corrects 417 = .ok (.goto 4, 3) := by decide +kernel
theorem dL_corrects_420 : decode cL_corrects 420 = .ok (.iconst 0, 1) := by decide +kernel
theorem dL_corrects_421 : decode cL_corrects 421 = .ok (.ireturn, 1) := by decide +kernel
set_option maxRecDepth 20000 in
theorem ggL_law_X5_init : GoodIn wsL_law wsX5_init := goodIn_r _ [5, 6, 7, 8, 9, 10, 11, 12, 13, 14, 15, 16, 17, 18, 19, 20, 21, 22, 23, 24, 25, 26, 27, 28, 29, 30, 31, 32, 33, 34, 35, 36, 37, 38, 39, 40, 41, 42, 43, 44, 45, 46, 47, 48, 49, 50, 51, 52, 53, 54, 55, 56, 57, 457, 458, 459, 460, 461, 462, 463, 464, 465, 466, 453, 454, 455, 456, 467, 468, 469, 470, 471, 472, 473, 474, 475, 476] (by decide +kernel) (by decide +kernel)
set_option maxRecDepth 20000 in
theorem gL_law_X5_init : GoodIn wsL_law (wsX5_init) := ggL_law_X5_init
set_option maxRecDepth 20000 in
theorem ggL_law_L_hangs : GoodIn wsL_law wsL_hangs := goodIn_ca (goodIn_ca (goodIn_r _ [61, 29, 62, 63, 64, 60, 65, 66, 67, 68, 69, 70, 71, 72, 2, 73, 74, 75, 12, 76, 77, 78, 79, 80, 81, 82, 83, 11, 84, 30, 85, 86, 87, 88, 33, 32, 89, 90, 91, 92, 93, 94, 95, 96, 97, 98, 99, 100, 101, 102, 103, 31, 104, 105, 106, 107, 34, 108, 109, 110, 111, 112, 35, 36, 113, 114, 115, 116, 117, 118, 119, 120, 121, 122, 123, 124, 125, 126, 127, 128, 129, 130, 131, 132, 133, 134, 135, 136, 137, 138, 139, 140, 141, 142, 143, 144, 145, 146, 147, 148, 149, 150, 151, 152, 153, 154, 155, 156, 157, 158, 159, 160, 161, 162, 16, 163, 164, 165, 166, 167, 168, 169, 170, 171, 172, 173, 174, 175, 176, 177, 178, 179, 180, 181, 182, 183, 184, 185, 186, 187, 188, 189, 190, 191, 192, 193, 194, 195, 196, 197, 198, 199, 200, 201, 202, 203, 204, 205, 206, 207, 208, 209, 210, 211, 212, 213, 214, 215, 216, 217, 453, 454, 455, 456, 457, 458, 459, 460, 461, 462, 463, 464, 465, 466, 467, 468, 469, 470] (by decide +kernel) (by decide +kernel)) (goodIn_sub (fun _ h => List.mem_append_left _ (List.mem_append_left _ (List.mem_append_right _ h))) (by decide +kernel))) (goodIn_sub (fun _ h => List.mem_append_left _ (List.mem_append_right _ h)) (by decide +kernel))
set_option maxRecDepth 20000 in
theorem gL_law_L_hangs : GoodIn wsL_law (va_wsS RL 157 yL_hangs wsL_hangs) := goodIn_app (goodIn_of _ (by decide +kernel)) ggL_law_L_hangs
set_option maxRecDepth 20000 in
theorem ggL_law_L_labels : GoodIn wsL_law wsL_labels := goodIn_ca (goodIn_ca (goodIn_ca (goodIn_r _ [220, 221, 222, 60, 223, 224, 225, 156, 157, 158, 67, 68, 159, 160, 161, 2, 162, 74, 75, 12, 16, 163, 164, 165, 11, 166, 31, 167, 168, 169, 170, 171, 172, 173, 174, 175, 176, 177, 178, 179, 180, 181, 152, 153, 154, 155, 34, 30, 85, 86, 87, 88, 33, 32, 89, 90, 91, 92, 93, 94, 95, 96, 97, 98, 99, 182, 183, 184, 185, 186, 101, 102, 103, 104, 105, 106, 107, 135, 136, 137, 66, 69, 138, 139, 140, 141, 120, 121, 122, 79, 80, 142, 143, 144, 145, 146, 147, 148, 149, 150, 151, 63, 64, 65, 70, 71, 72, 73, 76, 77, 78, 81, 82, 83, 84, 100, 108, 109, 110, 111, 112, 35, 36, 187, 188, 189, 190, 191, 192, 193, 194, 195, 196, 197, 198, 199, 200, 201, 226, 227, 228, 229, 230, 231, 232, 24, 233, 234, 235, 23, 236, 54, 237, 238, 239, 240, 241, 55, 56, 242, 243, 244, 245, 246, 247, 248, 249, 250, 251, 252, 57, 253, 254, 255, 256, 257, 258, 259, 260, 261, 262, 263, 264, 265, 15, 266, 267, 45, 268, 269, 270, 271, 272, 273, 274, 275, 276, 277, 278, 279, 280, 281, 282, 283, 284, 285, 286, 287, 288, 113, 114, 115, 116, 117, 118, 119, 123, 289, 290, 291, 292, 293, 294, 295, 296, 297, 298, 299, 300, 301, 302, 453, 454, 455, 456, 457, 458, 459, 460, 461, 462, 463, 464, 465, 466, 467, 468, 469, 470, 473, 474, 475, 476] (by decide +kernel) (by decide +kernel)) (goodIn_sub (fun _ h => List.mem_append_left _ (List.mem_append_left _ (List.mem_append_right _ h))) (by decide +kernel))) (goodIn_sub (fun _ h => List.mem_append_left _ (List.mem_append_right _ h)) (by decide +kernel))) (goodIn_sub (fun _ h => List.mem_append_right _ h) (by decide +kernel))
set_option maxRecDepth 20000 in
theorem gL_law_L_labels : GoodIn wsL_law (va_wsS RL 161 yL_labels wsL_labels) := goodIn_app (goodIn_of _ (by decide +kernel)) ggL_law_L_labels
set_option maxRecDepth 20000 in
theorem ggL_law_L_at : GoodIn wsL_law wsL_at := goodIn_r _ [305, 306, 307] (by decide +kernel) (by decide +kernel)
set_option maxRecDepth 20000 in
theorem gL_law_L_at : GoodIn wsL_law (va_wsS RL 165 yL_at wsL_at) := goodIn_app (goodIn_of _ (by decide +kernel)) ggL_law_L_at
set_option maxRecDepth 20000 in
theorem ggL_law_L_count : GoodIn wsL_law wsL_count := goodIn_ca (goodIn_r _ [158, 67, 68, 159, 160, 161, 2, 162, 74, 75, 12, 16, 163, 164, 165, 11, 166, 31, 167, 168, 169, 170, 171, 172, 173, 174, 175, 176, 177, 178, 179, 180, 181, 152, 153, 154, 155, 34, 30, 85, 86, 87, 88, 33, 32, 89, 90, 91, 92, 93, 94, 95, 96, 97, 98, 99, 182, 183, 184, 185, 186, 101, 102, 103, 104, 105, 106, 107, 453, 454, 455, 456, 457, 458, 459, 460, 461, 462, 463, 464, 465, 466, 467, 468, 469, 470] (by decide +kernel) (by decide +kernel)) (goodIn_sub (fun _ h => List.mem_append_left _ (List.mem_append_left _ (List.mem_append_right _ h))) (by decide +kernel))
set_option maxRecDepth 20000 in
theorem gL_law_L_count : GoodIn wsL_law (va_wsS RL 127 yL_count wsL_count) := goodIn_app (goodIn_of _ (by decide +kernel)) ggL_law_L_count
set_option maxRecDepth 20000 in
theorem ggL_law_L_print : GoodIn wsL_law wsL_print := goodIn_ca (goodIn_ca (goodIn_r _ [223, 224, 225, 156, 157, 60, 158, 67, 68, 159, 160, 161, 2, 162, 74, 75, 12, 16, 163, 164, 165, 11, 166, 31, 167, 168, 169, 170, 171, 172, 173, 174, 175, 176, 177, 178, 179, 180, 181, 152, 153, 154, 155, 34, 30, 85, 86, 87, 88, 33, 32, 89, 90, 91, 92, 93, 94, 95, 96, 97, 98, 99, 182, 183, 184, 185, 186, 101, 102, 103, 104, 105, 106, 107, 135, 136, 137, 66, 69, 138, 139, 140, 141, 120, 121, 122, 79, 80, 142, 143, 144, 145, 146, 147, 148, 149, 150, 151, 63, 64, 65, 70, 71, 72, 73, 76, 77, 78, 81, 82, 83, 84, 100, 108, 109, 110, 111, 112, 35, 36, 187, 188, 189, 190, 191, 192, 193, 194, 195, 196, 197, 198, 199, 200, 201, 453, 454, 455, 456, 457, 458, 459, 460, 461, 462, 463, 464, 465, 466, 467, 468, 469, 470] (by decide +kernel) (by decide +kernel)) (goodIn_sub (fun _ h => List.mem_append_left _ (List.mem_append_left _ (List.mem_append_right _ h))) (by decide +kernel))) (goodIn_sub (fun _ h => List.mem_append_left _ (List.mem_append_right _ h)) (by decide +kernel))
set_option maxRecDepth 20000 in
theorem gL_law_L_print : GoodIn wsL_law (va_wsS RL 146 yL_print wsL_print) := goodIn_app (goodIn_of _ (by decide +kernel)) ggL_law_L_print
set_option maxRecDepth 20000 in
theorem ggL_law_L_low : GoodIn wsL_law wsL_low := goodIn_r _ [310, 311] (by decide +kernel) (by decide +kernel)
set_option maxRecDepth 20000 in
theorem gL_law_L_low : GoodIn wsL_law (va_wsS RL 84 yL_low wsL_low) := goodIn_app (goodIn_of _ (by decide +kernel)) ggL_law_L_low
set_option maxRecDepth 20000 in
theorem ggL_law_L_act : GoodIn wsL_law wsL_act := goodIn_ca (goodIn_ca (goodIn_ca (goodIn_r _ [314, 308, 309, 60, 310, 311, 315, 316, 317, 2, 318, 20, 319, 320, 321, 19, 322, 323, 324, 325, 326, 67, 292, 68, 69, 327, 328, 329, 330, 297, 298, 142, 143, 144, 74, 75, 331, 332, 333, 334, 335, 336, 337, 338, 50, 339, 340, 341, 342, 343, 344, 345, 16, 12, 346, 347, 348, 349, 350, 351, 352, 353, 354, 355, 356, 263, 264, 265, 15, 266, 267, 45, 268, 269, 270, 271, 272, 273, 274, 11, 275, 30, 276, 277, 278, 279, 31, 32, 33, 34, 35, 36, 112, 280, 281, 357, 358, 359, 360, 81, 82, 83, 84, 85, 86, 87, 88, 89, 90, 91, 92, 93, 94, 95, 96, 97, 98, 99, 361, 362, 363, 66, 364, 365, 366, 367, 120, 121, 122, 79, 80, 368, 369, 370, 371, 372, 373, 374, 375, 376, 377, 378, 379, 380, 381, 194, 195, 196, 197, 198, 199, 200, 201, 152, 153, 154, 155, 382, 172, 173, 174, 175, 176, 177, 383, 384, 385, 386, 387, 388, 389, 390, 391, 392, 393, 76, 77, 78, 394, 395, 396, 397, 398, 399, 400, 401, 402, 403, 404, 405, 256, 257, 258, 259, 260, 261, 262, 282, 283, 284, 285, 104, 105, 106, 107, 286, 287, 288, 167, 168, 169, 170, 171, 406, 407, 408, 409, 410, 411, 412, 413, 414, 415, 416, 417, 418, 419, 420, 421, 422, 423, 424, 425, 426, 427, 428, 429, 430, 431, 432, 433, 145, 146, 147, 434, 435, 436, 437, 453, 454, 455, 456, 471, 472, 457, 458, 459, 460, 461, 462, 463, 464, 465, 466, 467, 468, 469, 470] (by decide +kernel) (by decide +kernel)) (goodIn_sub (fun _ h => List.mem_append_right _ h) (by decide +kernel))) (goodIn_sub (fun _ h => List.mem_append_left _ (List.mem_append_left _ (List.mem_append_right _ h))) (by decide +kernel))) (goodIn_sub (fun _ h => List.mem_append_left _ (List.mem_append_right _ h)) (by decide +kernel))
set_option maxRecDepth 20000 in
theorem gL_law_L_act : GoodIn wsL_law (va_wsS RL 169 yL_act wsL_act) := goodIn_app (goodIn_of _ (by decide +kernel)) ggL_law_L_act
set_option maxRecDepth 20000 in
theorem ggL_law_L_undo : GoodIn wsL_law wsL_undo := goodIn_ca (goodIn_r _ [291, 292, 68, 293, 294, 295, 2, 296, 297, 298, 16, 12, 299, 300, 301, 15, 302, 267, 45, 272, 273, 274, 11, 275, 30, 276, 277, 278, 279, 31, 32, 33, 34, 35, 36, 112, 280, 281, 453, 454, 455, 456, 467, 468, 469, 470, 457, 458, 459, 460, 461, 462, 463, 464, 465, 466] (by decide +kernel) (by decide +kernel)) (goodIn_sub (fun _ h => List.mem_append_right _ h) (by decide +kernel))
set_option maxRecDepth 20000 in
theorem gL_law_L_undo : GoodIn wsL_law (va_wsS RL 152 yL_undo wsL_undo) := goodIn_app (goodIn_of _ (by decide +kernel)) ggL_law_L_undo
set_option maxRecDepth 20000 in
theorem ggL_law_L_borrows : GoodIn wsL_law wsL_borrows := goodIn_ca (goodIn_ca (goodIn_ca (goodIn_r _ [440, 221, 222, 60, 223, 224, 225, 156, 157, 158, 67, 68, 159, 160, 161, 2, 162, 74, 75, 12, 16, 163, 164, 165, 11, 166, 31, 167, 168, 169, 170, 171, 172, 173, 174, 175, 176, 177, 178, 179, 180, 181, 152, 153, 154, 155, 34, 30, 85, 86, 87, 88, 33, 32, 89, 90, 91, 92, 93, 94, 95, 96, 97, 98, 99, 182, 183, 184, 185, 186, 101, 102, 103, 104, 105, 106, 107, 135, 136, 137, 66, 69, 138, 139, 140, 141, 120, 121, 122, 79, 80, 142, 143, 144, 145, 146, 147, 148, 149, 150, 151, 63, 64, 65, 70, 71, 72, 73, 76, 77, 78, 81, 82, 83, 84, 100, 108, 109, 110, 111, 112, 35, 36, 187, 188, 189, 190, 191, 192, 193, 194, 195, 196, 197, 198, 199, 200, 201, 202, 203, 204, 205, 206, 207, 208, 413, 414, 415, 416, 417, 418, 419, 263, 264, 265, 15, 266, 267, 45, 268, 269, 270, 271, 272, 273, 274, 275, 276, 277, 278, 279, 280, 281, 289, 290, 291, 292, 293, 294, 295, 296, 297, 298, 299, 300, 301, 302, 453, 454, 455, 456, 457, 458, 459, 460, 461, 462, 463, 464, 465, 466, 467, 468, 469, 470] (by decide +kernel) (by decide +kernel)) (goodIn_sub (fun _ h => List.mem_append_left _ (List.mem_append_left _ (List.mem_append_right _ h))) (by decide +kernel))) (goodIn_sub (fun _ h => List.mem_append_left _ (List.mem_append_right _ h)) (by decide +kernel))) (goodIn_sub (fun _ h => List.mem_append_right _ h) (by decide +kernel))
set_option maxRecDepth 20000 in
theorem gL_law_L_borrows : GoodIn wsL_law (va_wsS RL 172 yL_borrows wsL_borrows) := goodIn_app (goodIn_of _ (by decide +kernel)) ggL_law_L_borrows
set_option maxRecDepth 20000 in
theorem ggL_law_L_corrects : GoodIn wsL_law wsL_corrects := goodIn_ca (goodIn_ca (goodIn_ca (goodIn_r _ [443, 156, 157, 60, 158, 67, 68, 159, 160, 161, 2, 162, 74, 75, 12, 16, 163, 164, 165, 11, 166, 31, 167, 168, 169, 170, 171, 172, 173, 174, 175, 176, 177, 178, 179, 180, 181, 152, 153, 154, 155, 34, 30, 85, 86, 87, 88, 33, 32, 89, 90, 91, 92, 93, 94, 95, 96, 97, 98, 99, 182, 183, 184, 185, 186, 101, 102, 103, 104, 105, 106, 107, 361, 362, 363, 66, 69, 364, 365, 366, 367, 120, 121, 122, 79, 80, 368, 369, 370, 263, 264, 265, 15, 266, 267, 45, 268, 269, 270, 271, 272, 273, 274, 275, 276, 277, 278, 279, 35, 36, 112, 280, 281, 371, 372, 373, 374, 289, 290, 291, 292, 293, 294, 295, 296, 297, 298, 299, 300, 301, 302, 221, 222, 223, 224, 225, 135, 136, 137, 138, 139, 140, 141, 142, 143, 144, 145, 146, 147, 148, 149, 150, 151, 63, 64, 65, 70, 71, 72, 73, 76, 77, 78, 81, 82, 83, 84, 100, 108, 109, 110, 111, 187, 188, 189, 190, 191, 192, 193, 194, 195, 196, 197, 198, 199, 200, 201, 444, 445, 446, 447, 448, 449, 450, 451, 399, 400, 401, 402, 403, 404, 405, 452, 387, 388, 389, 390, 391, 392, 393, 394, 395, 396, 397, 398, 132, 133, 134, 113, 114, 115, 116, 117, 118, 119, 123, 427, 428, 429, 430, 431, 432, 433, 434, 435, 436, 437, 453, 454, 455, 456, 457, 458, 459, 460, 461, 462, 463, 464, 465, 466, 467, 468, 469, 470] (by decide +kernel) (by decide +kernel)) (goodIn_sub (fun _ h => List.mem_append_left _ (List.mem_append_left _ (List.mem_append_right _ h))) (by decide +kernel))) (goodIn_sub (fun _ h => List.mem_append_left _ (List.mem_append_right _ h)) (by decide +kernel))) (goodIn_sub (fun _ h => List.mem_append_right _ h) (by decide +kernel))
set_option maxRecDepth 20000 in
theorem gL_law_L_corrects : GoodIn wsL_law (va_wsS RL 176 yL_corrects wsL_corrects) := goodIn_app (goodIn_of _ (by decide +kernel)) ggL_law_L_corrects
theorem dL_law_0 : decode cL_law 0 = .ok (.new 11, 3) := by decide +kernel
theorem dL_law_3 : decode cL_law 3 = .ok (.dup, 1) := by decide +kernel
theorem dL_law_4 : decode cL_law 4 = .ok (.invokespecial 156, 3) := by decide +kernel
theorem dL_law_7 : decode cL_law 7 = .ok (.astore_n 1, 1) := by decide +kernel
theorem dL_law_8 : decode cL_law 8 = .ok (.aload_n 1, 1) := by decide +kernel
theorem dL_law_9 : decode cL_law 9 = .ok (.invokestatic 157, 3) := by decide +kernel
theorem dL_law_12 : decode cL_law 12 = .ok (.ifCond .eq 15, 3) := by decide +kernel
theorem dL_law_15 : decode cL_law 15 = .ok (.aload_n 1, 1) := by decide +kernel
theorem dL_law_16 : decode cL_law 16 = .ok (.iconst 0, 1) := by decide +kernel
theorem dL_law_17 : decode cL_law 17 = .ok (.invokestatic 161, 3) := by decide +kernel
theorem dL_law_20 : decode cL_law 20 = .ok (.ifCond .eq 7, 3) := by decide +kernel
theorem dL_law_23 : decode cL_law 23 = .ok (.iconst 1, 1) := by decide +kernel
theorem dL_law_24 : decode cL_law 24 = .ok (.goto 4, 3) := by decide +kernel
theorem dL_law_27 : decode cL_law 27 = .ok (.iconst 0, 1) := by decide +kernel
theorem dL_law_28 : decode cL_law 28 = .ok (.istore_n 2, 1) := by decide +kernel
theorem dL_law_29 : decode cL_law 29 = .ok (.iconst 0, 1) := by decide +kernel
theorem dL_law_30 : decode cL_law 30 = .ok (.istore_n 3, 1) := by decide +kernel
theorem dL_law_31 : decode cL_law 31 = .ok (.iload_n 3, 1) := by decide +kernel
theorem dL_law_32 : decode cL_law 32 = .ok (.bipush 40, 2) := by decide +kernel
theorem dL_law_34 : decode cL_law 34 = .ok (.if_icmp .ge 329, 3) := by decide +kernel
theorem dL_law_37 : decode cL_law 37 = .ok (.iload_n 2, 1) := by decide +kernel
theorem dL_law_38 : decode cL_law 38 = .ok (.ifCond .eq 325, 3) := by decide +kernel
theorem dL_law_41 : decode cL_law 41 = .ok (.aload_n 0, 1) := by decide +kernel
theorem dL_law_42 : decode cL_law 42 = .ok (.iconst 2, 1) := by decide +kernel
theorem dL_law_43 : decode cL_law 43 = .ok (.iload_n 3, 1) := by decide +kernel
theorem dL_law_44 : decode cL_law 44 = .ok (.imul, 1) := by decide +kernel
theorem dL_law_45 : decode cL_law 45 = .ok (.invokestatic 165, 3) := by decide +kernel
theorem dL_law_48 : decode cL_law 48 = .ok (.istore 4, 2) := by decide +kernel
theorem dL_law_50 : decode cL_law 50 = .ok (.aload_n 0, 1) := by decide +kernel
theorem dL_law_51 : decode cL_law 51 = .ok (.iconst 2, 1) := by decide +kernel
theorem dL_law_52 : decode cL_law 52 = .ok (.iload_n 3, 1) := by decide +kernel
theorem dL_law_53 : decode cL_law 53 = .ok (.imul, 1) := by decide +kernel
theorem dL_law_54 : decode cL_law 54 = .ok (.iconst 1, 1) := by decide +kernel
theorem dL_law_55 : decode cL_law 55 = .ok (.iadd, 1) := by decide +kernel
theorem dL_law_56 : decode cL_law 56 = .ok (.invokestatic 165, 3) := by decide +kernel
theorem dL_law_59 : decode cL_law 59 = .ok (.istore 5, 2) := by decide +kernel
theorem dL_law_61 : decode cL_law 61 = .ok (.aload_n 1, 1) := by decide +kernel
theorem dL_law_62 : decode cL_law 62 = .ok (.bipush 7, 2) := by decide +kernel
theorem dL_law_64 : decode cL_law 64 = .ok (.invokestatic 127, 3) := by decide +kernel
theorem dL_law_67 : decode cL_law 67 = .ok (.istore 6, 2) := by decide +kernel
theorem dL_law_69 : decode cL_law 69 = .ok (.aload_n 1, 1) := by decide +kernel
theorem dL_law_70 : decode cL_law 70 = .ok (.invokestatic 146, 3) := by decide +kernel
theorem dL_law_73 : decode cL_law 73 = .ok (.lstore 7, 2) := by decide +kernel
theorem dL_law_75 : decode cL_law 75 = .ok (.aload_n 1, 1) := by decide +kernel
theorem dL_law_76 : decode cL_law 76 = .ok (.iload_n 3, 1) := by decide +kernel
theorem dL_law_77 : decode cL_law 77 = .ok (.ifCond .ne 16, 3) := by decide +kernel
theorem dL_law_80 : decode cL_law 80 = .ok (.iload 4, 2) := by decide +kernel
theorem dL_law_82 : decode cL_law 82 = .ok (.iload 4, 2) := by decide +kernel
theorem dL_law_84 : decode cL_law 84 = .ok (.bipush 14, 2) := by decide +kernel
theorem dL_law_86 : decode cL_law 86 = .ok (.invokestatic 84, 3) := by decide +kernel
theorem dL_law_89 : decode cL_law 89 = .ok (.isub, 1) := by decide +kernel
theorem dL_law_90 : decode cL_law 90 = .ok (.goto 5, 3) := by decide +kernel
theorem dL_law_93 : decode cL_law 93 = .ok (.iload 4, 2) := by decide +kernel
theorem dL_law_95 : decode cL_law 95 = .ok (.iload 5, 2) := by decide +kernel
theorem dL_law_97 : decode cL_law 97 = .ok (.invokestatic 169, 3) := by decide +kernel
theorem dL_law_100 : decode cL_law 100 = .ok (.istore 9, 2) := by decide +kernel
theorem dL_law_102 : decode cL_law 102 = .ok (.iload 9, 2) := by decide +kernel
theorem dL_law_104 : decode cL_law 104 = .ok (.sipush (-1000), 3) := by decide +kernel
theorem dL_law_107 : decode cL_law 107 = .ok (.if_icmp .ge 33, 3) := by decide +kernel
theorem dL_law_110 : decode cL_law 110 = .ok (.aload_n 1, 1) := by decide +kernel
theorem dL_law_111 : decode cL_law 111 = .ok (.bipush 7, 2) := by decide +kernel
theorem dL_law_113 : decode cL_law 113 = .ok (.invokestatic 127, 3) := by decide +kernel
theorem dL_law_116 : decode cL_law 116 = .ok (.iload 6, 2) := by decide +kernel
theorem dL_law_118 : decode cL_law 118 = .ok (.if_icmp .ne 17, 3) := by decide +kernel
theorem dL_law_121 : decode cL_law 121 = .ok (.aload_n 1, 1) := by decide +kernel
theorem dL_law_122 : decode cL_law 122 = .ok (.invokestatic 146, 3) := by decide +kernel
theorem dL_law_125 : decode cL_law 125 = .ok (.lload 7, 2) := by decide +kernel
theorem dL_law_127 : decode cL_law 127 = .ok (.lcmp, 1) := by decide +kernel
theorem dL_law_128 : decode cL_law 128 = .ok (.ifCond .ne 7, 3) := by decide +kernel
theorem dL_law_131 : decode cL_law 131 = .ok (.iconst 1, 1) := by decide +kernel
theorem dL_law_132 : decode cL_law 132 = .ok (.goto 4, 3) := by decide +kernel
theorem dL_law_135 : decode cL_law 135 = .ok (.iconst 0, 1) := by decide +kernel
theorem dL_law_136 : decode cL_law 136 = .ok (.istore_n 2, 1) := by decide +kernel
theorem dL_law_137 : decode cL_law 137 = .ok (.goto 98, 3) := by decide +kernel
theorem dL_law_140 : decode cL_law 140 = .ok (.aload_n 1, 1) := by decide +kernel
theorem dL_law_141 : decode cL_law 141 = .ok (.bipush 7, 2) := by decide +kernel
theorem dL_law_143 : decode cL_law 143 = .ok (.invokestatic 127, 3) := by decide +kernel
theorem dL_law_146 : decode cL_law 146 = .ok (.iload 6, 2) := by decide +kernel
theorem dL_law_148 : decode cL_law 148 = .ok (.bipush 6, 2) := by decide +kernel
theorem dL_law_150 : decode cL_law 150 = .ok (.if_icmp .ge 10, 3) := by decide +kernel
theorem dL_law_153 : decode cL_law 153 = .ok (.iload 6, 2) := by decide +kernel
theorem dL_law_155 : decode cL_law 155 = .ok (.iconst 1, 1) := by decide +kernel
theorem dL_law_156 : decode cL_law 156 = .ok (.iadd, 1) := by decide +kernel
theorem dL_law_157 : decode cL_law 157 = .ok (.goto 5, 3) := by decide +kernel
theorem dL_law_160 : decode cL_law 160 = .ok (.bipush 6, 2) := by decide +kernel
theorem dL_law_162 : decode cL_law 162 = .ok (.if_icmp .ne 7, 3) := by decide +kernel
theorem dL_law_165 : decode cL_law 165 = .ok (.iconst 1, 1) := by decide +kernel
theorem dL_law_166 : decode cL_law 166 = .ok (.goto 4, 3) := by decide +kernel
theorem dL_law_169 : decode cL_law 169 = .ok (.iconst 0, 1) := by decide +kernel
theorem dL_law_170 : decode cL_law 170 = .ok (.istore_n 2, 1) := by decide +kernel
theorem dL_law_171 : decode cL_law 171 = .ok (.iload_n 2, 1) := by decide +kernel
theorem dL_law_172 : decode cL_law 172 = .ok (.ifCond .eq 63, 3) := by decide +kernel
theorem dL_law_175 : decode cL_law 175 = .ok (.iload_n 3, 1) := by decide +kernel
theorem dL_law_176 : decode cL_law 176 = .ok (.ifCond .le 59, 3) := by decide +kernel
theorem dL_law_179 : decode cL_law 179 = .ok (.iload 6, 2) := by decide +kernel
theorem dL_law_181 : decode cL_law 181 = .ok (.bipush 6, 2) := by decide +kernel
theorem dL_law_183 : decode cL_law 183 = .ok (.if_icmp .ge 52, 3) := by decide +kernel
theorem dL_law_186 : decode cL_law 186 = .ok (.iload 5, 2) := by decide +kernel
theorem dL_law_188 : decode cL_law 188 = .ok (.iconst 5, 1) := by decide +kernel
theorem dL_law_189 : decode cL_law 189 = .ok (.ishr, 1) := by decide +kernel
theorem dL_law_190 : decode cL_law 190 = .ok (.iconst 3, 1) := by decide +kernel
theorem dL_law_191 : decode cL_law 191 = .ok (.invokestatic 84, 3) := by decide +kernel
theorem dL_law_194 : decode cL_law 194 = .ok (.ifCond .ne 41, 3) := by decide +kernel
theorem dL_law_197 : decode cL_law 197 = .ok (.aload_n 1, 1) := by decide +kernel
theorem dL_law_198 : decode cL_law 198 = .ok (.invokestatic 152, 3) := by decide +kernel
theorem dL_law_201 : decode cL_law 201 = .ok (.iload 6, 2) := by decide +kernel
theorem dL_law_203 : decode cL_law 203 = .ok (.if_icmp .ne 30, 3) := by decide +kernel
theorem dL_law_206 : decode cL_law 206 = .ok (.aload_n 1, 1) := by decide +kernel
theorem dL_law_207 : decode cL_law 207 = .ok (.invokestatic 146, 3) := by decide +kernel
theorem dL_law_210 : decode cL_law 210 = .ok (.lload 7, 2) := by decide +kernel
theorem dL_law_212 : decode cL_law 212 = .ok (.lcmp, 1) := by decide +kernel
theorem dL_law_213 : decode cL_law 213 = .ok (.ifCond .ne 20, 3) := by decide +kernel
theorem dL_law_216 : decode cL_law 216 = .ok (.aload_n 1, 1) := by decide +kernel
theorem dL_law_217 : decode cL_law 217 = .ok (.iload 4, 2) := by decide +kernel
theorem dL_law_219 : decode cL_law 219 = .ok (.iload 5, 2) := by decide +kernel
theorem dL_law_221 : decode cL_law 221 = .ok (.invokestatic 169, 3) := by decide +kernel
theorem dL_law_224 : decode cL_law 224 = .ok (.iload 9, 2) := by decide +kernel
theorem dL_law_226 : decode cL_law 226 = .ok (.if_icmp .ne 7, 3) := by decide +kernel
theorem dL_law_229 : decode cL_law 229 = .ok (.iconst 1, 1) := by decide +kernel
theorem dL_law_230 : decode cL_law 230 = .ok (.goto 4, 3) := by decide +kernel
theorem dL_law_233 : decode cL_law 233 = .ok (.iconst 0, 1) := by decide +kernel
theorem dL_law_234 : decode cL_law 234 = .ok (.istore_n 2, 1) := by decide +kernel
theorem dL_law_235 : decode cL_law 235 = .ok (.iload_n 2, 1) := by decide +kernel
theorem dL_law_236 : decode cL_law 236 = .ok (.ifCond .eq 119, 3) := by decide +kernel
theorem dL_law_239 : decode cL_law 239 = .ok (.aload_n 1, 1) := by decide +kernel
theorem dL_law_240 : decode cL_law 240 = .ok (.invokestatic 157, 3) := by decide +kernel
theorem dL_law_243 : decode cL_law 243 = .ok (.ifCond .eq 112, 3) := by decide +kernel
theorem dL_law_246 : decode cL_law 246 = .ok (.aload_n 1, 1) := by decide +kernel
theorem dL_law_247 : decode cL_law 247 = .ok (.iload 4, 2) := by decide +kernel
theorem dL_law_249 : decode cL_law 249 = .ok (.iconst 5, 1) := by decide +kernel
theorem dL_law_250 : decode cL_law 250 = .ok (.ishr, 1) := by decide +kernel
theorem dL_law_251 : decode cL_law 251 = .ok (.iconst 4, 1) := by decide +kernel
theorem dL_law_252 : decode cL_law 252 = .ok (.invokestatic 84, 3) := by decide +kernel
theorem dL_law_255 : decode cL_law 255 = .ok (.invokestatic 161, 3) := by decide +kernel
theorem dL_law_258 : decode cL_law 258 = .ok (.ifCond .eq 97, 3) := by decide +kernel
theorem dL_law_261 : decode cL_law 261 = .ok (.aload_n 1, 1) := by decide +kernel
theorem dL_law_262 : decode cL_law 262 = .ok (.iload 5, 2) := by decide +kernel
theorem dL_law_264 : decode cL_law 264 = .ok (.iconst 3, 1) := by decide +kernel
theorem dL_law_265 : decode cL_law 265 = .ok (.ishr, 1) := by decide +kernel
theorem dL_law_266 : decode cL_law 266 = .ok (.iconst 4, 1) := by decide +kernel
theorem dL_law_267 : decode cL_law 267 = .ok (.invokestatic 84, 3) := by decide +kernel
theorem dL_law_270 : decode cL_law 270 = .ok (.iload 5, 2) := by decide +kernel
theorem dL_law_272 : decode cL_law 272 = .ok (.iconst 5, 1) := by decide +kernel
theorem dL_law_273 : decode cL_law 273 = .ok (.ishr, 1) := by decide +kernel
theorem dL_law_274 : decode cL_law 274 = .ok (.iconst 4, 1) := by decide +kernel
theorem dL_law_275 : decode cL_law 275 = .ok (.invokestatic 84, 3) := by decide +kernel
theorem dL_law_278 : decode cL_law 278 = .ok (.invokestatic 172, 3) := by decide +kernel
theorem dL_law_281 : decode cL_law 281 = .ok (.ifCond .eq 74, 3) := by decide +kernel
theorem dL_law_284 : decode cL_law 284 = .ok (.iload_n 3, 1) := by decide +kernel
theorem dL_law_285 : decode cL_law 285 = .ok (.iconst 3, 1) := by decide +kernel
theorem dL_law_286 : decode cL_law 286 = .ok (.irem, 1) := by decide +kernel
theorem dL_law_287 : decode cL_law 287 = .ok (.ifCond .gt 64, 3) := by decide +kernel
theorem dL_law_290 : decode cL_law 290 = .ok (.aload_n 1, 1) := by decide +kernel
theorem dL_law_291 : decode cL_law 291 = .ok (.iload 4, 2) := by decide +kernel
theorem dL_law_293 : decode cL_law 293 = .ok (.bipush 6, 2) := by decide +kernel
theorem dL_law_295 : decode cL_law 295 = .ok (.ishr, 1) := by decide +kernel
theorem dL_law_296 : decode cL_law 296 = .ok (.iconst 4, 1) := by decide +kernel
theorem dL_law_297 : decode cL_law 297 = .ok (.invokestatic 84, 3) := by decide +kernel
theorem dL_law_300 : decode cL_law 300 = .ok (.iload 5, 2) := by decide +kernel
theorem dL_law_302 : decode cL_law 302 = .ok (.iconst 4, 1) := by decide +kernel
theorem dL_law_303 : decode cL_law 303 = .ok (.ishr, 1) := by decide +kernel
theorem dL_law_304 : decode cL_law 304 = .ok (.bipush 8, 2) := by decide +kernel
theorem dL_law_306 : decode cL_law 306 = .ok (.invokestatic 84, 3) := by decide +kernel
theorem dL_law_309 : decode cL_law 309 = .ok (.iload 5, 2) := by decide +kernel
theorem dL_law_311 : decode cL_law 311 = .ok (.iconst 4, 1) := by decide +kernel
theorem dL_law_312 : decode cL_law 312 = .ok (.ishr, 1) := by decide +kernel
theorem dL_law_313 : decode cL_law 313 = .ok (.bipush 8, 2) := by decide +kernel
theorem dL_law_315 : decode cL_law 315 = .ok (.invokestatic 84, 3) := by decide +kernel
theorem dL_law_318 : decode cL_law 318 = .ok (.iconst 1, 1) := by decide +kernel
theorem dL_law_319 : decode cL_law 319 = .ok (.iadd, 1) := by decide +kernel
theorem dL_law_320 : decode cL_law 320 = .ok (.iload 4, 2) := by decide +kernel
theorem dL_law_322 : decode cL_law 322 = .ok (.bipush 8, 2) := by decide +kernel
theorem dL_law_324 : decode cL_law 324 = .ok (.ishr, 1) := by decide +kernel
theorem dL_law_325 : decode cL_law 325 = .ok (.bipush 7, 2) := by decide +kernel
theorem dL_law_327 : decode cL_law 327 = .ok (.invokestatic 84, 3) := by decide +kernel
theorem dL_law_330 : decode cL_law 330 = .ok (.iadd, 1) := by decide +kernel
theorem dL_law_331 : decode cL_law 331 = .ok (.bipush 8, 2) := by decide +kernel
theorem dL_law_333 : decode cL_law 333 = .ok (.irem, 1) := by decide +kernel
theorem dL_law_334 : decode cL_law 334 = .ok (.iload 5, 2) := by decide +kernel
theorem dL_law_336 : decode cL_law 336 = .ok (.bipush 7, 2) := by decide +kernel
theorem dL_law_338 : decode cL_law 338 = .ok (.ishr, 1) := by decide +kernel
theorem dL_law_339 : decode cL_law 339 = .ok (.sipush 1000, 3) := by decide +kernel
theorem dL_law_342 : decode cL_law 342 = .ok (.invokestatic 84, 3) := by decide +kernel
theorem dL_law_345 : decode cL_law 345 = .ok (.invokestatic 176, 3) := by decide +kernel
theorem dL_law_348 : decode cL_law 348 = .ok (.ifCond .eq 7, 3) := by decide +kernel
theorem dL_law_351 : decode cL_law 351 = .ok (.iconst 1, 1) := by decide +kernel
theorem dL_law_352 : decode cL_law 352 = .ok (.goto 4, 3) := by decide +kernel
theorem dL_law_355 : decode cL_law 355 = .ok (.iconst 0, 1) := by decide +kernel
theorem dL_law_356 : decode cL_law 356 = .ok (.istore_n 2, 1) := by decide +kernel
theorem dL_law_357 : decode cL_law 357 = .ok (.iinc 3 1, 3) := by decide +kernel
theorem dL_law_360 : decode cL_law 360 = .ok (.goto (-329), 3) := by decide +kernel
theorem dL_law_363 : decode cL_law 363 = .ok (.iload_n 2, 1) := by decide +kernel
theorem dL_law_364 : decode cL_law 364 = .ok (.ireturn, 1) := by decide +kernel
abbrev vwCl : List vw_C := [(RX0, TX0, 10), (RX2, TX2, 4), (RX3, TX3, 4), (RX4, TX4, 2), (RX5, TX5, 4)]
