theorem dL_hangs_511 : decode cL_hangs 511 = .ok (.goto 5, 3) := by decide +kernel
theorem dL_hangs_514 : decode cL_hangs 514 = .ok (.iload 8, 2) := by decide +kernel
theorem dL_hangs_516 : decode cL_hangs 516 = .ok (.invokestatic 131, 3) := by decide +kernel
theorem dL_hangs_519 : decode cL_hangs 519 = .ok (.iload 6, 2) := by decide +kernel
theorem dL_hangs_521 : decode cL_hangs 521 = .ok (.iconst 2, 1) := by decide +kernel
theorem dL_hangs_522 : decode cL_hangs 522 = .ok (.idiv, 1) := by decide +kernel
theorem dL_hangs_523 : decode cL_hangs 523 = .ok (.if_icmp .ne 18, 3) := by decide +kernel
theorem dL_hangs_526 : decode cL_hangs 526 = .ok (.aload_n 0, 1) := by decide +kernel
theorem dL_hangs_527 : decode cL_hangs 527 = .ok (.iload 5, 2) := by decide +kernel
theorem dL_hangs_529 : decode cL_hangs 529 = .ok (.iload 5, 2) := by decide +kernel
theorem dL_hangs_531 : decode cL_hangs 531 = .ok (.invokestatic 131, 3) := by decide +kernel
theorem dL_hangs_534 : decode cL_hangs 534 = .ok (.iload 6, 2) := by decide +kernel
theorem dL_hangs_536 : decode cL_hangs 536 = .ok (.iconst 2, 1) := by decide +kernel
theorem dL_hangs_537 : decode cL_hangs 537 = .ok (.idiv, 1) := by decide +kernel
theorem dL_hangs_538 : decode cL_hangs 538 = .ok (.if_icmp .le 5, 3) := by decide +kernel
theorem dL_hangs_541 : decode cL_hangs 541 = .ok (.iconst 0, 1) := by decide +kernel
theorem dL_hangs_542 : decode cL_hangs 542 = .ok (.ireturn, 1) := by decide +kernel
theorem dL_hangs_543 : decode cL_hangs 543 = .ok (.iinc 5 1, 3) := by decide +kernel
theorem dL_hangs_546 : decode cL_hangs 546 = .ok (.goto (-531), 3) := by decide +kernel
theorem dL_hangs_549 : decode cL_hangs 549 = .ok (.iconst 0, 1) := by decide +kernel
theorem dL_hangs_550 : decode cL_hangs 550 = .ok (.istore 5, 2) := by decide +kernel
theorem dL_hangs_552 : decode cL_hangs 552 = .ok (.iconst 0, 1) := by decide +kernel
theorem dL_hangs_553 : decode cL_hangs 553 = .ok (.istore 6, 2) := by decide +kernel
theorem dL_hangs_555 : decode cL_hangs 555 = .ok (.iconst 0, 1) := by decide +kernel
theorem dL_hangs_556 : decode cL_hangs 556 = .ok (.istore 7, 2) := by decide +kernel
theorem dL_hangs_558 : decode cL_hangs 558 = .ok (.iload 7, 2) := by decide +kernel
theorem dL_hangs_560 : decode cL_hangs 560 = .ok (.bipush 8, 2) := by decide +kernel
theorem dL_hangs_562 : decode cL_hangs 562 = .ok (.if_icmp .ge 69, 3) := by decide +kernel
theorem dL_hangs_565 : decode cL_hangs 565 = .ok (.iload 5, 2) := by decide +kernel
theorem dL_hangs_567 : decode cL_hangs 567 = .ok (.aload_n 0, 1) := by decide +kernel
theorem dL_hangs_568 : decode cL_hangs 568 = .ok (.iload 7, 2) := by decide +kernel
theorem dL_hangs_570 : decode cL_hangs 570 = .ok (.iconst 3, 1) := by decide +kernel
theorem dL_hangs_571 : decode cL_hangs 571 = .ok (.invokestatic 125, 3) := by decide +kernel
theorem dL_hangs_574 : decode cL_hangs 574 = .ok (.ifCond .ge 7, 3) := by decide +kernel
theorem dL_hangs_577 : decode cL_hangs 577 = .ok (.iconst 0, 1) := by decide +kernel
theorem dL_hangs_578 : decode cL_hangs 578 = .ok (.goto 4, 3) := by decide +kernel
theorem dL_hangs_581 : decode cL_hangs 581 = .ok (.iconst 1, 1) := by decide +kernel
theorem dL_hangs_582 : decode cL_hangs 582 = .ok (.iadd, 1) := by decide +kernel
theorem dL_hangs_583 : decode cL_hangs 583 = .ok (.istore 5, 2) := by decide +kernel
theorem dL_hangs_585 : decode cL_hangs 585 = .ok (.iconst 0, 1) := by decide +kernel
theorem dL_hangs_586 : decode cL_hangs 586 = .ok (.istore 8, 2) := by decide +kernel
theorem dL_hangs_588 : decode cL_hangs 588 = .ok (.iload 8, 2) := by decide +kernel
theorem dL_hangs_590 : decode cL_hangs 590 = .ok (.iload 7, 2) := by decide +kernel
theorem dL_hangs_592 : decode cL_hangs 592 = .ok (.if_icmp .ge 33, 3) := by decide +kernel
theorem dL_hangs_595 : decode cL_hangs 595 = .ok (.iload 6, 2) := by decide +kernel
theorem dL_hangs_597 : decode cL_hangs 597 = .ok (.aload 4, 2) := by decide +kernel
theorem dL_hangs_599 : decode cL_hangs 599 = .ok (.bipush 8, 2) := by decide +kernel
theorem dL_hangs_601 : decode cL_hangs 601 = .ok (.iload 7, 2) := by decide +kernel
theorem dL_hangs_603 : decode cL_hangs 603 = .ok (.imul, 1) := by decide +kernel
theorem dL_hangs_604 : decode cL_hangs 604 = .ok (.iload 8, 2) := by decide +kernel
theorem dL_hangs_606 : decode cL_hangs 606 = .ok (.iadd, 1) := by decide +kernel
theorem dL_hangs_607 : decode cL_hangs 607 = .ok (.iaload, 1) := by decide +kernel
theorem dL_hangs_608 : decode cL_hangs 608 = .ok (.ifCond .ne 7, 3) := by decide +kernel
theorem dL_hangs_611 : decode cL_hangs 611 = .ok (.iconst 1, 1) := by decide +kernel
theorem dL_hangs_612 : decode cL_hangs 612 = .ok (.goto 4, 3) := by decide +kernel
theorem dL_hangs_615 : decode cL_hangs 615 = .ok (.iconst 0, 1) := by decide +kernel
theorem dL_hangs_616 : decode cL_hangs 616 = .ok (.iadd, 1) := by decide +kernel
theorem dL_hangs_617 : decode cL_hangs 617 = .ok (.istore 6, 2) := by decide +kernel
theorem dL_hangs_619 : decode cL_hangs 619 = .ok (.iinc 8 1, 3) := by decide +kernel
theorem dL_hangs_622 : decode cL_hangs 622 = .ok (.goto (-34), 3) := by decide +kernel
theorem dL_hangs_625 : decode cL_hangs 625 = .ok (.iinc 7 1, 3) := by decide +kernel
theorem dL_hangs_628 : decode cL_hangs 628 = .ok (.goto (-70), 3) := by decide +kernel
theorem dL_hangs_631 : decode cL_hangs 631 = .ok (.aload_n 0, 1) := by decide +kernel
theorem dL_hangs_632 : decode cL_hangs 632 = .ok (.iconst 0, 1) := by decide +kernel
theorem dL_hangs_633 : decode cL_hangs 633 = .ok (.invokestatic 127, 3) := by decide +kernel
theorem dL_hangs_636 : decode cL_hangs 636 = .ok (.iload 5, 2) := by decide +kernel
theorem dL_hangs_638 : decode cL_hangs 638 = .ok (.if_icmp .ne 77, 3) := by decide +kernel
theorem dL_hangs_641 : decode cL_hangs 641 = .ok (.aload_n 0, 1) := by decide +kernel
theorem dL_hangs_642 : decode cL_hangs 642 = .ok (.iconst 1, 1) := by decide +kernel
theorem dL_hangs_643 : decode cL_hangs 643 = .ok (.invokestatic 127, 3) := by decide +kernel
theorem dL_hangs_646 : decode cL_hangs 646 = .ok (.iload 5, 2) := by decide +kernel
theorem dL_hangs_648 : decode cL_hangs 648 = .ok (.if_icmp .gt 67, 3) := by decide +kernel
theorem dL_hangs_651 : decode cL_hangs 651 = .ok (.aload_n 0, 1) := by decide +kernel
theorem dL_hangs_652 : decode cL_hangs 652 = .ok (.iconst 1, 1) := by decide +kernel
theorem dL_hangs_653 : decode cL_hangs 653 = .ok (.invokestatic 127, 3) := by decide +kernel
theorem dL_hangs_656 : decode cL_hangs 656 = .ok (.ifCond .le 7, 3) := by decide +kernel
theorem dL_hangs_659 : decode cL_hangs 659 = .ok (.iconst 1, 1) := by decide +kernel
theorem dL_hangs_660 : decode cL_hangs 660 = .ok (.goto 4, 3) := by decide +kernel
theorem dL_hangs_663 : decode cL_hangs 663 = .ok (.iconst 0, 1) := by decide +kernel
theorem dL_hangs_664 : decode cL_hangs 664 = .ok (.iload 5, 2) := by decide +kernel
