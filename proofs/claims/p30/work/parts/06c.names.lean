theorem dL_hangs_666 : decode cL_hangs 666 = .ok (.ifCond .le 7, 3) := by decide +kernel
theorem dL_hangs_669 : decode cL_hangs 669 = .ok (.iconst 1, 1) := by decide +kernel
theorem dL_hangs_670 : decode cL_hangs 670 = .ok (.goto 4, 3) := by decide +kernel
theorem dL_hangs_673 : decode cL_hangs 673 = .ok (.iconst 0, 1) := by decide +kernel
theorem dL_hangs_674 : decode cL_hangs 674 = .ok (.if_icmp .ne 41, 3) := by decide +kernel
theorem dL_hangs_677 : decode cL_hangs 677 = .ok (.aload_n 0, 1) := by decide +kernel
theorem dL_hangs_678 : decode cL_hangs 678 = .ok (.iconst 3, 1) := by decide +kernel
theorem dL_hangs_679 : decode cL_hangs 679 = .ok (.invokestatic 127, 3) := by decide +kernel
theorem dL_hangs_682 : decode cL_hangs 682 = .ok (.iload 6, 2) := by decide +kernel
theorem dL_hangs_684 : decode cL_hangs 684 = .ok (.if_icmp .ne 31, 3) := by decide +kernel
theorem dL_hangs_687 : decode cL_hangs 687 = .ok (.aload_n 0, 1) := by decide +kernel
theorem dL_hangs_688 : decode cL_hangs 688 = .ok (.iconst 4, 1) := by decide +kernel
theorem dL_hangs_689 : decode cL_hangs 689 = .ok (.invokestatic 127, 3) := by decide +kernel
theorem dL_hangs_692 : decode cL_hangs 692 = .ok (.iload_n 1, 1) := by decide +kernel
theorem dL_hangs_693 : decode cL_hangs 693 = .ok (.if_icmp .ne 22, 3) := by decide +kernel
theorem dL_hangs_696 : decode cL_hangs 696 = .ok (.aload_n 0, 1) := by decide +kernel
theorem dL_hangs_697 : decode cL_hangs 697 = .ok (.aload_n 0, 1) := by decide +kernel
theorem dL_hangs_698 : decode cL_hangs 698 = .ok (.invokevirtual 133, 3) := by decide +kernel
theorem dL_hangs_701 : decode cL_hangs 701 = .ok (.iconst 3, 1) := by decide +kernel
theorem dL_hangs_702 : decode cL_hangs 702 = .ok (.invokestatic 116, 3) := by decide +kernel
theorem dL_hangs_705 : decode cL_hangs 705 = .ok (.iload_n 3, 1) := by decide +kernel
theorem dL_hangs_706 : decode cL_hangs 706 = .ok (.iconst 2, 1) := by decide +kernel
theorem dL_hangs_707 : decode cL_hangs 707 = .ok (.idiv, 1) := by decide +kernel
theorem dL_hangs_708 : decode cL_hangs 708 = .ok (.if_icmp .ne 7, 3) := by decide +kernel
theorem dL_hangs_711 : decode cL_hangs 711 = .ok (.iconst 1, 1) := by decide +kernel
theorem dL_hangs_712 : decode cL_hangs 712 = .ok (.goto 4, 3) := by decide +kernel
theorem dL_hangs_715 : decode cL_hangs 715 = .ok (.iconst 0, 1) := by decide +kernel
theorem dL_hangs_716 : decode cL_hangs 716 = .ok (.istore 7, 2) := by decide +kernel
theorem dL_hangs_718 : decode cL_hangs 718 = .ok (.iload 7, 2) := by decide +kernel
theorem dL_hangs_720 : decode cL_hangs 720 = .ok (.ifCond .eq 23, 3) := by decide +kernel
theorem dL_hangs_723 : decode cL_hangs 723 = .ok (.aload_n 0, 1) := by decide +kernel
theorem dL_hangs_724 : decode cL_hangs 724 = .ok (.invokevirtual 136, 3) := by decide +kernel
theorem dL_hangs_727 : decode cL_hangs 727 = .ok (.iload_n 2, 1) := by decide +kernel
theorem dL_hangs_728 : decode cL_hangs 728 = .ok (.iconst 2, 1) := by decide +kernel
theorem dL_hangs_729 : decode cL_hangs 729 = .ok (.idiv, 1) := by decide +kernel
theorem dL_hangs_730 : decode cL_hangs 730 = .ok (.i2d, 1) := by decide +kernel
theorem dL_hangs_731 : decode cL_hangs 731 = .ok (.ldc2_w 140, 3) := by decide +kernel
theorem dL_hangs_734 : decode cL_hangs 734 = .ok (.ddiv, 1) := by decide +kernel
theorem dL_hangs_735 : decode cL_hangs 735 = .ok (.dcmp .l, 1) := by decide +kernel
theorem dL_hangs_736 : decode cL_hangs 736 = .ok (.ifCond .ne 7, 3) := by decide +kernel
theorem dL_hangs_739 : decode cL_hangs 739 = .ok (.iconst 1, 1) := by decide +kernel
theorem dL_hangs_740 : decode cL_hangs 740 = .ok (.goto 4, 3) := by decide +kernel
theorem dL_hangs_743 : decode cL_hangs 743 = .ok (.iconst 0, 1) := by decide +kernel
theorem dL_hangs_744 : decode cL_hangs 744 = .ok (.ireturn, 1) := by decide +kernel
set_option maxRecDepth 20000 in
theorem ggL_print_L_count : GoodIn wsL_print wsL_count := goodIn_ca (goodIn_r _ [6, 7, 8, 9, 10, 11, 12, 13, 14, 15, 16, 17, 18, 19, 20, 21, 22, 23, 24, 25, 26, 27, 28, 29, 30, 31, 32, 33, 34, 35, 36, 37, 38, 39, 40, 41, 42, 43, 44, 45, 46, 47, 48, 49, 50, 51, 52, 53, 54, 55, 56, 57, 58, 59, 60, 61, 62, 63, 64, 65, 66, 67, 68, 69, 70, 71, 72, 73, 135, 136, 137, 138, 139, 140, 141, 142, 143, 144, 145, 146, 147, 148, 149, 150, 151, 152] (by decide +kernel) (by decide +kernel)) (goodIn_sub (fun _ h => List.mem_cons_of_mem _ (List.mem_append_left _ (List.mem_append_right _ h))) (by decide +kernel))
set_option maxRecDepth 20000 in
theorem gL_print_L_count : GoodIn wsL_print (va_wsS RL 127 yL_count wsL_count) := goodIn_app (goodIn_of _ (by decide +kernel)) ggL_print_L_count
set_option maxRecDepth 20000 in
theorem ggL_print_L_potOf : GoodIn wsL_print wsL_potOf := goodIn_ca (goodIn_ca (goodIn_r _ [76, 77, 7, 8, 78, 79, 80, 81, 12, 82, 16, 83, 84, 85, 86, 87, 88, 89, 90, 14, 15, 91, 92, 53, 93, 94, 95, 96, 21, 97, 39, 40, 41, 42, 43, 44, 45, 46, 47, 48, 49, 50, 51, 52, 54, 55, 56, 57, 58, 59, 60, 61, 135, 136, 137, 138, 139, 140, 141, 142, 143, 144, 145, 146, 147, 148] (by decide +kernel) (by decide +kernel)) (goodIn_sub (fun _ h => List.mem_cons_of_mem _ (List.mem_append_right _ h)) (by decide +kernel))) (goodIn_sub (fun _ h => List.mem_cons_of_mem _ (List.mem_append_left _ (List.mem_append_right _ h))) (by decide +kernel))
set_option maxRecDepth 20000 in
theorem gL_print_L_potOf : GoodIn wsL_print (va_wsS RL 125 yL_potOf wsL_potOf) := goodIn_app (goodIn_of _ (by decide +kernel)) ggL_print_L_potOf
set_option maxRecDepth 20000 in
theorem ggL_print_L_painterOf : GoodIn wsL_print wsL_painterOf := goodIn_ca (goodIn_ca (goodIn_r _ [100, 77, 7, 8, 78, 101, 102, 103, 12, 104, 14, 15, 16, 105, 106, 107, 86, 87, 108, 109, 110, 21, 111, 44, 45, 46, 47, 48, 49, 50, 51, 52, 53, 54, 55, 56, 57, 58, 59, 60, 61, 112, 67, 68, 69, 23, 70, 71, 72, 73, 43, 113, 114, 115, 116, 117, 118, 119, 135, 136, 137, 138, 139, 140, 141, 142, 143, 144, 145, 146, 147, 148] (by decide +kernel) (by decide +kernel)) (goodIn_sub (fun _ h => List.mem_cons_of_mem _ (List.mem_append_left _ (List.mem_append_right _ h))) (by decide +kernel))) (goodIn_sub (fun _ h => List.mem_cons_of_mem _ (List.mem_append_right _ h)) (by decide +kernel))
set_option maxRecDepth 20000 in
theorem gL_print_L_painterOf : GoodIn wsL_print (va_wsS RL 116 yL_painterOf wsL_painterOf) := goodIn_app (goodIn_of _ (by decide +kernel)) ggL_print_L_painterOf
set_option maxRecDepth 20000 in
theorem ggL_print_L_chartOf : GoodIn wsL_print wsL_chartOf := goodIn_ca (goodIn_ca (goodIn_r _ [122, 77, 7, 8, 78, 123, 124, 125, 12, 126, 14, 15, 16, 127, 128, 129, 130, 86, 87, 131, 132, 133, 21, 134, 118, 119, 39, 40, 41, 42, 43, 44, 45, 46, 47, 48, 49, 50, 51, 52, 53, 54, 55, 56, 57, 58, 59, 60, 61, 135, 136, 137, 138, 139, 140, 141, 142, 143, 144, 145, 146, 147, 148] (by decide +kernel) (by decide +kernel)) (goodIn_sub (fun _ h => List.mem_cons_of_mem _ (List.mem_append_left _ (List.mem_append_right _ h))) (by decide +kernel))) (goodIn_sub (fun _ h => List.mem_cons_of_mem _ (List.mem_append_right _ h)) (by decide +kernel))
set_option maxRecDepth 20000 in
theorem gL_print_L_chartOf : GoodIn wsL_print (va_wsS RL 129 yL_chartOf wsL_chartOf) := goodIn_app (goodIn_of _ (by decide +kernel)) ggL_print_L_chartOf
theorem dL_print_0 : decode cL_print 0 = .ok (.ldc2_w 142, 3) := by decide +kernel
theorem dL_print_3 : decode cL_print 3 = .ok (.lstore_n 1, 1) := by decide +kernel
theorem dL_print_4 : decode cL_print 4 = .ok (.iconst 0, 1) := by decide +kernel
theorem dL_print_5 : decode cL_print 5 = .ok (.istore_n 3, 1) := by decide +kernel
theorem dL_print_6 : decode cL_print 6 = .ok (.iload_n 3, 1) := by decide +kernel
theorem dL_print_7 : decode cL_print 7 = .ok (.bipush 7, 2) := by decide +kernel
theorem dL_print_9 : decode cL_print 9 = .ok (.if_icmp .ge 22, 3) := by decide +kernel
theorem dL_print_12 : decode cL_print 12 = .ok (.ldc2_w 144, 3) := by decide +kernel
theorem dL_print_15 : decode cL_print 15 = .ok (.lload_n 1, 1) := by decide +kernel
theorem dL_print_16 : decode cL_print 16 = .ok (.lmul, 1) := by decide +kernel
theorem dL_print_17 : decode cL_print 17 = .ok (.aload_n 0, 1) := by decide +kernel
theorem dL_print_18 : decode cL_print 18 = .ok (.iload_n 3, 1) := by decide +kernel
theorem dL_print_19 : decode cL_print 19 = .ok (.invokestatic 127, 3) := by decide +kernel
theorem dL_print_22 : decode cL_print 22 = .ok (.i2l, 1) := by decide +kernel
theorem dL_print_23 : decode cL_print 23 = .ok (.ladd, 1) := by decide +kernel
theorem dL_print_24 : decode cL_print 24 = .ok (.lstore_n 1, 1) := by decide +kernel
theorem dL_print_25 : decode cL_print 25 = .ok (.iinc 3 1, 3) := by decide +kernel
theorem dL_print_28 : decode cL_print 28 = .ok (.goto (-22), 3) := by decide +kernel
theorem dL_print_31 : decode cL_print 31 = .ok (.iconst 0, 1) := by decide +kernel
theorem dL_print_32 : decode cL_print 32 = .ok (.istore_n 3, 1) := by decide +kernel
