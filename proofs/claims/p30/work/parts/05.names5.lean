theorem dX5_count_115 : decode cX5_count 115 = .ok (.dup, 1) := by decide +kernel
theorem dX5_count_116 : decode cX5_count 116 = .ok (.ldc 213, 2) := by decide +kernel
theorem dX5_count_118 : decode cX5_count 118 = .ok (.invokespecial 141, 3) := by decide +kernel
theorem dX5_count_121 : decode cX5_count 121 = .ok (.athrow, 1) := by decide +kernel
set_option maxRecDepth 20000 in
theorem ggX5_fewest_X5_needPainter : GoodIn wsX5_fewest wsX5_needPainter := goodIn_ca (goodIn_r _ [6, 7, 8] (by decide +kernel) (by decide +kernel)) (goodIn_sub (fun _ h => List.mem_cons_of_mem _ (List.mem_append_left _ (List.mem_append_right _ h))) (by decide +kernel))
set_option maxRecDepth 20000 in
theorem gX5_fewest_X5_needPainter : GoodIn wsX5_fewest (va_wsS RX5 63 yX5_needPainter wsX5_needPainter) := goodIn_app (goodIn_of _ (by decide +kernel)) ggX5_fewest_X5_needPainter
set_option maxRecDepth 20000 in
theorem ggX5_fewest_X5_needWithin : GoodIn wsX5_fewest wsX5_needWithin := goodIn_ca (goodIn_r _ [11, 12, 13] (by decide +kernel) (by decide +kernel)) (goodIn_sub (fun _ h => List.mem_cons_of_mem _ (List.mem_append_right _ h)) (by decide +kernel))
set_option maxRecDepth 20000 in
theorem gX5_fewest_X5_needWithin : GoodIn wsX5_fewest (va_wsS RX5 41 yX5_needWithin wsX5_needWithin) := goodIn_app (goodIn_of _ (by decide +kernel)) ggX5_fewest_X5_needWithin
set_option maxRecDepth 20000 in
theorem ggX5_fewest_X2_look : GoodIn wsX5_fewest wsX2_look := goodIn_r _ [18, 19, 20, 21, 22, 23, 24, 25, 26, 27, 28, 29, 30, 31, 32, 33, 34, 35, 36, 37, 38, 39, 40, 41, 42, 43, 69, 70, 71, 72, 73, 74, 75, 76, 77, 78, 79, 80, 81, 82] (by decide +kernel) (by decide +kernel)
set_option maxRecDepth 20000 in
theorem gX5_fewest_X2_look : GoodIn wsX5_fewest (wsV RX5 215 RX2 yX2_look wsX2_look) := goodIn_app (goodIn_of _ (by decide +kernel)) ggX5_fewest_X2_look
set_option maxRecDepth 20000 in
theorem ggX5_fewest_X2_fewestBySets : GoodIn wsX5_fewest wsX2_fewestBySets := goodIn_r _ [47, 48, 49, 19, 50, 51, 52, 17, 53, 54, 55, 39, 56, 69, 70, 71, 72] (by decide +kernel) (by decide +kernel)
set_option maxRecDepth 20000 in
theorem gX5_fewest_X2_fewestBySets : GoodIn wsX5_fewest (wsV RX5 219 RX2 yX2_fewestBySets wsX2_fewestBySets) := goodIn_app (goodIn_of _ (by decide +kernel)) ggX5_fewest_X2_fewestBySets
set_option maxRecDepth 20000 in
theorem ggX5_fewest_X2_fewestByTrying : GoodIn wsX5_fewest wsX2_fewestByTrying := goodIn_r _ [60, 19, 61, 62, 63, 17, 64, 69, 70, 71, 72] (by decide +kernel) (by decide +kernel)
set_option maxRecDepth 20000 in
theorem gX5_fewest_X2_fewestByTrying : GoodIn wsX5_fewest (wsV RX5 222 RX2 yX2_fewestByTrying wsX2_fewestByTrying) := goodIn_app (goodIn_of _ (by decide +kernel)) ggX5_fewest_X2_fewestByTrying
theorem dX5_fewest_0 : decode cX5_fewest 0 = .ok (.iload_n 1, 1) := by decide +kernel
theorem dX5_fewest_1 : decode cX5_fewest 1 = .ok (.invokestatic 63, 3) := by decide +kernel
theorem dX5_fewest_4 : decode cX5_fewest 4 = .ok (.iload_n 2, 1) := by decide +kernel
theorem dX5_fewest_5 : decode cX5_fewest 5 = .ok (.iconst 0, 1) := by decide +kernel
theorem dX5_fewest_6 : decode cX5_fewest 6 = .ok (.iconst 1, 1) := by decide +kernel
theorem dX5_fewest_7 : decode cX5_fewest 7 = .ok (.invokestatic 41, 3) := by decide +kernel
theorem dX5_fewest_10 : decode cX5_fewest 10 = .ok (.aload_n 0, 1) := by decide +kernel
theorem dX5_fewest_11 : decode cX5_fewest 11 = .ok (.getfield 33, 3) := by decide +kernel
theorem dX5_fewest_14 : decode cX5_fewest 14 = .ok (.aload_n 0, 1) := by decide +kernel
theorem dX5_fewest_15 : decode cX5_fewest 15 = .ok (.getfield 12, 3) := by decide +kernel
theorem dX5_fewest_18 : decode cX5_fewest 18 = .ok (.iload_n 1, 1) := by decide +kernel
theorem dX5_fewest_19 : decode cX5_fewest 19 = .ok (.invokevirtual 215, 3) := by decide +kernel
theorem dX5_fewest_22 : decode cX5_fewest 22 = .ok (.iload_n 2, 1) := by decide +kernel
theorem dX5_fewest_23 : decode cX5_fewest 23 = .ok (.ifCond .ne 13, 3) := by decide +kernel
theorem dX5_fewest_26 : decode cX5_fewest 26 = .ok (.aload_n 0, 1) := by decide +kernel
theorem dX5_fewest_27 : decode cX5_fewest 27 = .ok (.getfield 33, 3) := by decide +kernel
theorem dX5_fewest_30 : decode cX5_fewest 30 = .ok (.invokevirtual 219, 3) := by decide +kernel
theorem dX5_fewest_33 : decode cX5_fewest 33 = .ok (.goto 10, 3) := by decide +kernel
theorem dX5_fewest_36 : decode cX5_fewest 36 = .ok (.aload_n 0, 1) := by decide +kernel
theorem dX5_fewest_37 : decode cX5_fewest 37 = .ok (.getfield 33, 3) := by decide +kernel
theorem dX5_fewest_40 : decode cX5_fewest 40 = .ok (.invokevirtual 222, 3) := by decide +kernel
theorem dX5_fewest_43 : decode cX5_fewest 43 = .ok (.ireturn, 1) := by decide +kernel
set_option maxRecDepth 20000 in
theorem ggX5_ifBorrowed_X5_needPainter : GoodIn wsX5_ifBorrowed wsX5_needPainter := goodIn_ca (goodIn_r _ [5, 6, 7] (by decide +kernel) (by decide +kernel)) (goodIn_sub (fun _ h => List.mem_cons_of_mem _ (List.mem_append_right _ h)) (by decide +kernel))
set_option maxRecDepth 20000 in
theorem gX5_ifBorrowed_X5_needPainter : GoodIn wsX5_ifBorrowed (va_wsS RX5 63 yX5_needPainter wsX5_needPainter) := goodIn_app (goodIn_of _ (by decide +kernel)) ggX5_ifBorrowed_X5_needPainter
set_option maxRecDepth 20000 in
theorem ggX5_ifBorrowed_X0_pairsTold : GoodIn wsX5_ifBorrowed wsX0_pairsTold := goodIn_r _ [12, 13, 14, 15, 16, 11, 17, 18, 19, 20, 21, 22, 23, 24, 25, 26, 27, 28, 29, 30, 35, 36, 37, 38, 39, 40, 41, 42, 43, 44] (by decide +kernel) (by decide +kernel)
set_option maxRecDepth 20000 in
theorem gX5_ifBorrowed_X0_pairsTold : GoodIn wsX5_ifBorrowed (wsV RX5 145 RX0 yX0_pairsTold wsX0_pairsTold) := goodIn_app (goodIn_of _ (by decide +kernel)) ggX5_ifBorrowed_X0_pairsTold
theorem dX5_ifBorrowed_0 : decode cX5_ifBorrowed 0 = .ok (.iload_n 1, 1) := by decide +kernel
theorem dX5_ifBorrowed_1 : decode cX5_ifBorrowed 1 = .ok (.invokestatic 63, 3) := by decide +kernel
theorem dX5_ifBorrowed_4 : decode cX5_ifBorrowed 4 = .ok (.iload_n 2, 1) := by decide +kernel
theorem dX5_ifBorrowed_5 : decode cX5_ifBorrowed 5 = .ok (.invokestatic 63, 3) := by decide +kernel
theorem dX5_ifBorrowed_8 : decode cX5_ifBorrowed 8 = .ok (.aload_n 0, 1) := by decide +kernel
theorem dX5_ifBorrowed_9 : decode cX5_ifBorrowed 9 = .ok (.getfield 12, 3) := by decide +kernel
theorem dX5_ifBorrowed_12 : decode cX5_ifBorrowed 12 = .ok (.iload_n 1, 1) := by decide +kernel
theorem dX5_ifBorrowed_13 : decode cX5_ifBorrowed 13 = .ok (.iload_n 2, 1) := by decide +kernel
theorem dX5_ifBorrowed_14 : decode cX5_ifBorrowed 14 = .ok (.invokevirtual 145, 3) := by decide +kernel
theorem dX5_ifBorrowed_17 : decode cX5_ifBorrowed 17 = .ok (.ireturn, 1) := by decide +kernel
set_option maxRecDepth 20000 in
theorem ggX5_leastChange_X5_needPainter : GoodIn wsX5_leastChange wsX5_needPainter := goodIn_ca (goodIn_r _ [5, 6, 7] (by decide +kernel) (by decide +kernel)) (goodIn_sub (fun _ h => List.mem_cons_of_mem _ (List.mem_append_left _ (List.mem_append_right _ h))) (by decide +kernel))
set_option maxRecDepth 20000 in
theorem gX5_leastChange_X5_needPainter : GoodIn wsX5_leastChange (va_wsS RX5 63 yX5_needPainter wsX5_needPainter) := goodIn_app (goodIn_of _ (by decide +kernel)) ggX5_leastChange_X5_needPainter
set_option maxRecDepth 20000 in
theorem ggX5_leastChange_X5_needPot : GoodIn wsX5_leastChange wsX5_needPot := goodIn_ca (goodIn_r _ [10, 6, 7] (by decide +kernel) (by decide +kernel)) (goodIn_sub (fun _ h => List.mem_cons_of_mem _ (List.mem_append_left _ (List.mem_append_right _ h))) (by decide +kernel))
set_option maxRecDepth 20000 in
theorem gX5_leastChange_X5_needPot : GoodIn wsX5_leastChange (va_wsS RX5 37 yX5_needPot wsX5_needPot) := goodIn_app (goodIn_of _ (by decide +kernel)) ggX5_leastChange_X5_needPot
set_option maxRecDepth 20000 in
theorem ggX5_leastChange_X5_needUnlike : GoodIn wsX5_leastChange wsX5_needUnlike := goodIn_ca (goodIn_r _ [13, 14, 15] (by decide +kernel) (by decide +kernel)) (goodIn_sub (fun _ h => List.mem_cons_of_mem _ (List.mem_append_right _ h)) (by decide +kernel))
set_option maxRecDepth 20000 in
theorem gX5_leastChange_X5_needUnlike : GoodIn wsX5_leastChange (va_wsS RX5 85 yX5_needUnlike wsX5_needUnlike) := goodIn_app (goodIn_of _ (by decide +kernel)) ggX5_leastChange_X5_needUnlike
set_option maxRecDepth 20000 in
theorem ggX5_leastChange_X0_nearestColour : GoodIn wsX5_leastChange wsX0_nearestColour := goodIn_r _ [20, 21, 22, 23, 24, 25, 26, 27, 28, 29, 30, 31, 32, 33, 34, 35, 36, 37, 38, 39, 19, 40, 41, 42, 43, 49, 50, 51, 52, 53, 54, 55, 56, 57, 58] (by decide +kernel) (by decide +kernel)
set_option maxRecDepth 20000 in
theorem gX5_leastChange_X0_nearestColour : GoodIn wsX5_leastChange (wsV RX5 225 RX0 yX0_nearestColour wsX0_nearestColour) := goodIn_app (goodIn_of _ (by decide +kernel)) ggX5_leastChange_X0_nearestColour
set_option maxRecDepth 20000 in
theorem ggX5_leastChange_X1_change : GoodIn wsX5_leastChange wsX1_change := goodIn_r _ [26, 27, 28, 25, 29, 30, 31, 32, 33, 34, 35, 36] (by decide +kernel) (by decide +kernel)
set_option maxRecDepth 20000 in
theorem gX5_leastChange_X1_change : GoodIn wsX5_leastChange (va_wsS RX5 228 yX1_change wsX1_change) := goodIn_app (goodIn_of _ (by decide +kernel)) ggX5_leastChange_X1_change
theorem dX5_leastChange_0 : decode cX5_leastChange 0 = .ok (.iload_n 1, 1) := by decide +kernel
theorem dX5_leastChange_1 : decode cX5_leastChange 1 = .ok (.invokestatic 63, 3) := by decide +kernel
theorem dX5_leastChange_4 : decode cX5_leastChange 4 = .ok (.iload_n 2, 1) := by decide +kernel
theorem dX5_leastChange_5 : decode cX5_leastChange 5 = .ok (.invokestatic 37, 3) := by decide +kernel
theorem dX5_leastChange_8 : decode cX5_leastChange 8 = .ok (.iload_n 3, 1) := by decide +kernel
theorem dX5_leastChange_9 : decode cX5_leastChange 9 = .ok (.invokestatic 37, 3) := by decide +kernel
theorem dX5_leastChange_12 : decode cX5_leastChange 12 = .ok (.iload_n 2, 1) := by decide +kernel
theorem dX5_leastChange_13 : decode cX5_leastChange 13 = .ok (.iload_n 3, 1) := by decide +kernel
theorem dX5_leastChange_14 : decode cX5_leastChange 14 = .ok (.invokestatic 85, 3) := by decide +kernel
theorem dX5_leastChange_17 : decode cX5_leastChange 17 = .ok (.aload_n 0, 1) := by decide +kernel
theorem dX5_leastChange_18 : decode cX5_leastChange 18 = .ok (.getfield 12, 3) := by decide +kernel
theorem dX5_leastChange_21 : decode cX5_leastChange 21 = .ok (.iload_n 1, 1) := by decide +kernel
theorem dX5_leastChange_22 : decode cX5_leastChange 22 = .ok (.iload_n 2, 1) := by decide +kernel
theorem dX5_leastChange_23 : decode cX5_leastChange 23 = .ok (.iload_n 3, 1) := by decide +kernel
theorem dX5_leastChange_24 : decode cX5_leastChange 24 = .ok (.invokevirtual 225, 3) := by decide +kernel
theorem dX5_leastChange_27 : decode cX5_leastChange 27 = .ok (.istore 4, 2) := by decide +kernel
theorem dX5_leastChange_29 : decode cX5_leastChange 29 = .ok (.iload 4, 2) := by decide +kernel
theorem dX5_leastChange_31 : decode cX5_leastChange 31 = .ok (.iconst (-1), 1) := by decide +kernel
theorem dX5_leastChange_32 : decode cX5_leastChange 32 = .ok (.if_icmp .ne 7, 3) := by decide +kernel
theorem dX5_leastChange_35 : decode cX5_leastChange 35 = .ok (.iconst (-1), 1) := by decide +kernel
theorem dX5_leastChange_36 : decode cX5_leastChange 36 = .ok (.goto 17, 3) := by decide +kernel
theorem dX5_leastChange_39 : decode cX5_leastChange 39 = .ok (.aload_n 0, 1) := by decide +kernel
theorem dX5_leastChange_40 : decode cX5_leastChange 40 = .ok (.getfield 12, 3) := by decide +kernel
theorem dX5_leastChange_43 : decode cX5_leastChange 43 = .ok (.getfield 49, 3) := by decide +kernel
theorem dX5_leastChange_46 : decode cX5_leastChange 46 = .ok (.iload_n 2, 1) := by decide +kernel
theorem dX5_leastChange_47 : decode cX5_leastChange 47 = .ok (.iaload, 1) := by decide +kernel
theorem dX5_leastChange_48 : decode cX5_leastChange 48 = .ok (.iload 4, 2) := by decide +kernel
theorem dX5_leastChange_50 : decode cX5_leastChange 50 = .ok (.invokestatic 228, 3) := by decide +kernel
theorem dX5_leastChange_53 : decode cX5_leastChange 53 = .ok (.ireturn, 1) := by decide +kernel
set_option maxRecDepth 20000 in
theorem ggX5_bestPainter_X0_pairsTold : GoodIn wsX5_bestPainter wsX0_pairsTold := goodIn_r _ [6, 7, 8, 9, 10, 5, 11, 12, 13, 14, 15, 16, 17, 18, 19, 20, 21, 22, 23, 24, 29, 30, 31, 32, 33, 34, 35, 36, 37, 38] (by decide +kernel) (by decide +kernel)
set_option maxRecDepth 20000 in
theorem gX5_bestPainter_X0_pairsTold : GoodIn wsX5_bestPainter (wsV RX5 145 RX0 yX0_pairsTold wsX0_pairsTold) := goodIn_app (goodIn_of _ (by decide +kernel)) ggX5_bestPainter_X0_pairsTold
theorem dX5_bestPainter_0 : decode cX5_bestPainter 0 = .ok (.iconst 0, 1) := by decide +kernel
theorem dX5_bestPainter_1 : decode cX5_bestPainter 1 = .ok (.istore_n 1, 1) := by decide +kernel
theorem dX5_bestPainter_2 : decode cX5_bestPainter 2 = .ok (.iconst (-1), 1) := by decide +kernel
theorem dX5_bestPainter_3 : decode cX5_bestPainter 3 = .ok (.istore_n 2, 1) := by decide +kernel
theorem dX5_bestPainter_4 : decode cX5_bestPainter 4 = .ok (.iconst 0, 1) := by decide +kernel
theorem dX5_bestPainter_5 : decode cX5_bestPainter 5 = .ok (.istore_n 3, 1) := by decide +kernel
theorem dX5_bestPainter_6 : decode cX5_bestPainter 6 = .ok (.iload_n 3, 1) := by decide +kernel
theorem dX5_bestPainter_7 : decode cX5_bestPainter 7 = .ok (.iconst 4, 1) := by decide +kernel
theorem dX5_bestPainter_8 : decode cX5_bestPainter 8 = .ok (.if_icmp .ge 39, 3) := by decide +kernel
theorem dX5_bestPainter_11 : decode cX5_bestPainter 11 = .ok (.aload_n 0, 1) := by decide +kernel
theorem dX5_bestPainter_12 : decode cX5_bestPainter 12 = .ok (.getfield 12, 3) := by decide +kernel
theorem dX5_bestPainter_15 : decode cX5_bestPainter 15 = .ok (.iload_n 3, 1) := by decide +kernel
theorem dX5_bestPainter_16 : decode cX5_bestPainter 16 = .ok (.aload_n 0, 1) := by decide +kernel
theorem dX5_bestPainter_17 : decode cX5_bestPainter 17 = .ok (.getfield 12, 3) := by decide +kernel
theorem dX5_bestPainter_20 : decode cX5_bestPainter 20 = .ok (.getfield 72, 3) := by decide +kernel
theorem dX5_bestPainter_23 : decode cX5_bestPainter 23 = .ok (.iload_n 3, 1) := by decide +kernel
theorem dX5_bestPainter_24 : decode cX5_bestPainter 24 = .ok (.iaload, 1) := by decide +kernel
theorem dX5_bestPainter_25 : decode cX5_bestPainter 25 = .ok (.invokevirtual 145, 3) := by decide +kernel
theorem dX5_bestPainter_28 : decode cX5_bestPainter 28 = .ok (.istore 4, 2) := by decide +kernel
theorem dX5_bestPainter_30 : decode cX5_bestPainter 30 = .ok (.iload 4, 2) := by decide +kernel
theorem dX5_bestPainter_32 : decode cX5_bestPainter 32 = .ok (.iload_n 2, 1) := by decide +kernel
theorem dX5_bestPainter_33 : decode cX5_bestPainter 33 = .ok (.if_icmp .le 8, 3) := by decide +kernel
theorem dX5_bestPainter_36 : decode cX5_bestPainter 36 = .ok (.iload_n 3, 1) := by decide +kernel
theorem dX5_bestPainter_37 : decode cX5_bestPainter 37 = .ok (.istore_n 1, 1) := by decide +kernel
theorem dX5_bestPainter_38 : decode cX5_bestPainter 38 = .ok (.iload 4, 2) := by decide +kernel
theorem dX5_bestPainter_40 : decode cX5_bestPainter 40 = .ok (.istore_n 2, 1) := by decide +kernel
theorem dX5_bestPainter_41 : decode cX5_bestPainter 41 = .ok (.iinc 3 1, 3) := by decide +kernel
theorem dX5_bestPainter_44 : decode cX5_bestPainter 44 = .ok (.goto (-38), 3) := by decide +kernel
theorem dX5_bestPainter_47 : decode cX5_bestPainter 47 = .ok (.iload_n 1, 1) := by decide +kernel
theorem dX5_bestPainter_48 : decode cX5_bestPainter 48 = .ok (.ireturn, 1) := by decide +kernel
set_option maxRecDepth 20000 in
theorem ggX5_apartShare_X0_pairsTold : GoodIn wsX5_apartShare wsX0_pairsTold := goodIn_r _ [7, 8, 9, 10, 11, 6, 12, 13, 14, 15, 16, 17, 18, 19, 20, 21, 22, 23, 24, 25, 30, 31, 32, 33, 34, 35, 36, 37, 38, 39] (by decide +kernel) (by decide +kernel)
set_option maxRecDepth 20000 in
theorem gX5_apartShare_X0_pairsTold : GoodIn wsX5_apartShare (wsV RX5 145 RX0 yX0_pairsTold wsX0_pairsTold) := goodIn_app (goodIn_of _ (by decide +kernel)) ggX5_apartShare_X0_pairsTold
theorem dX5_apartShare_0 : decode cX5_apartShare 0 = .ok (.iconst 0, 1) := by decide +kernel
theorem dX5_apartShare_1 : decode cX5_apartShare 1 = .ok (.istore_n 1, 1) := by decide +kernel
theorem dX5_apartShare_2 : decode cX5_apartShare 2 = .ok (.iconst 0, 1) := by decide +kernel
theorem dX5_apartShare_3 : decode cX5_apartShare 3 = .ok (.istore_n 2, 1) := by decide +kernel
theorem dX5_apartShare_4 : decode cX5_apartShare 4 = .ok (.iload_n 2, 1) := by decide +kernel
theorem dX5_apartShare_5 : decode cX5_apartShare 5 = .ok (.iconst 4, 1) := by decide +kernel
theorem dX5_apartShare_6 : decode cX5_apartShare 6 = .ok (.if_icmp .ge 29, 3) := by decide +kernel
theorem dX5_apartShare_9 : decode cX5_apartShare 9 = .ok (.iload_n 1, 1) := by decide +kernel
theorem dX5_apartShare_10 : decode cX5_apartShare 10 = .ok (.aload_n 0, 1) := by decide +kernel
theorem dX5_apartShare_11 : decode cX5_apartShare 11 = .ok (.getfield 12, 3) := by decide +kernel
theorem dX5_apartShare_14 : decode cX5_apartShare 14 = .ok (.iload_n 2, 1) := by decide +kernel
theorem dX5_apartShare_15 : decode cX5_apartShare 15 = .ok (.aload_n 0, 1) := by decide +kernel
theorem dX5_apartShare_16 : decode cX5_apartShare 16 = .ok (.getfield 12, 3) := by decide +kernel
theorem dX5_apartShare_19 : decode cX5_apartShare 19 = .ok (.getfield 72, 3) := by decide +kernel
theorem dX5_apartShare_22 : decode cX5_apartShare 22 = .ok (.iload_n 2, 1) := by decide +kernel
theorem dX5_apartShare_23 : decode cX5_apartShare 23 = .ok (.iaload, 1) := by decide +kernel
theorem dX5_apartShare_24 : decode cX5_apartShare 24 = .ok (.invokevirtual 145, 3) := by decide +kernel
theorem dX5_apartShare_27 : decode cX5_apartShare 27 = .ok (.iadd, 1) := by decide +kernel
theorem dX5_apartShare_28 : decode cX5_apartShare 28 = .ok (.istore_n 1, 1) := by decide +kernel
theorem dX5_apartShare_29 : decode cX5_apartShare 29 = .ok (.iinc 2 1, 3) := by decide +kernel
theorem dX5_apartShare_32 : decode cX5_apartShare 32 = .ok (.goto (-28), 3) := by decide +kernel
theorem dX5_apartShare_35 : decode cX5_apartShare 35 = .ok (.iload_n 1, 1) := by decide +kernel
theorem dX5_apartShare_36 : decode cX5_apartShare 36 = .ok (.i2d, 1) := by decide +kernel
theorem dX5_apartShare_37 : decode cX5_apartShare 37 = .ok (.ldc2_w 231, 3) := by decide +kernel
theorem dX5_apartShare_40 : decode cX5_apartShare 40 = .ok (.ddiv, 1) := by decide +kernel
theorem dX5_apartShare_41 : decode cX5_apartShare 41 = .ok (.dreturn, 1) := by decide +kernel
theorem dX5_needPot_0 : decode cX5_needPot 0 = .ok (.iload_n 0, 1) := by decide +kernel
theorem dX5_needPot_1 : decode cX5_needPot 1 = .ok (.ifCond .lt 9, 3) := by decide +kernel
theorem dX5_needPot_4 : decode cX5_needPot 4 = .ok (.iload_n 0, 1) := by decide +kernel
theorem dX5_needPot_5 : decode cX5_needPot 5 = .ok (.bipush 8, 2) := by decide +kernel
theorem dX5_needPot_7 : decode cX5_needPot 7 = .ok (.if_icmp .lt 14, 3) := by decide +kernel
theorem dX5_needPot_10 : decode cX5_needPot 10 = .ok (.new 298, 3) := by decide +kernel
theorem dX5_needPot_13 : decode cX5_needPot 13 = .ok (.dup, 1) := by decide +kernel
theorem dX5_needPot_14 : decode cX5_needPot 14 = .ok (.ldc_w 300, 3) := by decide +kernel
theorem dX5_needPot_17 : decode cX5_needPot 17 = .ok (.invokespecial 302, 3) := by decide +kernel
theorem dX5_needPot_20 : decode cX5_needPot 20 = .ok (.athrow, 1) := by decide +kernel
theorem dX5_needPot_21 : decode cX5_needPot 21 = .ok (.return_, 1) := by decide +kernel
theorem dX5_needPainter_0 : decode cX5_needPainter 0 = .ok (.iload_n 0, 1) := by decide +kernel
theorem dX5_needPainter_1 : decode cX5_needPainter 1 = .ok (.ifCond .lt 8, 3) := by decide +kernel
theorem dX5_needPainter_4 : decode cX5_needPainter 4 = .ok (.iload_n 0, 1) := by decide +kernel
theorem dX5_needPainter_5 : decode cX5_needPainter 5 = .ok (.iconst 4, 1) := by decide +kernel
theorem dX5_needPainter_6 : decode cX5_needPainter 6 = .ok (.if_icmp .lt 14, 3) := by decide +kernel
theorem dX5_needPainter_9 : decode cX5_needPainter 9 = .ok (.new 298, 3) := by decide +kernel
theorem dX5_needPainter_12 : decode cX5_needPainter 12 = .ok (.dup, 1) := by decide +kernel
theorem dX5_needPainter_13 : decode cX5_needPainter 13 = .ok (.ldc_w 303, 3) := by decide +kernel
theorem dX5_needPainter_16 : decode cX5_needPainter 16 = .ok (.invokespecial 302, 3) := by decide +kernel
theorem dX5_needPainter_19 : decode cX5_needPainter 19 = .ok (.athrow, 1) := by decide +kernel
theorem dX5_needPainter_20 : decode cX5_needPainter 20 = .ok (.return_, 1) := by decide +kernel
theorem dX5_needChart_0 : decode cX5_needChart 0 = .ok (.iload_n 1, 1) := by decide +kernel
theorem dX5_needChart_1 : decode cX5_needChart 1 = .ok (.ifCond .lt 14, 3) := by decide +kernel
theorem dX5_needChart_4 : decode cX5_needChart 4 = .ok (.iload_n 1, 1) := by decide +kernel
theorem dX5_needChart_5 : decode cX5_needChart 5 = .ok (.aload_n 0, 1) := by decide +kernel
theorem dX5_needChart_6 : decode cX5_needChart 6 = .ok (.getfield 12, 3) := by decide +kernel
theorem dX5_needChart_9 : decode cX5_needChart 9 = .ok (.getfield 198, 3) := by decide +kernel
theorem dX5_needChart_12 : decode cX5_needChart 12 = .ok (.if_icmp .lt 14, 3) := by decide +kernel
theorem dX5_needChart_15 : decode cX5_needChart 15 = .ok (.new 298, 3) := by decide +kernel
theorem dX5_needChart_18 : decode cX5_needChart 18 = .ok (.dup, 1) := by decide +kernel
theorem dX5_needChart_19 : decode cX5_needChart 19 = .ok (.ldc_w 305, 3) := by decide +kernel
theorem dX5_needChart_22 : decode cX5_needChart 22 = .ok (.invokespecial 302, 3) := by decide +kernel
theorem dX5_needChart_25 : decode cX5_needChart 25 = .ok (.athrow, 1) := by decide +kernel
theorem dX5_needChart_26 : decode cX5_needChart 26 = .ok (.return_, 1) := by decide +kernel
theorem dX5_needWithin_0 : decode cX5_needWithin 0 = .ok (.iload_n 0, 1) := by decide +kernel
theorem dX5_needWithin_1 : decode cX5_needWithin 1 = .ok (.iload_n 1, 1) := by decide +kernel
theorem dX5_needWithin_2 : decode cX5_needWithin 2 = .ok (.if_icmp .lt 8, 3) := by decide +kernel
theorem dX5_needWithin_5 : decode cX5_needWithin 5 = .ok (.iload_n 0, 1) := by decide +kernel
theorem dX5_needWithin_6 : decode cX5_needWithin 6 = .ok (.iload_n 2, 1) := by decide +kernel
theorem dX5_needWithin_7 : decode cX5_needWithin 7 = .ok (.if_icmp .le 14, 3) := by decide +kernel
theorem dX5_needWithin_10 : decode cX5_needWithin 10 = .ok (.new 137, 3) := by decide +kernel
theorem dX5_needWithin_13 : decode cX5_needWithin 13 = .ok (.dup, 1) := by decide +kernel
theorem dX5_needWithin_14 : decode cX5_needWithin 14 = .ok (.ldc_w 307, 3) := by decide +kernel
theorem dX5_needWithin_17 : decode cX5_needWithin 17 = .ok (.invokespecial 141, 3) := by decide +kernel
theorem dX5_needWithin_20 : decode cX5_needWithin 20 = .ok (.athrow, 1) := by decide +kernel
theorem dX5_needWithin_21 : decode cX5_needWithin 21 = .ok (.return_, 1) := by decide +kernel
theorem dX5_needUnlike_0 : decode cX5_needUnlike 0 = .ok (.iload_n 0, 1) := by decide +kernel
theorem dX5_needUnlike_1 : decode cX5_needUnlike 1 = .ok (.iload_n 1, 1) := by decide +kernel
theorem dX5_needUnlike_2 : decode cX5_needUnlike 2 = .ok (.if_icmp .ne 14, 3) := by decide +kernel
theorem dX5_needUnlike_5 : decode cX5_needUnlike 5 = .ok (.new 137, 3) := by decide +kernel
theorem dX5_needUnlike_8 : decode cX5_needUnlike 8 = .ok (.dup, 1) := by decide +kernel
theorem dX5_needUnlike_9 : decode cX5_needUnlike 9 = .ok (.ldc_w 309, 3) := by decide +kernel
theorem dX5_needUnlike_12 : decode cX5_needUnlike 12 = .ok (.invokespecial 141, 3) := by decide +kernel
theorem dX5_needUnlike_15 : decode cX5_needUnlike 15 = .ok (.athrow, 1) := by decide +kernel
theorem dX5_needUnlike_16 : decode cX5_needUnlike 16 = .ok (.return_, 1) := by decide +kernel
theorem dJ6_bitCount_0f7a4_0 : decode cJ6_bitCount_0f7a4 0 = .ok (.iload_n 0, 1) := by decide +kernel
theorem dJ6_bitCount_0f7a4_1 : decode cJ6_bitCount_0f7a4 1 = .ok (.iload_n 0, 1) := by decide +kernel
theorem dJ6_bitCount_0f7a4_2 : decode cJ6_bitCount_0f7a4 2 = .ok (.iconst 1, 1) := by decide +kernel
theorem dJ6_bitCount_0f7a4_3 : decode cJ6_bitCount_0f7a4 3 = .ok (.iushr, 1) := by decide +kernel
theorem dJ6_bitCount_0f7a4_4 : decode cJ6_bitCount_0f7a4 4 = .ok (.ldc_w 265, 3) := by decide +kernel
theorem dJ6_bitCount_0f7a4_7 : decode cJ6_bitCount_0f7a4 7 = .ok (.iand, 1) := by decide +kernel
theorem dJ6_bitCount_0f7a4_8 : decode cJ6_bitCount_0f7a4 8 = .ok (.isub, 1) := by decide +kernel
theorem dJ6_bitCount_0f7a4_9 : decode cJ6_bitCount_0f7a4 9 = .ok (.istore_n 0, 1) := by decide +kernel
theorem dJ6_bitCount_0f7a4_10 : decode cJ6_bitCount_0f7a4 10 = .ok (.iload_n 0, 1) := by decide +kernel
theorem dJ6_bitCount_0f7a4_11 : decode cJ6_bitCount_0f7a4 11 = .ok (.ldc_w 266, 3) := by decide +kernel
theorem dJ6_bitCount_0f7a4_14 : decode cJ6_bitCount_0f7a4 14 = .ok (.iand, 1) := by decide +kernel
theorem dJ6_bitCount_0f7a4_15 : decode cJ6_bitCount_0f7a4 15 = .ok (.iload_n 0, 1) := by decide +kernel
theorem dJ6_bitCount_0f7a4_16 : decode cJ6_bitCount_0f7a4 16 = .ok (.iconst 2, 1) := by decide +kernel
theorem dJ6_bitCount_0f7a4_17 : decode cJ6_bitCount_0f7a4 17 = .ok (.iushr, 1) := by decide +kernel
theorem dJ6_bitCount_0f7a4_18 : decode cJ6_bitCount_0f7a4 18 = .ok (.ldc_w 266, 3) := by decide +kernel
theorem dJ6_bitCount_0f7a4_21 : decode cJ6_bitCount_0f7a4 21 = .ok (.iand, 1) := by decide +kernel
theorem dJ6_bitCount_0f7a4_22 : decode cJ6_bitCount_0f7a4 22 = .ok (.iadd, 1) := by decide +kernel
theorem dJ6_bitCount_0f7a4_23 : decode cJ6_bitCount_0f7a4 23 = .ok (.istore_n 0, 1) := by decide +kernel
theorem dJ6_bitCount_0f7a4_24 : decode cJ6_bitCount_0f7a4 24 = .ok (.iload_n 0, 1) := by decide +kernel
theorem dJ6_bitCount_0f7a4_25 : decode cJ6_bitCount_0f7a4 25 = .ok (.iload_n 0, 1) := by decide +kernel
theorem dJ6_bitCount_0f7a4_26 : decode cJ6_bitCount_0f7a4 26 = .ok (.iconst 4, 1) := by decide +kernel
theorem dJ6_bitCount_0f7a4_27 : decode cJ6_bitCount_0f7a4 27 = .ok (.iushr, 1) := by decide +kernel
theorem dJ6_bitCount_0f7a4_28 : decode cJ6_bitCount_0f7a4 28 = .ok (.iadd, 1) := by decide +kernel
theorem dJ6_bitCount_0f7a4_29 : decode cJ6_bitCount_0f7a4 29 = .ok (.ldc_w 267, 3) := by decide +kernel
theorem dJ6_bitCount_0f7a4_32 : decode cJ6_bitCount_0f7a4 32 = .ok (.iand, 1) := by decide +kernel
theorem dJ6_bitCount_0f7a4_33 : decode cJ6_bitCount_0f7a4 33 = .ok (.istore_n 0, 1) := by decide +kernel
theorem dJ6_bitCount_0f7a4_34 : decode cJ6_bitCount_0f7a4 34 = .ok (.iload_n 0, 1) := by decide +kernel
theorem dJ6_bitCount_0f7a4_35 : decode cJ6_bitCount_0f7a4 35 = .ok (.iload_n 0, 1) := by decide +kernel
theorem dJ6_bitCount_0f7a4_36 : decode cJ6_bitCount_0f7a4 36 = .ok (.bipush 8, 2) := by decide +kernel
theorem dJ6_bitCount_0f7a4_38 : decode cJ6_bitCount_0f7a4 38 = .ok (.iushr, 1) := by decide +kernel
theorem dJ6_bitCount_0f7a4_39 : decode cJ6_bitCount_0f7a4 39 = .ok (.iadd, 1) := by decide +kernel
theorem dJ6_bitCount_0f7a4_40 : decode cJ6_bitCount_0f7a4 40 = .ok (.istore_n 0, 1) := by decide +kernel
theorem dJ6_bitCount_0f7a4_41 : decode cJ6_bitCount_0f7a4 41 = .ok (.iload_n 0, 1) := by decide +kernel
theorem dJ6_bitCount_0f7a4_42 : decode cJ6_bitCount_0f7a4 42 = .ok (.iload_n 0, 1) := by decide +kernel
theorem dJ6_bitCount_0f7a4_43 : decode cJ6_bitCount_0f7a4 43 = .ok (.bipush 16, 2) := by decide +kernel
theorem dJ6_bitCount_0f7a4_45 : decode cJ6_bitCount_0f7a4 45 = .ok (.iushr, 1) := by decide +kernel
theorem dJ6_bitCount_0f7a4_46 : decode cJ6_bitCount_0f7a4 46 = .ok (.iadd, 1) := by decide +kernel
theorem dJ6_bitCount_0f7a4_47 : decode cJ6_bitCount_0f7a4 47 = .ok (.istore_n 0, 1) := by decide +kernel
theorem dJ6_bitCount_0f7a4_48 : decode cJ6_bitCount_0f7a4 48 = .ok (.iload_n 0, 1) := by decide +kernel
theorem dJ6_bitCount_0f7a4_49 : decode cJ6_bitCount_0f7a4 49 = .ok (.bipush 63, 2) := by decide +kernel
theorem dJ6_bitCount_0f7a4_51 : decode cJ6_bitCount_0f7a4 51 = .ok (.iand, 1) := by decide +kernel
theorem dJ6_bitCount_0f7a4_52 : decode cJ6_bitCount_0f7a4 52 = .ok (.ireturn, 1) := by decide +kernel
theorem dJ9_abs_0f7a4_0 : decode cJ9_abs_0f7a4 0 = .ok (.iload_n 0, 1) := by decide +kernel
theorem dJ9_abs_0f7a4_1 : decode cJ9_abs_0f7a4 1 = .ok (.ifCond .ge 8, 3) := by decide +kernel
theorem dJ9_abs_0f7a4_4 : decode cJ9_abs_0f7a4 4 = .ok (.iload_n 0, 1) := by decide +kernel
theorem dJ9_abs_0f7a4_5 : decode cJ9_abs_0f7a4 5 = .ok (.ineg, 1) := by decide +kernel
theorem dJ9_abs_0f7a4_6 : decode cJ9_abs_0f7a4 6 = .ok (.goto 4, 3) := by decide +kernel
theorem dJ9_abs_0f7a4_9 : decode cJ9_abs_0f7a4 9 = .ok (.iload_n 0, 1) := by decide +kernel
theorem dJ9_abs_0f7a4_10 : decode cJ9_abs_0f7a4 10 = .ok (.ireturn, 1) := by decide +kernel
theorem dJ9_min_7cf53_0 : decode cJ9_min_7cf53 0 = .ok (.iload_n 0, 1) := by decide +kernel
theorem dJ9_min_7cf53_1 : decode cJ9_min_7cf53 1 = .ok (.iload_n 1, 1) := by decide +kernel
theorem dJ9_min_7cf53_2 : decode cJ9_min_7cf53 2 = .ok (.if_icmp .gt 7, 3) := by decide +kernel
theorem dJ9_min_7cf53_5 : decode cJ9_min_7cf53 5 = .ok (.iload_n 0, 1) := by decide +kernel
theorem dJ9_min_7cf53_6 : decode cJ9_min_7cf53 6 = .ok (.goto 4, 3) := by decide +kernel
theorem dJ9_min_7cf53_9 : decode cJ9_min_7cf53 9 = .ok (.iload_n 1, 1) := by decide +kernel
theorem dJ9_min_7cf53_10 : decode cJ9_min_7cf53 10 = .ok (.ireturn, 1) := by decide +kernel
theorem dL_at_0 : decode cL_at 0 = .ok (.iload_n 1, 1) := by decide +kernel
theorem dL_at_1 : decode cL_at 1 = .ok (.aload_n 0, 1) := by decide +kernel
theorem dL_at_2 : decode cL_at 2 = .ok (.arraylength, 1) := by decide +kernel
theorem dL_at_3 : decode cL_at 3 = .ok (.if_icmp .ge 9, 3) := by decide +kernel
theorem dL_at_6 : decode cL_at 6 = .ok (.aload_n 0, 1) := by decide +kernel
theorem dL_at_7 : decode cL_at 7 = .ok (.iload_n 1, 1) := by decide +kernel
theorem dL_at_8 : decode cL_at 8 = .ok (.iaload, 1) := by decide +kernel
theorem dL_at_9 : decode cL_at 9 = .ok (.goto 12, 3) := by decide +kernel
theorem dL_at_12 : decode cL_at 12 = .ok (.ldc 7, 2) := by decide +kernel
theorem dL_at_14 : decode cL_at 14 = .ok (.iload_n 1, 1) := by decide +kernel
theorem dL_at_15 : decode cL_at 15 = .ok (.iconst 1, 1) := by decide +kernel
theorem dL_at_16 : decode cL_at 16 = .ok (.iadd, 1) := by decide +kernel
theorem dL_at_17 : decode cL_at 17 = .ok (.imul, 1) := by decide +kernel
theorem dL_at_18 : decode cL_at 18 = .ok (.ldc 8, 2) := by decide +kernel
theorem dL_at_20 : decode cL_at 20 = .ok (.iadd, 1) := by decide +kernel
theorem dL_at_21 : decode cL_at 21 = .ok (.ireturn, 1) := by decide +kernel
theorem dL_low_0 : decode cL_low 0 = .ok (.iload_n 0, 1) := by decide +kernel
theorem dL_low_1 : decode cL_low 1 = .ok (.ldc 9, 2) := by decide +kernel
theorem dL_low_3 : decode cL_low 3 = .ok (.iand, 1) := by decide +kernel
theorem dL_low_4 : decode cL_low 4 = .ok (.iload_n 1, 1) := by decide +kernel
theorem dL_low_5 : decode cL_low 5 = .ok (.irem, 1) := by decide +kernel
theorem dL_low_6 : decode cL_low 6 = .ok (.ireturn, 1) := by decide +kernel
set_option maxRecDepth 20000 in
theorem ggL_mix_X5_mix : GoodIn wsL_mix wsX5_mix := goodIn_ca (goodIn_ca (goodIn_r _ [9, 10, 11, 12, 13, 8, 14, 15, 16, 17, 18, 19, 20, 21, 22, 23, 24, 25, 26, 27, 28, 29, 30, 31, 32, 33, 34, 35, 36, 37, 38, 39, 40, 41, 42, 43, 44, 45, 46, 47, 48, 49, 50, 51, 52, 53, 54, 55, 56, 57, 58, 59, 60, 61, 62, 63, 64, 65, 66, 67, 68, 69, 70, 71, 72, 73, 74, 75, 76, 77] (by decide +kernel) (by decide +kernel)) (goodIn_sub (fun _ h => List.mem_cons_of_mem _ (List.mem_append_left _ (List.mem_append_right _ h))) (by decide +kernel))) (goodIn_sub (fun _ h => List.mem_cons_of_mem _ (List.mem_append_right _ h)) (by decide +kernel))
set_option maxRecDepth 20000 in
theorem gL_mix_X5_mix : GoodIn wsL_mix (wsV RL 10 RX5 yX5_mix wsX5_mix) := goodIn_app (goodIn_of _ (by decide +kernel)) ggL_mix_X5_mix
theorem dL_mix_0 : decode cL_mix 0 = .ok (.aload_n 0, 1) := by decide +kernel
theorem dL_mix_1 : decode cL_mix 1 = .ok (.iload_n 1, 1) := by decide +kernel
theorem dL_mix_2 : decode cL_mix 2 = .ok (.iload_n 2, 1) := by decide +kernel
theorem dL_mix_3 : decode cL_mix 3 = .ok (.iload_n 3, 1) := by decide +kernel
theorem dL_mix_4 : decode cL_mix 4 = .ok (.invokevirtual 10, 3) := by decide +kernel
theorem dL_mix_7 : decode cL_mix 7 = .ok (.ireturn, 1) := by decide +kernel
theorem dL_mix_8 : decode cL_mix 8 = .ok (.astore 4, 2) := by decide +kernel
theorem dL_mix_10 : decode cL_mix 10 = .ok (.ldc 18, 2) := by decide +kernel
theorem dL_mix_12 : decode cL_mix 12 = .ok (.ireturn, 1) := by decide +kernel
theorem dL_mix_13 : decode cL_mix 13 = .ok (.astore 4, 2) := by decide +kernel
theorem dL_mix_15 : decode cL_mix 15 = .ok (.ldc 21, 2) := by decide +kernel
theorem dL_mix_17 : decode cL_mix 17 = .ok (.ireturn, 1) := by decide +kernel
set_option maxRecDepth 20000 in
theorem ggL_painter_X5_painter : GoodIn wsL_painter wsX5_painter := goodIn_ca (goodIn_ca (goodIn_r _ [9, 10, 11, 12, 13, 8, 14, 15, 16, 17, 18, 19, 20, 21, 22, 23, 24, 25, 26, 27, 28, 29, 30, 31, 32, 33, 34, 35, 36, 37, 38, 39, 40, 41, 42, 43, 44, 45, 46, 47, 48, 49, 50, 51, 52, 53, 54, 55, 56, 57, 58, 59, 60, 61, 62, 63, 64, 65, 66, 67, 68, 69] (by decide +kernel) (by decide +kernel)) (goodIn_sub (fun _ h => List.mem_cons_of_mem _ (List.mem_append_left _ (List.mem_append_right _ h))) (by decide +kernel))) (goodIn_sub (fun _ h => List.mem_cons_of_mem _ (List.mem_append_right _ h)) (by decide +kernel))
set_option maxRecDepth 20000 in
theorem gL_painter_X5_painter : GoodIn wsL_painter (wsV RL 22 RX5 yX5_painter wsX5_painter) := goodIn_app (goodIn_of _ (by decide +kernel)) ggL_painter_X5_painter
theorem dL_painter_0 : decode cL_painter 0 = .ok (.aload_n 0, 1) := by decide +kernel
theorem dL_painter_1 : decode cL_painter 1 = .ok (.iload_n 1, 1) := by decide +kernel
theorem dL_painter_2 : decode cL_painter 2 = .ok (.iload_n 2, 1) := by decide +kernel
theorem dL_painter_3 : decode cL_painter 3 = .ok (.iload_n 3, 1) := by decide +kernel
theorem dL_painter_4 : decode cL_painter 4 = .ok (.invokevirtual 22, 3) := by decide +kernel
theorem dL_painter_7 : decode cL_painter 7 = .ok (.ireturn, 1) := by decide +kernel
theorem dL_painter_8 : decode cL_painter 8 = .ok (.astore 4, 2) := by decide +kernel
theorem dL_painter_10 : decode cL_painter 10 = .ok (.ldc 18, 2) := by decide +kernel
theorem dL_painter_12 : decode cL_painter 12 = .ok (.ireturn, 1) := by decide +kernel
theorem dL_painter_13 : decode cL_painter 13 = .ok (.astore 4, 2) := by decide +kernel
theorem dL_painter_15 : decode cL_painter 15 = .ok (.ldc 21, 2) := by decide +kernel
theorem dL_painter_17 : decode cL_painter 17 = .ok (.ireturn, 1) := by decide +kernel
set_option maxRecDepth 20000 in
theorem ggL_borrow_X5_borrow : GoodIn wsL_borrow wsX5_borrow := goodIn_ca (goodIn_r _ [7, 8, 9, 10, 11, 6, 12, 13, 14, 15, 16, 17, 18, 19, 20, 21, 22, 23, 24, 25, 26, 27, 28, 29, 30, 31, 32, 33, 34, 35, 36, 37, 38, 39, 40, 41, 42, 43, 44, 45, 46, 47, 48, 49, 50, 51, 52, 53, 54, 55, 56, 57, 58, 59, 60, 61, 62] (by decide +kernel) (by decide +kernel)) (goodIn_sub (fun _ h => List.mem_cons_of_mem _ (List.mem_append_right _ h)) (by decide +kernel))
set_option maxRecDepth 20000 in
theorem gL_borrow_X5_borrow : GoodIn wsL_borrow (wsV RL 25 RX5 yX5_borrow wsX5_borrow) := goodIn_app (goodIn_of _ (by decide +kernel)) ggL_borrow_X5_borrow
theorem dL_borrow_0 : decode cL_borrow 0 = .ok (.aload_n 0, 1) := by decide +kernel
theorem dL_borrow_1 : decode cL_borrow 1 = .ok (.iload_n 1, 1) := by decide +kernel
theorem dL_borrow_2 : decode cL_borrow 2 = .ok (.iload_n 2, 1) := by decide +kernel
theorem dL_borrow_3 : decode cL_borrow 3 = .ok (.invokevirtual 25, 3) := by decide +kernel
theorem dL_borrow_6 : decode cL_borrow 6 = .ok (.ireturn, 1) := by decide +kernel
theorem dL_borrow_7 : decode cL_borrow 7 = .ok (.astore_n 3, 1) := by decide +kernel
theorem dL_borrow_8 : decode cL_borrow 8 = .ok (.ldc 18, 2) := by decide +kernel
theorem dL_borrow_10 : decode cL_borrow 10 = .ok (.ireturn, 1) := by decide +kernel
set_option maxRecDepth 20000 in
theorem ggL_label_X5_label : GoodIn wsL_label wsX5_label := goodIn_ca (goodIn_ca (goodIn_r _ [9, 10, 11, 12, 13, 8, 14, 15, 16, 17, 18, 19, 20, 21, 22, 23, 24, 25, 26, 27, 28, 29, 30, 31, 32, 33, 34, 35, 36, 37, 38, 39, 40, 41, 42, 43, 44, 45, 46, 47, 48, 49, 50, 51, 52, 53, 54, 55, 56, 57, 58, 59, 60, 61, 62, 63, 64, 65, 66, 67, 68, 69] (by decide +kernel) (by decide +kernel)) (goodIn_sub (fun _ h => List.mem_cons_of_mem _ (List.mem_append_left _ (List.mem_append_right _ h))) (by decide +kernel))) (goodIn_sub (fun _ h => List.mem_cons_of_mem _ (List.mem_append_right _ h)) (by decide +kernel))
set_option maxRecDepth 20000 in
theorem gL_label_X5_label : GoodIn wsL_label (wsV RL 29 RX5 yX5_label wsX5_label) := goodIn_app (goodIn_of _ (by decide +kernel)) ggL_label_X5_label
theorem dL_label_0 : decode cL_label 0 = .ok (.aload_n 0, 1) := by decide +kernel
theorem dL_label_1 : decode cL_label 1 = .ok (.iload_n 1, 1) := by decide +kernel
theorem dL_label_2 : decode cL_label 2 = .ok (.iload_n 2, 1) := by decide +kernel
theorem dL_label_3 : decode cL_label 3 = .ok (.invokevirtual 29, 3) := by decide +kernel
theorem dL_label_6 : decode cL_label 6 = .ok (.ireturn, 1) := by decide +kernel
theorem dL_label_7 : decode cL_label 7 = .ok (.astore_n 3, 1) := by decide +kernel
theorem dL_label_8 : decode cL_label 8 = .ok (.ldc 18, 2) := by decide +kernel
theorem dL_label_10 : decode cL_label 10 = .ok (.ireturn, 1) := by decide +kernel
theorem dL_label_11 : decode cL_label 11 = .ok (.astore_n 3, 1) := by decide +kernel
theorem dL_label_12 : decode cL_label 12 = .ok (.ldc 21, 2) := by decide +kernel
theorem dL_label_14 : decode cL_label 14 = .ok (.ireturn, 1) := by decide +kernel
set_option maxRecDepth 20000 in
theorem ggL_labelAll_X5_labelAll : GoodIn wsL_labelAll wsX5_labelAll := goodIn_ca (goodIn_r _ [7, 8, 9, 10, 11, 6, 12, 13, 14, 15, 16, 17, 18, 19, 20, 21, 22, 23, 24, 25, 26, 27, 28, 29, 30, 31, 32, 33, 34, 35, 36, 37, 38, 39, 40, 41, 42, 43, 44, 45, 46, 47, 48, 49, 50, 51, 52, 53, 54, 55, 56, 57, 58, 59, 60, 61, 62, 63, 64, 65, 66, 67, 68, 69, 70, 71, 72, 73, 74, 75, 76, 77, 78, 79, 80, 81, 82, 83, 84, 85, 86, 87, 88, 89, 90, 91, 92, 93, 94, 95, 96, 97, 98, 99] (by decide +kernel) (by decide +kernel)) (goodIn_sub (fun _ h => List.mem_cons_of_mem _ (List.mem_append_right _ h)) (by decide +kernel))
set_option maxRecDepth 20000 in
theorem gL_labelAll_X5_labelAll : GoodIn wsL_labelAll (wsV RL 32 RX5 yX5_labelAll wsX5_labelAll) := goodIn_app (goodIn_of _ (by decide +kernel)) ggL_labelAll_X5_labelAll
theorem dL_labelAll_0 : decode cL_labelAll 0 = .ok (.aload_n 0, 1) := by decide +kernel
theorem dL_labelAll_1 : decode cL_labelAll 1 = .ok (.iload_n 1, 1) := by decide +kernel
theorem dL_labelAll_2 : decode cL_labelAll 2 = .ok (.invokevirtual 32, 3) := by decide +kernel
theorem dL_labelAll_5 : decode cL_labelAll 5 = .ok (.ireturn, 1) := by decide +kernel
theorem dL_labelAll_6 : decode cL_labelAll 6 = .ok (.astore_n 2, 1) := by decide +kernel
theorem dL_labelAll_7 : decode cL_labelAll 7 = .ok (.ldc 18, 2) := by decide +kernel
theorem dL_labelAll_9 : decode cL_labelAll 9 = .ok (.ireturn, 1) := by decide +kernel
set_option maxRecDepth 20000 in
theorem ggL_hang_X5_hang : GoodIn wsL_hang wsX5_hang := goodIn_ca (goodIn_ca (goodIn_r _ [9, 10, 11, 12, 13, 8, 14, 15, 16, 17, 18, 19, 20, 21, 22, 23, 24, 25, 26, 27, 28, 29, 30, 31, 32, 33, 34, 35, 36, 37, 38, 39, 40, 41, 42, 43, 44, 45, 46, 47, 48, 49, 50, 51, 52, 53, 54, 55, 56, 57, 58, 59, 60, 61, 62, 63, 64, 65, 66, 67, 68, 69, 70, 71, 72, 73] (by decide +kernel) (by decide +kernel)) (goodIn_sub (fun _ h => List.mem_cons_of_mem _ (List.mem_append_left _ (List.mem_append_right _ h))) (by decide +kernel))) (goodIn_sub (fun _ h => List.mem_cons_of_mem _ (List.mem_append_right _ h)) (by decide +kernel))
set_option maxRecDepth 20000 in
theorem gL_hang_X5_hang : GoodIn wsL_hang (wsV RL 36 RX5 yX5_hang wsX5_hang) := goodIn_app (goodIn_of _ (by decide +kernel)) ggL_hang_X5_hang
theorem dL_hang_0 : decode cL_hang 0 = .ok (.aload_n 0, 1) := by decide +kernel
theorem dL_hang_1 : decode cL_hang 1 = .ok (.iload_n 1, 1) := by decide +kernel
theorem dL_hang_2 : decode cL_hang 2 = .ok (.iload_n 2, 1) := by decide +kernel
theorem dL_hang_3 : decode cL_hang 3 = .ok (.invokevirtual 36, 3) := by decide +kernel
theorem dL_hang_6 : decode cL_hang 6 = .ok (.ireturn, 1) := by decide +kernel
theorem dL_hang_7 : decode cL_hang 7 = .ok (.astore_n 3, 1) := by decide +kernel
theorem dL_hang_8 : decode cL_hang 8 = .ok (.ldc 18, 2) := by decide +kernel
theorem dL_hang_10 : decode cL_hang 10 = .ok (.ireturn, 1) := by decide +kernel
theorem dL_hang_11 : decode cL_hang 11 = .ok (.astore_n 3, 1) := by decide +kernel
theorem dL_hang_12 : decode cL_hang 12 = .ok (.ldc 21, 2) := by decide +kernel
theorem dL_hang_14 : decode cL_hang 14 = .ok (.ireturn, 1) := by decide +kernel
set_option maxRecDepth 20000 in
theorem ggL_takeDown_X5_takeDown : GoodIn wsL_takeDown wsX5_takeDown := goodIn_ca (goodIn_r _ [7, 8, 9, 10, 11, 12, 6, 13, 14, 15, 16, 17, 18, 19, 20, 21, 22, 23, 24, 25, 26, 27, 28, 29, 30, 31, 32, 33, 34, 35, 36, 37, 38, 39, 40, 41, 42, 43, 44, 45, 46, 47, 48, 49, 50, 51, 52, 53, 54, 55, 56, 57, 58, 59, 60, 61, 62, 63, 64, 65, 66, 67, 68, 69, 70, 71, 72, 73, 74, 75, 76, 77, 78, 79, 80, 81, 82, 83, 84, 85, 86, 87, 88, 89, 90, 91, 92, 93, 94, 95, 96, 97] (by decide +kernel) (by decide +kernel)) (goodIn_sub (fun _ h => List.mem_cons_of_mem _ (List.mem_append_right _ h)) (by decide +kernel))
set_option maxRecDepth 20000 in
theorem gL_takeDown_X5_takeDown : GoodIn wsL_takeDown (wsV RL 39 RX5 yX5_takeDown wsX5_takeDown) := goodIn_app (goodIn_of _ (by decide +kernel)) ggL_takeDown_X5_takeDown
theorem dL_takeDown_0 : decode cL_takeDown 0 = .ok (.aload_n 0, 1) := by decide +kernel
theorem dL_takeDown_1 : decode cL_takeDown 1 = .ok (.iload_n 1, 1) := by decide +kernel
theorem dL_takeDown_2 : decode cL_takeDown 2 = .ok (.invokevirtual 39, 3) := by decide +kernel
theorem dL_takeDown_5 : decode cL_takeDown 5 = .ok (.ireturn, 1) := by decide +kernel
theorem dL_takeDown_6 : decode cL_takeDown 6 = .ok (.astore_n 2, 1) := by decide +kernel
theorem dL_takeDown_7 : decode cL_takeDown 7 = .ok (.ldc 18, 2) := by decide +kernel
theorem dL_takeDown_9 : decode cL_takeDown 9 = .ok (.ireturn, 1) := by decide +kernel
set_option maxRecDepth 20000 in
theorem ggL_correct_X5_correct : GoodIn wsL_correct wsX5_correct := goodIn_ca (goodIn_r _ [7, 8, 9, 10, 11, 12, 6, 13, 14, 15, 16, 17, 18, 19, 20, 21, 22, 23, 24, 25, 26, 27, 28, 29, 30, 31, 32, 33, 34, 35, 36, 37, 38, 39, 40, 41, 42, 43, 44, 45, 46, 47, 48, 49, 50, 51, 52, 53, 54, 55, 56, 57, 58, 59, 60, 61, 62, 63, 64, 65, 66, 67, 68, 69, 70, 71, 72, 73, 74, 75, 76, 77, 78, 79, 80, 81, 82, 83, 84, 85, 86, 87, 88, 89, 90, 91, 92, 93] (by decide +kernel) (by decide +kernel)) (goodIn_sub (fun _ h => List.mem_cons_of_mem _ (List.mem_append_right _ h)) (by decide +kernel))
set_option maxRecDepth 20000 in
theorem gL_correct_X5_correct : GoodIn wsL_correct (wsV RL 42 RX5 yX5_correct wsX5_correct) := goodIn_app (goodIn_of _ (by decide +kernel)) ggL_correct_X5_correct
theorem dL_correct_0 : decode cL_correct 0 = .ok (.aload_n 0, 1) := by decide +kernel
theorem dL_correct_1 : decode cL_correct 1 = .ok (.iload_n 1, 1) := by decide +kernel
theorem dL_correct_2 : decode cL_correct 2 = .ok (.iload_n 2, 1) := by decide +kernel
theorem dL_correct_3 : decode cL_correct 3 = .ok (.invokevirtual 42, 3) := by decide +kernel
theorem dL_correct_6 : decode cL_correct 6 = .ok (.ireturn, 1) := by decide +kernel
theorem dL_correct_7 : decode cL_correct 7 = .ok (.astore_n 3, 1) := by decide +kernel
theorem dL_correct_8 : decode cL_correct 8 = .ok (.ldc 18, 2) := by decide +kernel
theorem dL_correct_10 : decode cL_correct 10 = .ok (.ireturn, 1) := by decide +kernel
set_option maxRecDepth 20000 in
theorem ggL_append_X5_append : GoodIn wsL_append wsX5_append := goodIn_ca (goodIn_ca (goodIn_r _ [9, 10, 11, 12, 13, 14, 8, 15, 16, 17, 18, 19, 20, 21, 22, 23, 24, 25, 26, 27, 28, 29, 30, 31, 32, 33, 34] (by decide +kernel) (by decide +kernel)) (goodIn_sub (fun _ h => List.mem_cons_of_mem _ (List.mem_append_left _ (List.mem_append_right _ h))) (by decide +kernel))) (goodIn_sub (fun _ h => List.mem_cons_of_mem _ (List.mem_append_right _ h)) (by decide +kernel))
set_option maxRecDepth 20000 in
theorem gL_append_X5_append : GoodIn wsL_append (wsV RL 45 RX5 yX5_append wsX5_append) := goodIn_app (goodIn_of _ (by decide +kernel)) ggL_append_X5_append
theorem dL_append_0 : decode cL_append 0 = .ok (.aload_n 0, 1) := by decide +kernel
theorem dL_append_1 : decode cL_append 1 = .ok (.iload_n 1, 1) := by decide +kernel
theorem dL_append_2 : decode cL_append 2 = .ok (.invokevirtual 45, 3) := by decide +kernel
theorem dL_append_5 : decode cL_append 5 = .ok (.ireturn, 1) := by decide +kernel
theorem dL_append_6 : decode cL_append 6 = .ok (.astore_n 2, 1) := by decide +kernel
theorem dL_append_7 : decode cL_append 7 = .ok (.ldc 18, 2) := by decide +kernel
theorem dL_append_9 : decode cL_append 9 = .ok (.ireturn, 1) := by decide +kernel
theorem dL_append_10 : decode cL_append 10 = .ok (.astore_n 2, 1) := by decide +kernel
theorem dL_append_11 : decode cL_append 11 = .ok (.ldc 21, 2) := by decide +kernel
theorem dL_append_13 : decode cL_append 13 = .ok (.ireturn, 1) := by decide +kernel
set_option maxRecDepth 20000 in
theorem ggL_load_X5_load : GoodIn wsL_load wsX5_load := goodIn_ca (goodIn_r _ [7, 8, 9, 10, 11, 12, 13, 14, 15, 16, 17, 18, 19, 20, 21, 22, 23, 24, 25, 26, 27, 28, 29, 30, 31, 32, 33, 34, 35, 36, 37, 38, 39, 40, 41, 42, 43, 44, 45, 46, 47, 48, 49, 50, 51, 52, 53, 54, 55, 56, 57, 58, 59, 60, 61, 62, 63, 64, 65, 66, 67, 68, 69, 70, 71, 72, 73, 74, 75, 76, 77, 78, 79, 80, 81, 82, 83, 84, 85, 86, 87, 88, 89, 90, 91, 92, 93, 94, 95, 96, 97, 98, 99, 100, 101, 102, 103] (by decide +kernel) (by decide +kernel)) (goodIn_sub (fun _ h => List.mem_cons_of_mem _ (List.mem_append_right _ h)) (by decide +kernel))
set_option maxRecDepth 20000 in
theorem gL_load_X5_load : GoodIn wsL_load (wsV RL 50 RX5 yX5_load wsX5_load) := goodIn_app (goodIn_of _ (by decide +kernel)) ggL_load_X5_load
theorem dL_load_0 : decode cL_load 0 = .ok (.aload_n 0, 1) := by decide +kernel
theorem dL_load_1 : decode cL_load 1 = .ok (.invokevirtual 50, 3) := by decide +kernel
theorem dL_load_4 : decode cL_load 4 = .ok (.ireturn, 1) := by decide +kernel
theorem dL_load_5 : decode cL_load 5 = .ok (.astore_n 1, 1) := by decide +kernel
theorem dL_load_6 : decode cL_load 6 = .ok (.ldc 18, 2) := by decide +kernel
theorem dL_load_8 : decode cL_load 8 = .ok (.ireturn, 1) := by decide +kernel
set_option maxRecDepth 20000 in
theorem ggL_undo_X5_undo : GoodIn wsL_undo wsX5_undo := goodIn_ca (goodIn_r _ [7, 8, 9, 10, 11, 12, 13, 14, 15, 16, 17, 18, 19, 20, 21, 22, 23, 24, 25, 26, 27, 28, 29, 30, 31, 32, 33, 34, 35, 36, 37, 38, 39, 40, 41, 42, 43, 44, 45, 46, 47, 48, 49, 50, 51, 52, 53, 54, 55] (by decide +kernel) (by decide +kernel)) (goodIn_sub (fun _ h => List.mem_cons_of_mem _ (List.mem_append_right _ h)) (by decide +kernel))
set_option maxRecDepth 20000 in
theorem gL_undo_X5_undo : GoodIn wsL_undo (wsV RL 54 RX5 yX5_undo wsX5_undo) := goodIn_app (goodIn_of _ (by decide +kernel)) ggL_undo_X5_undo
theorem dL_undo_0 : decode cL_undo 0 = .ok (.aload_n 0, 1) := by decide +kernel
theorem dL_undo_1 : decode cL_undo 1 = .ok (.invokevirtual 54, 3) := by decide +kernel
theorem dL_undo_4 : decode cL_undo 4 = .ok (.ireturn, 1) := by decide +kernel
theorem dL_undo_5 : decode cL_undo 5 = .ok (.astore_n 1, 1) := by decide +kernel
theorem dL_undo_6 : decode cL_undo 6 = .ok (.ldc 18, 2) := by decide +kernel
theorem dL_undo_8 : decode cL_undo 8 = .ok (.ireturn, 1) := by decide +kernel
set_option maxRecDepth 20000 in
theorem ggL_potOf_X5_potOf : GoodIn wsL_potOf wsX5_potOf := goodIn_ca (goodIn_ca (goodIn_r _ [9, 10, 11, 12, 8, 13, 14, 15, 16, 17, 18, 19, 20, 21, 22, 23, 24, 25, 26, 27, 28, 29, 30, 31, 32, 33, 34, 35, 36, 37, 38, 39, 40, 41, 42, 43, 44, 45, 46, 47, 48, 49, 50, 51, 52, 53, 54, 55, 56, 57, 58, 59, 60, 61, 62, 63, 64, 65] (by decide +kernel) (by decide +kernel)) (goodIn_sub (fun _ h => List.mem_cons_of_mem _ (List.mem_append_left _ (List.mem_append_right _ h))) (by decide +kernel))) (goodIn_sub (fun _ h => List.mem_cons_of_mem _ (List.mem_append_right _ h)) (by decide +kernel))
set_option maxRecDepth 20000 in
theorem gL_potOf_X5_potOf : GoodIn wsL_potOf (wsV RL 57 RX5 yX5_potOf wsX5_potOf) := goodIn_app (goodIn_of _ (by decide +kernel)) ggL_potOf_X5_potOf
theorem dL_potOf_0 : decode cL_potOf 0 = .ok (.aload_n 0, 1) := by decide +kernel
theorem dL_potOf_1 : decode cL_potOf 1 = .ok (.iload_n 1, 1) := by decide +kernel
theorem dL_potOf_2 : decode cL_potOf 2 = .ok (.iload_n 2, 1) := by decide +kernel
theorem dL_potOf_3 : decode cL_potOf 3 = .ok (.invokevirtual 57, 3) := by decide +kernel
theorem dL_potOf_6 : decode cL_potOf 6 = .ok (.ireturn, 1) := by decide +kernel
theorem dL_potOf_7 : decode cL_potOf 7 = .ok (.astore_n 3, 1) := by decide +kernel
theorem dL_potOf_8 : decode cL_potOf 8 = .ok (.ldc 18, 2) := by decide +kernel
theorem dL_potOf_10 : decode cL_potOf 10 = .ok (.ireturn, 1) := by decide +kernel
theorem dL_potOf_11 : decode cL_potOf 11 = .ok (.astore_n 3, 1) := by decide +kernel
theorem dL_potOf_12 : decode cL_potOf 12 = .ok (.ldc 21, 2) := by decide +kernel
theorem dL_potOf_14 : decode cL_potOf 14 = .ok (.ireturn, 1) := by decide +kernel
set_option maxRecDepth 20000 in
theorem ggL_seen_X5_seen : GoodIn wsL_seen wsX5_seen := goodIn_ca (goodIn_r _ [7, 8, 9, 10, 6, 11, 12, 13, 14, 15, 16, 17, 18, 19, 20, 21, 22, 23, 24, 25, 26, 27, 28, 29, 30, 31, 32, 33, 34] (by decide +kernel) (by decide +kernel)) (goodIn_sub (fun _ h => List.mem_cons_of_mem _ (List.mem_append_right _ h)) (by decide +kernel))
set_option maxRecDepth 20000 in
theorem gL_seen_X5_seen : GoodIn wsL_seen (wsV RL 60 RX5 yX5_seen wsX5_seen) := goodIn_app (goodIn_of _ (by decide +kernel)) ggL_seen_X5_seen
theorem dL_seen_0 : decode cL_seen 0 = .ok (.aload_n 0, 1) := by decide +kernel
theorem dL_seen_1 : decode cL_seen 1 = .ok (.iload_n 1, 1) := by decide +kernel
theorem dL_seen_2 : decode cL_seen 2 = .ok (.iload_n 2, 1) := by decide +kernel
theorem dL_seen_3 : decode cL_seen 3 = .ok (.invokevirtual 60, 3) := by decide +kernel
theorem dL_seen_6 : decode cL_seen 6 = .ok (.ireturn, 1) := by decide +kernel
theorem dL_seen_7 : decode cL_seen 7 = .ok (.astore_n 3, 1) := by decide +kernel
theorem dL_seen_8 : decode cL_seen 8 = .ok (.ldc 18, 2) := by decide +kernel
theorem dL_seen_10 : decode cL_seen 10 = .ok (.ireturn, 1) := by decide +kernel
set_option maxRecDepth 20000 in
theorem ggL_painterOf_X5_painterOf : GoodIn wsL_painterOf wsX5_painterOf := goodIn_ca (goodIn_ca (goodIn_r _ [9, 10, 11, 12, 13, 14, 8, 15, 16, 17, 18, 19, 20, 21, 22, 23, 24, 25, 26, 27, 28, 29, 30, 31, 32, 33, 34, 35, 36, 37, 38, 39, 40, 41, 42, 43, 44, 45, 46, 47, 48, 49, 50, 51, 52, 53, 54, 55, 56, 57, 58, 59, 60, 61, 62, 63, 64, 65, 66, 67, 68, 69, 70, 71] (by decide +kernel) (by decide +kernel)) (goodIn_sub (fun _ h => List.mem_cons_of_mem _ (List.mem_append_left _ (List.mem_append_right _ h))) (by decide +kernel))) (goodIn_sub (fun _ h => List.mem_cons_of_mem _ (List.mem_append_right _ h)) (by decide +kernel))
set_option maxRecDepth 20000 in
theorem gL_painterOf_X5_painterOf : GoodIn wsL_painterOf (wsV RL 63 RX5 yX5_painterOf wsX5_painterOf) := goodIn_app (goodIn_of _ (by decide +kernel)) ggL_painterOf_X5_painterOf
theorem dL_painterOf_0 : decode cL_painterOf 0 = .ok (.aload_n 0, 1) := by decide +kernel
theorem dL_painterOf_1 : decode cL_painterOf 1 = .ok (.iload_n 1, 1) := by decide +kernel
theorem dL_painterOf_2 : decode cL_painterOf 2 = .ok (.iload_n 2, 1) := by decide +kernel
theorem dL_painterOf_3 : decode cL_painterOf 3 = .ok (.invokevirtual 63, 3) := by decide +kernel
theorem dL_painterOf_6 : decode cL_painterOf 6 = .ok (.ireturn, 1) := by decide +kernel
theorem dL_painterOf_7 : decode cL_painterOf 7 = .ok (.astore_n 3, 1) := by decide +kernel
theorem dL_painterOf_8 : decode cL_painterOf 8 = .ok (.ldc 18, 2) := by decide +kernel
theorem dL_painterOf_10 : decode cL_painterOf 10 = .ok (.ireturn, 1) := by decide +kernel
theorem dL_painterOf_11 : decode cL_painterOf 11 = .ok (.astore_n 3, 1) := by decide +kernel
theorem dL_painterOf_12 : decode cL_painterOf 12 = .ok (.ldc 21, 2) := by decide +kernel
theorem dL_painterOf_14 : decode cL_painterOf 14 = .ok (.ireturn, 1) := by decide +kernel
set_option maxRecDepth 20000 in
theorem ggL_apart_X5_apart : GoodIn wsL_apart wsX5_apart := goodIn_ca (goodIn_r _ [7, 8, 9, 10, 6, 11, 12, 13, 14, 15, 16, 17, 18, 19, 20, 21, 22, 23, 24, 25, 26, 27, 28, 29, 30, 31, 32, 33, 34, 35, 36, 37, 38, 39, 40, 41, 42, 43, 44, 45, 46, 47, 48, 49, 50, 51, 52, 53, 54] (by decide +kernel) (by decide +kernel)) (goodIn_sub (fun _ h => List.mem_cons_of_mem _ (List.mem_append_right _ h)) (by decide +kernel))
set_option maxRecDepth 20000 in
theorem gL_apart_X5_apart : GoodIn wsL_apart (wsV RL 66 RX5 yX5_apart wsX5_apart) := goodIn_app (goodIn_of _ (by decide +kernel)) ggL_apart_X5_apart
theorem dL_apart_0 : decode cL_apart 0 = .ok (.aload_n 0, 1) := by decide +kernel
theorem dL_apart_1 : decode cL_apart 1 = .ok (.iload_n 1, 1) := by decide +kernel
theorem dL_apart_2 : decode cL_apart 2 = .ok (.iload_n 2, 1) := by decide +kernel
theorem dL_apart_3 : decode cL_apart 3 = .ok (.iload_n 3, 1) := by decide +kernel
theorem dL_apart_4 : decode cL_apart 4 = .ok (.invokevirtual 66, 3) := by decide +kernel
theorem dL_apart_7 : decode cL_apart 7 = .ok (.ireturn, 1) := by decide +kernel
theorem dL_apart_8 : decode cL_apart 8 = .ok (.astore 4, 2) := by decide +kernel
theorem dL_apart_10 : decode cL_apart 10 = .ok (.ldc 18, 2) := by decide +kernel
theorem dL_apart_12 : decode cL_apart 12 = .ok (.ireturn, 1) := by decide +kernel
set_option maxRecDepth 20000 in
theorem ggL_chartOf_X5_chartOf : GoodIn wsL_chartOf wsX5_chartOf := goodIn_ca (goodIn_ca (goodIn_r _ [9, 10, 11, 12, 13, 14, 15, 8, 16, 17, 18, 19, 20, 21, 22, 23, 24, 25, 26, 27, 28, 29, 30, 31, 32, 33, 34, 35, 36, 37, 38, 39, 40, 41, 42, 43, 44, 45, 46, 47, 48, 49, 50, 51, 52, 53, 54, 55, 56, 57, 58, 59, 60, 61, 62] (by decide +kernel) (by decide +kernel)) (goodIn_sub (fun _ h => List.mem_cons_of_mem _ (List.mem_append_left _ (List.mem_append_right _ h))) (by decide +kernel))) (goodIn_sub (fun _ h => List.mem_cons_of_mem _ (List.mem_append_right _ h)) (by decide +kernel))
set_option maxRecDepth 20000 in
theorem gL_chartOf_X5_chartOf : GoodIn wsL_chartOf (wsV RL 69 RX5 yX5_chartOf wsX5_chartOf) := goodIn_app (goodIn_of _ (by decide +kernel)) ggL_chartOf_X5_chartOf
theorem dL_chartOf_0 : decode cL_chartOf 0 = .ok (.aload_n 0, 1) := by decide +kernel
theorem dL_chartOf_1 : decode cL_chartOf 1 = .ok (.iload_n 1, 1) := by decide +kernel
theorem dL_chartOf_2 : decode cL_chartOf 2 = .ok (.iload_n 2, 1) := by decide +kernel
theorem dL_chartOf_3 : decode cL_chartOf 3 = .ok (.invokevirtual 69, 3) := by decide +kernel
theorem dL_chartOf_6 : decode cL_chartOf 6 = .ok (.ireturn, 1) := by decide +kernel
theorem dL_chartOf_7 : decode cL_chartOf 7 = .ok (.astore_n 3, 1) := by decide +kernel
theorem dL_chartOf_8 : decode cL_chartOf 8 = .ok (.ldc 18, 2) := by decide +kernel
theorem dL_chartOf_10 : decode cL_chartOf 10 = .ok (.ireturn, 1) := by decide +kernel
theorem dL_chartOf_11 : decode cL_chartOf 11 = .ok (.astore_n 3, 1) := by decide +kernel
theorem dL_chartOf_12 : decode cL_chartOf 12 = .ok (.ldc 21, 2) := by decide +kernel
theorem dL_chartOf_14 : decode cL_chartOf 14 = .ok (.ireturn, 1) := by decide +kernel
set_option maxRecDepth 20000 in
theorem ggL_count_X5_count : GoodIn wsL_count wsX5_count := goodIn_ca (goodIn_r _ [7, 8, 9, 10, 11, 12, 13, 14, 15, 16, 17, 18, 19, 20, 21, 22, 23, 24, 25, 26, 27, 28, 29, 30, 31, 32, 33, 34, 35, 36, 37, 38, 39, 40, 41, 42, 43, 44, 45, 46, 47, 48, 49, 50, 51, 52, 53, 54, 55, 56, 57, 58, 59, 60, 61, 62, 63, 64, 65, 66, 67, 68, 69, 70, 71, 72, 73, 74, 75, 76, 77, 78, 79, 80, 81, 82, 83, 84, 85] (by decide +kernel) (by decide +kernel)) (goodIn_sub (fun _ h => List.mem_cons_of_mem _ (List.mem_append_right _ h)) (by decide +kernel))
set_option maxRecDepth 20000 in
theorem gL_count_X5_count : GoodIn wsL_count (wsV RL 72 RX5 yX5_count wsX5_count) := goodIn_app (goodIn_of _ (by decide +kernel)) ggL_count_X5_count
theorem dL_count_0 : decode cL_count 0 = .ok (.aload_n 0, 1) := by decide +kernel
theorem dL_count_1 : decode cL_count 1 = .ok (.iload_n 1, 1) := by decide +kernel
theorem dL_count_2 : decode cL_count 2 = .ok (.invokevirtual 72, 3) := by decide +kernel
theorem dL_count_5 : decode cL_count 5 = .ok (.ireturn, 1) := by decide +kernel
theorem dL_count_6 : decode cL_count 6 = .ok (.astore_n 2, 1) := by decide +kernel
theorem dL_count_7 : decode cL_count 7 = .ok (.ldc 18, 2) := by decide +kernel
theorem dL_count_9 : decode cL_count 9 = .ok (.ireturn, 1) := by decide +kernel
set_option maxRecDepth 20000 in
theorem ggL_fewest_X5_fewest : GoodIn wsL_fewest wsX5_fewest := goodIn_ca (goodIn_ca (goodIn_r _ [9, 10, 11, 12, 13, 8, 14, 15, 16, 17, 18, 19, 20, 21, 22, 23, 24, 25, 26, 27, 28, 29, 30, 31, 32, 33, 34, 35, 36, 37, 38, 39, 40, 41, 42, 43, 44, 45, 46, 47, 48, 49, 50, 51, 52, 53, 54, 55, 56, 57, 58, 59, 60, 61, 62, 63, 64, 65, 66, 67, 68, 69, 70, 71, 72, 73, 74, 75, 76, 77, 78, 79, 80, 81, 82, 83, 84, 85, 86, 87, 88, 89, 90] (by decide +kernel) (by decide +kernel)) (goodIn_sub (fun _ h => List.mem_cons_of_mem _ (List.mem_append_left _ (List.mem_append_right _ h))) (by decide +kernel))) (goodIn_sub (fun _ h => List.mem_cons_of_mem _ (List.mem_append_right _ h)) (by decide +kernel))
set_option maxRecDepth 20000 in
theorem gL_fewest_X5_fewest : GoodIn wsL_fewest (wsV RL 75 RX5 yX5_fewest wsX5_fewest) := goodIn_app (goodIn_of _ (by decide +kernel)) ggL_fewest_X5_fewest
theorem dL_fewest_0 : decode cL_fewest 0 = .ok (.aload_n 0, 1) := by decide +kernel
theorem dL_fewest_1 : decode cL_fewest 1 = .ok (.iload_n 1, 1) := by decide +kernel
theorem dL_fewest_2 : decode cL_fewest 2 = .ok (.iload_n 2, 1) := by decide +kernel
theorem dL_fewest_3 : decode cL_fewest 3 = .ok (.invokevirtual 75, 3) := by decide +kernel
theorem dL_fewest_6 : decode cL_fewest 6 = .ok (.ireturn, 1) := by decide +kernel
theorem dL_fewest_7 : decode cL_fewest 7 = .ok (.astore_n 3, 1) := by decide +kernel
theorem dL_fewest_8 : decode cL_fewest 8 = .ok (.ldc 18, 2) := by decide +kernel
theorem dL_fewest_10 : decode cL_fewest 10 = .ok (.ireturn, 1) := by decide +kernel
theorem dL_fewest_11 : decode cL_fewest 11 = .ok (.astore_n 3, 1) := by decide +kernel
theorem dL_fewest_12 : decode cL_fewest 12 = .ok (.ldc 21, 2) := by decide +kernel
theorem dL_fewest_14 : decode cL_fewest 14 = .ok (.ireturn, 1) := by decide +kernel
set_option maxRecDepth 20000 in
theorem ggL_ifBorrowed_X5_ifBorrowed : GoodIn wsL_ifBorrowed wsX5_ifBorrowed := goodIn_ca (goodIn_r _ [7, 8, 9, 10, 6, 11, 12, 13, 14, 15, 16, 17, 18, 19, 20, 21, 22, 23, 24, 25, 26, 27, 28, 29, 30, 31, 32, 33, 34, 35, 36, 37, 38, 39, 40, 41, 42, 43, 44, 45, 46, 47, 48, 49, 50] (by decide +kernel) (by decide +kernel)) (goodIn_sub (fun _ h => List.mem_cons_of_mem _ (List.mem_append_right _ h)) (by decide +kernel))
set_option maxRecDepth 20000 in
theorem gL_ifBorrowed_X5_ifBorrowed : GoodIn wsL_ifBorrowed (wsV RL 78 RX5 yX5_ifBorrowed wsX5_ifBorrowed) := goodIn_app (goodIn_of _ (by decide +kernel)) ggL_ifBorrowed_X5_ifBorrowed
theorem dL_ifBorrowed_0 : decode cL_ifBorrowed 0 = .ok (.aload_n 0, 1) := by decide +kernel
theorem dL_ifBorrowed_1 : decode cL_ifBorrowed 1 = .ok (.iload_n 1, 1) := by decide +kernel
theorem dL_ifBorrowed_2 : decode cL_ifBorrowed 2 = .ok (.iload_n 2, 1) := by decide +kernel
theorem dL_ifBorrowed_3 : decode cL_ifBorrowed 3 = .ok (.invokevirtual 78, 3) := by decide +kernel
theorem dL_ifBorrowed_6 : decode cL_ifBorrowed 6 = .ok (.ireturn, 1) := by decide +kernel
theorem dL_ifBorrowed_7 : decode cL_ifBorrowed 7 = .ok (.astore_n 3, 1) := by decide +kernel
theorem dL_ifBorrowed_8 : decode cL_ifBorrowed 8 = .ok (.ldc 18, 2) := by decide +kernel
theorem dL_ifBorrowed_10 : decode cL_ifBorrowed 10 = .ok (.ireturn, 1) := by decide +kernel
set_option maxRecDepth 20000 in
theorem ggL_leastChange_X5_leastChange : GoodIn wsL_leastChange wsX5_leastChange := goodIn_ca (goodIn_ca (goodIn_r _ [9, 10, 11, 12, 8, 13, 14, 15, 16, 17, 18, 19, 20, 21, 22, 23, 24, 25, 26, 27, 28, 29, 30, 31, 32, 33, 34, 35, 36, 37, 38, 39, 40, 41, 42, 43, 44, 45, 46, 47, 48, 49, 50, 51, 52, 53, 54, 55, 56, 57, 58, 59, 60, 61, 62, 63, 64, 65, 66] (by decide +kernel) (by decide +kernel)) (goodIn_sub (fun _ h => List.mem_cons_of_mem _ (List.mem_append_left _ (List.mem_append_right _ h))) (by decide +kernel))) (goodIn_sub (fun _ h => List.mem_cons_of_mem _ (List.mem_append_right _ h)) (by decide +kernel))
set_option maxRecDepth 20000 in
theorem gL_leastChange_X5_leastChange : GoodIn wsL_leastChange (wsV RL 81 RX5 yX5_leastChange wsX5_leastChange) := goodIn_app (goodIn_of _ (by decide +kernel)) ggL_leastChange_X5_leastChange
theorem dL_leastChange_0 : decode cL_leastChange 0 = .ok (.aload_n 0, 1) := by decide +kernel
theorem dL_leastChange_1 : decode cL_leastChange 1 = .ok (.iload_n 1, 1) := by decide +kernel
theorem dL_leastChange_2 : decode cL_leastChange 2 = .ok (.iload_n 2, 1) := by decide +kernel
theorem dL_leastChange_3 : decode cL_leastChange 3 = .ok (.iload_n 3, 1) := by decide +kernel
theorem dL_leastChange_4 : decode cL_leastChange 4 = .ok (.invokevirtual 81, 3) := by decide +kernel
theorem dL_leastChange_7 : decode cL_leastChange 7 = .ok (.ireturn, 1) := by decide +kernel
theorem dL_leastChange_8 : decode cL_leastChange 8 = .ok (.astore 4, 2) := by decide +kernel
theorem dL_leastChange_10 : decode cL_leastChange 10 = .ok (.ldc 18, 2) := by decide +kernel
theorem dL_leastChange_12 : decode cL_leastChange 12 = .ok (.ireturn, 1) := by decide +kernel
theorem dL_leastChange_13 : decode cL_leastChange 13 = .ok (.astore 4, 2) := by decide +kernel
theorem dL_leastChange_15 : decode cL_leastChange 15 = .ok (.ldc 21, 2) := by decide +kernel
theorem dL_leastChange_17 : decode cL_leastChange 17 = .ok (.ireturn, 1) := by decide +kernel
set_option maxRecDepth 20000 in
theorem ggL_act_L_low : GoodIn wsL_act wsL_low := goodIn_r _ [4, 5] (by decide +kernel) (by decide +kernel)
set_option maxRecDepth 20000 in
theorem gL_act_L_low : GoodIn wsL_act (va_wsS RL 84 yL_low wsL_low) := goodIn_app (goodIn_of _ (by decide +kernel)) ggL_act_L_low
set_option maxRecDepth 20000 in
theorem ggL_act_X5_clearBuffer : GoodIn wsL_act wsX5_clearBuffer := goodIn_r _ [10, 11, 12, 13, 14, 15, 16, 17, 248, 249, 250, 251, 252, 253] (by decide +kernel) (by decide +kernel)
set_option maxRecDepth 20000 in
theorem gL_act_X5_clearBuffer : GoodIn wsL_act (wsV RL 89 RX5 yX5_clearBuffer wsX5_clearBuffer) := goodIn_app (goodIn_of _ (by decide +kernel)) ggL_act_X5_clearBuffer
set_option maxRecDepth 20000 in
theorem ggL_act_L_append : GoodIn wsL_act wsL_append := goodIn_ca (goodIn_ca (goodIn_r _ [20, 21, 22, 23, 24, 25, 26, 27, 9, 28, 29, 30, 11, 31, 32, 33, 34, 35, 36, 37, 38, 15, 39, 17, 40, 41, 42, 43, 44, 248, 249, 250, 251, 252, 253] (by decide +kernel) (by decide +kernel)) (goodIn_sub (fun _ h => List.mem_cons_of_mem _ (List.mem_append_left _ (List.mem_append_left _ (List.mem_append_right _ h)))) (by decide +kernel))) (goodIn_sub (fun _ h => List.mem_cons_of_mem _ (List.mem_append_left _ (List.mem_append_right _ h))) (by decide +kernel))
set_option maxRecDepth 20000 in
theorem gL_act_L_append : GoodIn wsL_act (va_wsS RL 92 yL_append wsL_append) := goodIn_app (goodIn_of _ (by decide +kernel)) ggL_act_L_append
set_option maxRecDepth 20000 in
theorem ggL_act_L_load : GoodIn wsL_act wsL_load := goodIn_ca (goodIn_r _ [47, 21, 23, 48, 49, 50, 9, 51, 34, 35, 11, 52, 53, 54, 55, 56, 15, 57, 17, 58, 59, 60, 61, 44, 62, 63, 64, 65, 66, 67, 68, 69, 70, 71, 72, 73, 74, 75, 76, 77, 78, 79, 80, 81, 82, 83, 84, 85, 86, 87, 88, 89, 90, 91, 92, 93, 94, 95, 96, 97, 98, 12, 13, 14, 16, 99, 100, 101, 102, 103, 104, 105, 106, 107, 108, 109, 110, 111, 112, 113, 114, 115, 116, 117, 248, 249, 250, 251, 254, 255, 256, 257, 258, 259, 260, 261, 262, 263, 252, 253, 264, 265, 266, 267] (by decide +kernel) (by decide +kernel)) (goodIn_sub (fun _ h => List.mem_cons_of_mem _ (List.mem_append_left _ (List.mem_append_right _ h))) (by decide +kernel))
set_option maxRecDepth 20000 in
theorem gL_act_L_load : GoodIn wsL_act (va_wsS RL 95 yL_load wsL_load) := goodIn_app (goodIn_of _ (by decide +kernel)) ggL_act_L_load
set_option maxRecDepth 20000 in
theorem ggL_act_L_hang : GoodIn wsL_act wsL_hang := goodIn_ca (goodIn_ca (goodIn_r _ [120, 121, 21, 23, 24, 122, 123, 124, 9, 125, 52, 53, 126, 127, 128, 129, 130, 131, 132, 133, 34, 35, 65, 66, 67, 68, 69, 70, 71, 72, 73, 74, 75, 76, 77, 78, 79, 80, 81, 82, 83, 84, 85, 86, 87, 88, 89, 90, 91, 92, 93, 94, 134, 135, 136, 137, 248, 249, 250, 251, 264, 265, 266, 267, 254, 255, 256, 257, 258, 259, 260, 261, 262, 263] (by decide +kernel) (by decide +kernel)) (goodIn_sub (fun _ h => List.mem_cons_of_mem _ (List.mem_append_right _ h)) (by decide +kernel))) (goodIn_sub (fun _ h => List.mem_cons_of_mem _ (List.mem_append_left _ (List.mem_append_right _ h))) (by decide +kernel))
set_option maxRecDepth 20000 in
theorem gL_act_L_hang : GoodIn wsL_act (va_wsS RL 98 yL_hang wsL_hang) := goodIn_app (goodIn_of _ (by decide +kernel)) ggL_act_L_hang
set_option maxRecDepth 20000 in
theorem ggL_act_L_takeDown : GoodIn wsL_act wsL_takeDown := goodIn_ca (goodIn_r _ [140, 121, 23, 141, 142, 143, 9, 144, 52, 53, 145, 146, 147, 148, 129, 130, 65, 66, 67, 68, 69, 70, 71, 72, 73, 74, 75, 76, 77, 78, 79, 80, 81, 82, 83, 84, 85, 86, 87, 88, 89, 90, 91, 92, 93, 94, 149, 150, 151, 152, 153, 154, 155, 156, 103, 104, 105, 106, 107, 108, 109, 110, 111, 112, 113, 114, 115, 116, 117, 157, 158, 159, 160, 161, 162, 163, 164, 165, 166, 167, 248, 249, 250, 251, 254, 255, 256, 257, 258, 259, 260, 261, 262, 263, 264, 265, 266, 267] (by decide +kernel) (by decide +kernel)) (goodIn_sub (fun _ h => List.mem_cons_of_mem _ (List.mem_append_right _ h)) (by decide +kernel))
set_option maxRecDepth 20000 in
theorem gL_act_L_takeDown : GoodIn wsL_act (va_wsS RL 101 yL_takeDown wsL_takeDown) := goodIn_app (goodIn_of _ (by decide +kernel)) ggL_act_L_takeDown
set_option maxRecDepth 20000 in
theorem ggL_act_L_correct : GoodIn wsL_act wsL_correct := goodIn_ca (goodIn_r _ [170, 121, 23, 171, 172, 173, 9, 174, 52, 53, 145, 146, 147, 148, 129, 130, 175, 176, 177, 65, 66, 67, 68, 69, 70, 71, 72, 73, 74, 75, 76, 77, 78, 79, 80, 81, 82, 83, 84, 85, 86, 87, 88, 89, 90, 91, 92, 93, 94, 178, 179, 180, 181, 182, 183, 184, 185, 186, 187, 109, 188, 189, 108, 110, 111, 112, 113, 114, 115, 116, 117, 103, 104, 105, 106, 107, 248, 249, 250, 251, 254, 255, 256, 257, 258, 259, 260, 261, 262, 263, 264, 265, 266, 267] (by decide +kernel) (by decide +kernel)) (goodIn_sub (fun _ h => List.mem_cons_of_mem _ (List.mem_append_right _ h)) (by decide +kernel))
set_option maxRecDepth 20000 in
theorem gL_act_L_correct : GoodIn wsL_act (va_wsS RL 103 yL_correct wsL_correct) := goodIn_app (goodIn_of _ (by decide +kernel)) ggL_act_L_correct
set_option maxRecDepth 20000 in
theorem ggL_act_L_labelAll : GoodIn wsL_act wsL_labelAll := goodIn_ca (goodIn_r _ [192, 121, 23, 193, 194, 195, 9, 196, 52, 53, 175, 176, 177, 129, 130, 65, 66, 67, 68, 69, 70, 71, 72, 73, 74, 75, 76, 77, 78, 79, 80, 81, 82, 83, 84, 85, 86, 87, 88, 89, 90, 91, 92, 93, 94, 197, 198, 199, 200, 201, 202, 203, 204, 103, 104, 105, 106, 107, 108, 109, 110, 111, 112, 113, 114, 115, 116, 117, 205, 206, 207, 208, 209, 210, 211, 212, 158, 159, 160, 161, 162, 163, 248, 249, 250, 251, 264, 265, 266, 267, 254, 255, 256, 257, 258, 259, 260, 261, 262, 263] (by decide +kernel) (by decide +kernel)) (goodIn_sub (fun _ h => List.mem_cons_of_mem _ (List.mem_append_right _ h)) (by decide +kernel))
set_option maxRecDepth 20000 in
theorem gL_act_L_labelAll : GoodIn wsL_act (va_wsS RL 105 yL_labelAll wsL_labelAll) := goodIn_app (goodIn_of _ (by decide +kernel)) ggL_act_L_labelAll
set_option maxRecDepth 20000 in
theorem ggL_act_L_label : GoodIn wsL_act wsL_label := goodIn_ca (goodIn_ca (goodIn_r _ [215, 121, 21, 23, 24, 216, 217, 218, 9, 219, 52, 53, 126, 127, 128, 129, 130, 31, 32, 33, 34, 35, 65, 66, 67, 68, 69, 70, 71, 72, 73, 74, 75, 76, 77, 78, 79, 80, 81, 82, 83, 84, 85, 86, 87, 88, 89, 90, 91, 92, 93, 94, 248, 249, 250, 251, 254, 255, 256, 257, 258, 259, 260, 261, 262, 263, 264, 265, 266, 267] (by decide +kernel) (by decide +kernel)) (goodIn_sub (fun _ h => List.mem_cons_of_mem _ (List.mem_append_right _ h)) (by decide +kernel))) (goodIn_sub (fun _ h => List.mem_cons_of_mem _ (List.mem_append_left _ (List.mem_append_right _ h))) (by decide +kernel))
set_option maxRecDepth 20000 in
theorem gL_act_L_label : GoodIn wsL_act (va_wsS RL 107 yL_label wsL_label) := goodIn_app (goodIn_of _ (by decide +kernel)) ggL_act_L_label
set_option maxRecDepth 20000 in
theorem ggL_act_L_borrow : GoodIn wsL_act wsL_borrow := goodIn_ca (goodIn_r _ [222, 121, 23, 223, 224, 225, 9, 226, 52, 53, 175, 176, 177, 129, 130, 65, 66, 67, 68, 69, 70, 71, 72, 73, 74, 75, 76, 77, 78, 79, 80, 81, 82, 83, 84, 85, 86, 87, 88, 89, 90, 91, 92, 93, 94, 248, 249, 250, 251, 254, 255, 256, 257, 258, 259, 260, 261, 262, 263, 264, 265, 266, 267] (by decide +kernel) (by decide +kernel)) (goodIn_sub (fun _ h => List.mem_cons_of_mem _ (List.mem_append_right _ h)) (by decide +kernel))
set_option maxRecDepth 20000 in
theorem gL_act_L_borrow : GoodIn wsL_act (va_wsS RL 109 yL_borrow wsL_borrow) := goodIn_app (goodIn_of _ (by decide +kernel)) ggL_act_L_borrow
set_option maxRecDepth 20000 in
theorem ggL_act_L_painter : GoodIn wsL_act wsL_painter := goodIn_ca (goodIn_ca (goodIn_r _ [229, 121, 21, 23, 24, 230, 231, 232, 9, 233, 52, 53, 175, 176, 177, 129, 130, 31, 32, 33, 34, 35, 65, 66, 67, 68, 69, 70, 71, 72, 73, 74, 75, 76, 77, 78, 79, 80, 81, 82, 83, 84, 85, 86, 87, 88, 89, 90, 91, 92, 93, 94, 248, 249, 250, 251, 254, 255, 256, 257, 258, 259, 260, 261, 262, 263, 264, 265, 266, 267] (by decide +kernel) (by decide +kernel)) (goodIn_sub (fun _ h => List.mem_cons_of_mem _ (List.mem_append_right _ h)) (by decide +kernel))) (goodIn_sub (fun _ h => List.mem_cons_of_mem _ (List.mem_append_left _ (List.mem_append_right _ h))) (by decide +kernel))
set_option maxRecDepth 20000 in
theorem gL_act_L_painter : GoodIn wsL_act (va_wsS RL 111 yL_painter wsL_painter) := goodIn_app (goodIn_of _ (by decide +kernel)) ggL_act_L_painter
set_option maxRecDepth 20000 in
theorem ggL_act_L_mix : GoodIn wsL_act wsL_mix := goodIn_ca (goodIn_ca (goodIn_r _ [236, 121, 21, 23, 24, 237, 238, 239, 9, 240, 52, 53, 126, 127, 128, 129, 130, 31, 32, 33, 34, 35, 65, 66, 67, 68, 69, 70, 71, 72, 73, 74, 75, 76, 77, 78, 79, 80, 81, 82, 83, 84, 85, 86, 87, 88, 89, 90, 91, 92, 93, 94, 241, 242, 109, 243, 244, 245, 246, 247, 248, 249, 250, 251, 254, 255, 256, 257, 258, 259, 260, 261, 262, 263, 264, 265, 266, 267] (by decide +kernel) (by decide +kernel)) (goodIn_sub (fun _ h => List.mem_cons_of_mem _ (List.mem_append_right _ h)) (by decide +kernel))) (goodIn_sub (fun _ h => List.mem_cons_of_mem _ (List.mem_append_left _ (List.mem_append_right _ h))) (by decide +kernel))
set_option maxRecDepth 20000 in
theorem gL_act_L_mix : GoodIn wsL_act (va_wsS RL 114 yL_mix wsL_mix) := goodIn_app (goodIn_of _ (by decide +kernel)) ggL_act_L_mix
theorem dL_act_0 : decode cL_act 0 = .ok (.iconst 0, 1) := by decide +kernel
theorem dL_act_1 : decode cL_act 1 = .ok (.istore_n 3, 1) := by decide +kernel
theorem dL_act_2 : decode cL_act 2 = .ok (.iload_n 1, 1) := by decide +kernel
theorem dL_act_3 : decode cL_act 3 = .ok (.bipush 14, 2) := by decide +kernel
theorem dL_act_5 : decode cL_act 5 = .ok (.invokestatic 84, 3) := by decide +kernel
theorem dL_act_8 : decode cL_act 8 = .ok (.tableswitch 328 0 11 #[64, 64, 183, 183, 214, 225, 225, 243, 253, 274, 291, 309], 64) := by decide +kernel
theorem dL_act_72 : decode cL_act 72 = .ok (.iconst 1, 1) := by decide +kernel
theorem dL_act_73 : decode cL_act 73 = .ok (.iload_n 1, 1) := by decide +kernel
theorem dL_act_74 : decode cL_act 74 = .ok (.iconst 4, 1) := by decide +kernel
theorem dL_act_75 : decode cL_act 75 = .ok (.ishr, 1) := by decide +kernel
theorem dL_act_76 : decode cL_act 76 = .ok (.bipush 8, 2) := by decide +kernel
theorem dL_act_78 : decode cL_act 78 = .ok (.invokestatic 84, 3) := by decide +kernel
theorem dL_act_81 : decode cL_act 81 = .ok (.iadd, 1) := by decide +kernel
theorem dL_act_82 : decode cL_act 82 = .ok (.istore 4, 2) := by decide +kernel
theorem dL_act_84 : decode cL_act 84 = .ok (.aload_n 0, 1) := by decide +kernel
theorem dL_act_85 : decode cL_act 85 = .ok (.invokevirtual 89, 3) := by decide +kernel
theorem dL_act_88 : decode cL_act 88 = .ok (.istore_n 3, 1) := by decide +kernel
theorem dL_act_89 : decode cL_act 89 = .ok (.iconst 0, 1) := by decide +kernel
theorem dL_act_90 : decode cL_act 90 = .ok (.istore 5, 2) := by decide +kernel
theorem dL_act_92 : decode cL_act 92 = .ok (.iload 5, 2) := by decide +kernel
theorem dL_act_94 : decode cL_act 94 = .ok (.iload 4, 2) := by decide +kernel
theorem dL_act_96 : decode cL_act 96 = .ok (.if_icmp .ge 90, 3) := by decide +kernel
theorem dL_act_99 : decode cL_act 99 = .ok (.iload 5, 2) := by decide +kernel
theorem dL_act_101 : decode cL_act 101 = .ok (.ifCond .le 12, 3) := by decide +kernel
theorem dL_act_104 : decode cL_act 104 = .ok (.aload_n 0, 1) := by decide +kernel
theorem dL_act_105 : decode cL_act 105 = .ok (.bipush 59, 2) := by decide +kernel
theorem dL_act_107 : decode cL_act 107 = .ok (.invokestatic 92, 3) := by decide +kernel
theorem dL_act_110 : decode cL_act 110 = .ok (.goto 4, 3) := by decide +kernel
theorem dL_act_113 : decode cL_act 113 = .ok (.iconst 0, 1) := by decide +kernel
theorem dL_act_114 : decode cL_act 114 = .ok (.istore_n 3, 1) := by decide +kernel
theorem dL_act_115 : decode cL_act 115 = .ok (.aload_n 0, 1) := by decide +kernel
theorem dL_act_116 : decode cL_act 116 = .ok (.bipush 48, 2) := by decide +kernel
theorem dL_act_118 : decode cL_act 118 = .ok (.iload_n 1, 1) := by decide +kernel
theorem dL_act_119 : decode cL_act 119 = .ok (.iconst 3, 1) := by decide +kernel
theorem dL_act_120 : decode cL_act 120 = .ok (.iload 5, 2) := by decide +kernel
theorem dL_act_122 : decode cL_act 122 = .ok (.imul, 1) := by decide +kernel
theorem dL_act_123 : decode cL_act 123 = .ok (.ishr, 1) := by decide +kernel
theorem dL_act_124 : decode cL_act 124 = .ok (.bipush 8, 2) := by decide +kernel
theorem dL_act_126 : decode cL_act 126 = .ok (.invokestatic 84, 3) := by decide +kernel
theorem dL_act_129 : decode cL_act 129 = .ok (.iadd, 1) := by decide +kernel
theorem dL_act_130 : decode cL_act 130 = .ok (.invokestatic 92, 3) := by decide +kernel
theorem dL_act_133 : decode cL_act 133 = .ok (.istore_n 3, 1) := by decide +kernel
theorem dL_act_134 : decode cL_act 134 = .ok (.aload_n 0, 1) := by decide +kernel
theorem dL_act_135 : decode cL_act 135 = .ok (.bipush 61, 2) := by decide +kernel
theorem dL_act_137 : decode cL_act 137 = .ok (.invokestatic 92, 3) := by decide +kernel
theorem dL_act_140 : decode cL_act 140 = .ok (.istore_n 3, 1) := by decide +kernel
theorem dL_act_141 : decode cL_act 141 = .ok (.iconst 0, 1) := by decide +kernel
theorem dL_act_142 : decode cL_act 142 = .ok (.istore 6, 2) := by decide +kernel
theorem dL_act_144 : decode cL_act 144 = .ok (.iload 6, 2) := by decide +kernel
theorem dL_act_146 : decode cL_act 146 = .ok (.iconst 3, 1) := by decide +kernel
theorem dL_act_147 : decode cL_act 147 = .ok (.if_icmp .ge 33, 3) := by decide +kernel
theorem dL_act_150 : decode cL_act 150 = .ok (.aload_n 0, 1) := by decide +kernel
theorem dL_act_151 : decode cL_act 151 = .ok (.bipush 48, 2) := by decide +kernel
theorem dL_act_153 : decode cL_act 153 = .ok (.iload_n 2, 1) := by decide +kernel
theorem dL_act_154 : decode cL_act 154 = .ok (.iconst 2, 1) := by decide +kernel
theorem dL_act_155 : decode cL_act 155 = .ok (.iload 5, 2) := by decide +kernel
theorem dL_act_157 : decode cL_act 157 = .ok (.imul, 1) := by decide +kernel
theorem dL_act_158 : decode cL_act 158 = .ok (.iconst 5, 1) := by decide +kernel
theorem dL_act_159 : decode cL_act 159 = .ok (.iload 6, 2) := by decide +kernel
theorem dL_act_161 : decode cL_act 161 = .ok (.imul, 1) := by decide +kernel
theorem dL_act_162 : decode cL_act 162 = .ok (.iadd, 1) := by decide +kernel
theorem dL_act_163 : decode cL_act 163 = .ok (.ishr, 1) := by decide +kernel
theorem dL_act_164 : decode cL_act 164 = .ok (.bipush 10, 2) := by decide +kernel
theorem dL_act_166 : decode cL_act 166 = .ok (.invokestatic 84, 3) := by decide +kernel
theorem dL_act_169 : decode cL_act 169 = .ok (.iadd, 1) := by decide +kernel
theorem dL_act_170 : decode cL_act 170 = .ok (.invokestatic 92, 3) := by decide +kernel
theorem dL_act_173 : decode cL_act 173 = .ok (.istore_n 3, 1) := by decide +kernel
theorem dL_act_174 : decode cL_act 174 = .ok (.iinc 6 1, 3) := by decide +kernel
theorem dL_act_177 : decode cL_act 177 = .ok (.goto (-33), 3) := by decide +kernel
theorem dL_act_180 : decode cL_act 180 = .ok (.iinc 5 1, 3) := by decide +kernel
theorem dL_act_183 : decode cL_act 183 = .ok (.goto (-91), 3) := by decide +kernel
theorem dL_act_186 : decode cL_act 186 = .ok (.aload_n 0, 1) := by decide +kernel
theorem dL_act_187 : decode cL_act 187 = .ok (.invokestatic 95, 3) := by decide +kernel
theorem dL_act_190 : decode cL_act 190 = .ok (.ireturn, 1) := by decide +kernel
theorem dL_act_191 : decode cL_act 191 = .ok (.aload_n 0, 1) := by decide +kernel
theorem dL_act_192 : decode cL_act 192 = .ok (.iload_n 2, 1) := by decide +kernel
theorem dL_act_193 : decode cL_act 193 = .ok (.bipush 8, 2) := by decide +kernel
theorem dL_act_195 : decode cL_act 195 = .ok (.invokestatic 84, 3) := by decide +kernel
theorem dL_act_198 : decode cL_act 198 = .ok (.iload_n 2, 1) := by decide +kernel
theorem dL_act_199 : decode cL_act 199 = .ok (.bipush 8, 2) := by decide +kernel
theorem dL_act_201 : decode cL_act 201 = .ok (.invokestatic 84, 3) := by decide +kernel
theorem dL_act_204 : decode cL_act 204 = .ok (.iconst 1, 1) := by decide +kernel
theorem dL_act_205 : decode cL_act 205 = .ok (.iadd, 1) := by decide +kernel
theorem dL_act_206 : decode cL_act 206 = .ok (.iload_n 2, 1) := by decide +kernel
theorem dL_act_207 : decode cL_act 207 = .ok (.iconst 3, 1) := by decide +kernel
theorem dL_act_208 : decode cL_act 208 = .ok (.ishr, 1) := by decide +kernel
theorem dL_act_209 : decode cL_act 209 = .ok (.bipush 7, 2) := by decide +kernel
theorem dL_act_211 : decode cL_act 211 = .ok (.invokestatic 84, 3) := by decide +kernel
theorem dL_act_214 : decode cL_act 214 = .ok (.iadd, 1) := by decide +kernel
theorem dL_act_215 : decode cL_act 215 = .ok (.bipush 8, 2) := by decide +kernel
theorem dL_act_217 : decode cL_act 217 = .ok (.irem, 1) := by decide +kernel
theorem dL_act_218 : decode cL_act 218 = .ok (.invokestatic 98, 3) := by decide +kernel
theorem dL_act_221 : decode cL_act 221 = .ok (.ireturn, 1) := by decide +kernel
theorem dL_act_222 : decode cL_act 222 = .ok (.aload_n 0, 1) := by decide +kernel
theorem dL_act_223 : decode cL_act 223 = .ok (.iload_n 2, 1) := by decide +kernel
theorem dL_act_224 : decode cL_act 224 = .ok (.bipush 6, 2) := by decide +kernel
theorem dL_act_226 : decode cL_act 226 = .ok (.invokestatic 84, 3) := by decide +kernel
theorem dL_act_229 : decode cL_act 229 = .ok (.invokestatic 101, 3) := by decide +kernel
theorem dL_act_232 : decode cL_act 232 = .ok (.ireturn, 1) := by decide +kernel
theorem dL_act_233 : decode cL_act 233 = .ok (.aload_n 0, 1) := by decide +kernel
theorem dL_act_234 : decode cL_act 234 = .ok (.iload_n 2, 1) := by decide +kernel
theorem dL_act_235 : decode cL_act 235 = .ok (.bipush 6, 2) := by decide +kernel
theorem dL_act_237 : decode cL_act 237 = .ok (.invokestatic 84, 3) := by decide +kernel
theorem dL_act_240 : decode cL_act 240 = .ok (.iload_n 2, 1) := by decide +kernel
theorem dL_act_241 : decode cL_act 241 = .ok (.iconst 3, 1) := by decide +kernel
theorem dL_act_242 : decode cL_act 242 = .ok (.ishr, 1) := by decide +kernel
theorem dL_act_243 : decode cL_act 243 = .ok (.iconst 4, 1) := by decide +kernel
theorem dL_act_244 : decode cL_act 244 = .ok (.invokestatic 84, 3) := by decide +kernel
theorem dL_act_247 : decode cL_act 247 = .ok (.invokestatic 103, 3) := by decide +kernel
theorem dL_act_250 : decode cL_act 250 = .ok (.ireturn, 1) := by decide +kernel
theorem dL_act_251 : decode cL_act 251 = .ok (.aload_n 0, 1) := by decide +kernel
theorem dL_act_252 : decode cL_act 252 = .ok (.iload_n 2, 1) := by decide +kernel
theorem dL_act_253 : decode cL_act 253 = .ok (.iconst 4, 1) := by decide +kernel
theorem dL_act_254 : decode cL_act 254 = .ok (.invokestatic 84, 3) := by decide +kernel
theorem dL_act_257 : decode cL_act 257 = .ok (.invokestatic 105, 3) := by decide +kernel
theorem dL_act_260 : decode cL_act 260 = .ok (.ireturn, 1) := by decide +kernel
theorem dL_act_261 : decode cL_act 261 = .ok (.aload_n 0, 1) := by decide +kernel
theorem dL_act_262 : decode cL_act 262 = .ok (.iload_n 2, 1) := by decide +kernel
theorem dL_act_263 : decode cL_act 263 = .ok (.bipush 8, 2) := by decide +kernel
theorem dL_act_265 : decode cL_act 265 = .ok (.invokestatic 84, 3) := by decide +kernel
theorem dL_act_268 : decode cL_act 268 = .ok (.iload_n 2, 1) := by decide +kernel
theorem dL_act_269 : decode cL_act 269 = .ok (.iconst 3, 1) := by decide +kernel
theorem dL_act_270 : decode cL_act 270 = .ok (.ishr, 1) := by decide +kernel
theorem dL_act_271 : decode cL_act 271 = .ok (.bipush 9, 2) := by decide +kernel
theorem dL_act_273 : decode cL_act 273 = .ok (.invokestatic 84, 3) := by decide +kernel
theorem dL_act_276 : decode cL_act 276 = .ok (.iconst 1, 1) := by decide +kernel
theorem dL_act_277 : decode cL_act 277 = .ok (.isub, 1) := by decide +kernel
theorem dL_act_278 : decode cL_act 278 = .ok (.invokestatic 107, 3) := by decide +kernel
theorem dL_act_281 : decode cL_act 281 = .ok (.ireturn, 1) := by decide +kernel
theorem dL_act_282 : decode cL_act 282 = .ok (.aload_n 0, 1) := by decide +kernel
theorem dL_act_283 : decode cL_act 283 = .ok (.iload_n 2, 1) := by decide +kernel
theorem dL_act_284 : decode cL_act 284 = .ok (.iconst 4, 1) := by decide +kernel
theorem dL_act_285 : decode cL_act 285 = .ok (.invokestatic 84, 3) := by decide +kernel
theorem dL_act_288 : decode cL_act 288 = .ok (.iload_n 2, 1) := by decide +kernel
theorem dL_act_289 : decode cL_act 289 = .ok (.iconst 2, 1) := by decide +kernel
theorem dL_act_290 : decode cL_act 290 = .ok (.ishr, 1) := by decide +kernel
theorem dL_act_291 : decode cL_act 291 = .ok (.iconst 4, 1) := by decide +kernel
theorem dL_act_292 : decode cL_act 292 = .ok (.invokestatic 84, 3) := by decide +kernel
theorem dL_act_295 : decode cL_act 295 = .ok (.invokestatic 109, 3) := by decide +kernel
theorem dL_act_298 : decode cL_act 298 = .ok (.ireturn, 1) := by decide +kernel
theorem dL_act_299 : decode cL_act 299 = .ok (.aload_n 0, 1) := by decide +kernel
theorem dL_act_300 : decode cL_act 300 = .ok (.iload_n 2, 1) := by decide +kernel
theorem dL_act_301 : decode cL_act 301 = .ok (.iconst 4, 1) := by decide +kernel
theorem dL_act_302 : decode cL_act 302 = .ok (.invokestatic 84, 3) := by decide +kernel
theorem dL_act_305 : decode cL_act 305 = .ok (.iconst 0, 1) := by decide +kernel
theorem dL_act_306 : decode cL_act 306 = .ok (.iload_n 2, 1) := by decide +kernel
theorem dL_act_307 : decode cL_act 307 = .ok (.iconst 2, 1) := by decide +kernel
theorem dL_act_308 : decode cL_act 308 = .ok (.ishr, 1) := by decide +kernel
theorem dL_act_309 : decode cL_act 309 = .ok (.iconst 4, 1) := by decide +kernel
theorem dL_act_310 : decode cL_act 310 = .ok (.invokestatic 84, 3) := by decide +kernel
theorem dL_act_313 : decode cL_act 313 = .ok (.invokestatic 111, 3) := by decide +kernel
theorem dL_act_316 : decode cL_act 316 = .ok (.ireturn, 1) := by decide +kernel
theorem dL_act_317 : decode cL_act 317 = .ok (.aload_n 0, 1) := by decide +kernel
theorem dL_act_318 : decode cL_act 318 = .ok (.iload_n 2, 1) := by decide +kernel
theorem dL_act_319 : decode cL_act 319 = .ok (.iconst 4, 1) := by decide +kernel
theorem dL_act_320 : decode cL_act 320 = .ok (.invokestatic 84, 3) := by decide +kernel
theorem dL_act_323 : decode cL_act 323 = .ok (.iconst 1, 1) := by decide +kernel
theorem dL_act_324 : decode cL_act 324 = .ok (.iload_n 2, 1) := by decide +kernel
theorem dL_act_325 : decode cL_act 325 = .ok (.iconst 2, 1) := by decide +kernel
theorem dL_act_326 : decode cL_act 326 = .ok (.ishr, 1) := by decide +kernel
theorem dL_act_327 : decode cL_act 327 = .ok (.bipush 12, 2) := by decide +kernel
theorem dL_act_329 : decode cL_act 329 = .ok (.invokestatic 84, 3) := by decide +kernel
theorem dL_act_332 : decode cL_act 332 = .ok (.invokestatic 111, 3) := by decide +kernel
theorem dL_act_335 : decode cL_act 335 = .ok (.ireturn, 1) := by decide +kernel
theorem dL_act_336 : decode cL_act 336 = .ok (.aload_n 0, 1) := by decide +kernel
theorem dL_act_337 : decode cL_act 337 = .ok (.iload_n 1, 1) := by decide +kernel
theorem dL_act_338 : decode cL_act 338 = .ok (.iconst 4, 1) := by decide +kernel
theorem dL_act_339 : decode cL_act 339 = .ok (.ishr, 1) := by decide +kernel
theorem dL_act_340 : decode cL_act 340 = .ok (.bipush 8, 2) := by decide +kernel
theorem dL_act_342 : decode cL_act 342 = .ok (.invokestatic 84, 3) := by decide +kernel
theorem dL_act_345 : decode cL_act 345 = .ok (.iload_n 2, 1) := by decide +kernel
theorem dL_act_346 : decode cL_act 346 = .ok (.iconst 3, 1) := by decide +kernel
theorem dL_act_347 : decode cL_act 347 = .ok (.invokestatic 84, 3) := by decide +kernel
theorem dL_act_350 : decode cL_act 350 = .ok (.iload_n 2, 1) := by decide +kernel
theorem dL_act_351 : decode cL_act 351 = .ok (.iconst 2, 1) := by decide +kernel
theorem dL_act_352 : decode cL_act 352 = .ok (.ishr, 1) := by decide +kernel
theorem dL_act_353 : decode cL_act 353 = .ok (.bipush 10, 2) := by decide +kernel
theorem dL_act_355 : decode cL_act 355 = .ok (.invokestatic 84, 3) := by decide +kernel
theorem dL_act_358 : decode cL_act 358 = .ok (.invokestatic 114, 3) := by decide +kernel
theorem dL_act_361 : decode cL_act 361 = .ok (.ireturn, 1) := by decide +kernel
theorem dL_far_0 : decode cL_far 0 = .ok (.iconst 0, 1) := by decide +kernel
theorem dL_far_1 : decode cL_far 1 = .ok (.istore_n 2, 1) := by decide +kernel
theorem dL_far_2 : decode cL_far 2 = .ok (.iconst 1, 1) := by decide +kernel
theorem dL_far_3 : decode cL_far 3 = .ok (.istore_n 3, 1) := by decide +kernel
theorem dL_far_4 : decode cL_far 4 = .ok (.iload_n 3, 1) := by decide +kernel
theorem dL_far_5 : decode cL_far 5 = .ok (.sipush 1000, 3) := by decide +kernel
theorem dL_far_8 : decode cL_far 8 = .ok (.if_icmp .ge 42, 3) := by decide +kernel
theorem dL_far_11 : decode cL_far 11 = .ok (.iload_n 0, 1) := by decide +kernel
theorem dL_far_12 : decode cL_far 12 = .ok (.iload_n 3, 1) := by decide +kernel
theorem dL_far_13 : decode cL_far 13 = .ok (.idiv, 1) := by decide +kernel
theorem dL_far_14 : decode cL_far 14 = .ok (.bipush 10, 2) := by decide +kernel
theorem dL_far_16 : decode cL_far 16 = .ok (.irem, 1) := by decide +kernel
theorem dL_far_17 : decode cL_far 17 = .ok (.iload_n 1, 1) := by decide +kernel
theorem dL_far_18 : decode cL_far 18 = .ok (.iload_n 3, 1) := by decide +kernel
theorem dL_far_19 : decode cL_far 19 = .ok (.idiv, 1) := by decide +kernel
theorem dL_far_20 : decode cL_far 20 = .ok (.bipush 10, 2) := by decide +kernel
theorem dL_far_22 : decode cL_far 22 = .ok (.irem, 1) := by decide +kernel
theorem dL_far_23 : decode cL_far 23 = .ok (.isub, 1) := by decide +kernel
theorem dL_far_24 : decode cL_far 24 = .ok (.istore 4, 2) := by decide +kernel
theorem dL_far_26 : decode cL_far 26 = .ok (.iload_n 2, 1) := by decide +kernel
theorem dL_far_27 : decode cL_far 27 = .ok (.iload 4, 2) := by decide +kernel
theorem dL_far_29 : decode cL_far 29 = .ok (.ifCond .ge 9, 3) := by decide +kernel
theorem dL_far_32 : decode cL_far 32 = .ok (.iload 4, 2) := by decide +kernel
theorem dL_far_34 : decode cL_far 34 = .ok (.ineg, 1) := by decide +kernel
theorem dL_far_35 : decode cL_far 35 = .ok (.goto 5, 3) := by decide +kernel
theorem dL_far_38 : decode cL_far 38 = .ok (.iload 4, 2) := by decide +kernel
theorem dL_far_40 : decode cL_far 40 = .ok (.iadd, 1) := by decide +kernel
theorem dL_far_41 : decode cL_far 41 = .ok (.istore_n 2, 1) := by decide +kernel
theorem dL_far_42 : decode cL_far 42 = .ok (.iload_n 3, 1) := by decide +kernel
theorem dL_far_43 : decode cL_far 43 = .ok (.bipush 10, 2) := by decide +kernel
theorem dL_far_45 : decode cL_far 45 = .ok (.imul, 1) := by decide +kernel
theorem dL_far_46 : decode cL_far 46 = .ok (.istore_n 3, 1) := by decide +kernel
theorem dL_far_47 : decode cL_far 47 = .ok (.goto (-43), 3) := by decide +kernel
theorem dL_far_50 : decode cL_far 50 = .ok (.iload_n 2, 1) := by decide +kernel
theorem dL_far_51 : decode cL_far 51 = .ok (.ireturn, 1) := by decide +kernel
set_option maxRecDepth 20000 in
theorem ggL_hangs_L_painterOf : GoodIn wsL_hangs wsL_painterOf := goodIn_ca (goodIn_ca (goodIn_r _ [6, 7, 8, 9, 10, 11, 12, 13, 14, 15, 16, 17, 18, 19, 20, 21, 22, 23, 24, 25, 26, 27, 28, 29, 30, 31, 32, 33, 34, 35, 36, 37, 38, 39, 40, 41, 42, 43, 44, 45, 46, 47, 48, 49, 50, 51, 52, 53, 54, 55, 56, 57, 58, 59, 60, 61, 62, 63, 170, 171, 172, 173, 174, 175, 176, 177, 178, 179, 180, 181, 182, 183] (by decide +kernel) (by decide +kernel)) (goodIn_sub (fun _ h => List.mem_cons_of_mem _ (List.mem_append_left _ (List.mem_append_right _ h))) (by decide +kernel))) (goodIn_sub (fun _ h => List.mem_cons_of_mem _ (List.mem_append_right _ h)) (by decide +kernel))
set_option maxRecDepth 20000 in
theorem gL_hangs_L_painterOf : GoodIn wsL_hangs (va_wsS RL 116 yL_painterOf wsL_painterOf) := goodIn_app (goodIn_of _ (by decide +kernel)) ggL_hangs_L_painterOf
set_option maxRecDepth 20000 in
theorem ggL_hangs_L_apart : GoodIn wsL_hangs wsL_apart := goodIn_ca (goodIn_r _ [66, 7, 9, 67, 68, 69, 14, 70, 18, 19, 20, 21, 22, 23, 71, 72, 73, 74, 53, 54, 27, 55, 56, 29, 30, 31, 32, 33, 34, 35, 36, 37, 38, 39, 40, 41, 42, 43, 44, 45, 46, 170, 171, 172, 173, 174, 175, 176, 177, 178, 179, 180, 181, 182, 183] (by decide +kernel) (by decide +kernel)) (goodIn_sub (fun _ h => List.mem_cons_of_mem _ (List.mem_append_right _ h)) (by decide +kernel))
set_option maxRecDepth 20000 in
theorem gL_hangs_L_apart : GoodIn wsL_hangs (va_wsS RL 118 yL_apart wsL_apart) := goodIn_app (goodIn_of _ (by decide +kernel)) ggL_hangs_L_apart
set_option maxRecDepth 20000 in
theorem ggL_hangs_L_seen : GoodIn wsL_hangs wsL_seen := goodIn_ca (goodIn_r _ [77, 7, 9, 78, 79, 80, 14, 81, 18, 19, 20, 21, 22, 23, 71, 72, 73, 82, 45, 38, 46, 170, 171, 172, 173, 174, 175, 176, 177, 178, 179, 180, 181, 182, 183] (by decide +kernel) (by decide +kernel)) (goodIn_sub (fun _ h => List.mem_cons_of_mem _ (List.mem_append_right _ h)) (by decide +kernel))
set_option maxRecDepth 20000 in
theorem gL_hangs_L_seen : GoodIn wsL_hangs (va_wsS RL 120 yL_seen wsL_seen) := goodIn_app (goodIn_of _ (by decide +kernel)) ggL_hangs_L_seen
set_option maxRecDepth 20000 in
theorem ggL_hangs_L_far : GoodIn wsL_hangs wsL_far := goodIn_r _ [85] (by decide +kernel) (by decide +kernel)
set_option maxRecDepth 20000 in
theorem gL_hangs_L_far : GoodIn wsL_hangs (va_wsS RL 122 yL_far wsL_far) := goodIn_app (goodIn_of _ (by decide +kernel)) ggL_hangs_L_far
set_option maxRecDepth 20000 in
theorem ggL_hangs_L_potOf : GoodIn wsL_hangs wsL_potOf := goodIn_ca (goodIn_ca (goodIn_r _ [88, 7, 8, 9, 10, 89, 90, 91, 14, 92, 18, 71, 72, 73, 22, 23, 93, 94, 95, 16, 17, 96, 97, 38, 98, 99, 100, 101, 27, 102, 103, 104, 105, 106, 56, 29, 30, 31, 32, 33, 34, 35, 36, 37, 39, 40, 41, 42, 43, 44, 45, 46, 170, 171, 172, 173, 174, 175, 176, 177, 178, 179, 180, 181, 182, 183] (by decide +kernel) (by decide +kernel)) (goodIn_sub (fun _ h => List.mem_cons_of_mem _ (List.mem_append_right _ h)) (by decide +kernel))) (goodIn_sub (fun _ h => List.mem_cons_of_mem _ (List.mem_append_left _ (List.mem_append_right _ h))) (by decide +kernel))
set_option maxRecDepth 20000 in
theorem gL_hangs_L_potOf : GoodIn wsL_hangs (va_wsS RL 125 yL_potOf wsL_potOf) := goodIn_app (goodIn_of _ (by decide +kernel)) ggL_hangs_L_potOf
set_option maxRecDepth 20000 in
theorem ggL_hangs_L_count : GoodIn wsL_hangs wsL_count := goodIn_ca (goodIn_r _ [109, 8, 9, 110, 111, 112, 14, 113, 16, 17, 18, 114, 115, 116, 117, 27, 118, 51, 119, 120, 121, 122, 123, 124, 125, 126, 127, 128, 129, 130, 131, 132, 133, 103, 104, 105, 106, 56, 29, 30, 31, 32, 33, 34, 35, 36, 37, 38, 39, 40, 41, 42, 43, 44, 45, 46, 134, 135, 136, 137, 138, 48, 49, 50, 52, 53, 54, 55, 170, 171, 172, 173, 174, 175, 176, 177, 178, 179, 180, 181, 182, 183, 184, 185, 186, 187] (by decide +kernel) (by decide +kernel)) (goodIn_sub (fun _ h => List.mem_cons_of_mem _ (List.mem_append_left _ (List.mem_append_right _ h))) (by decide +kernel))
set_option maxRecDepth 20000 in
theorem gL_hangs_L_count : GoodIn wsL_hangs (va_wsS RL 127 yL_count wsL_count) := goodIn_app (goodIn_of _ (by decide +kernel)) ggL_hangs_L_count
set_option maxRecDepth 20000 in
theorem ggL_hangs_L_chartOf : GoodIn wsL_hangs wsL_chartOf := goodIn_ca (goodIn_ca (goodIn_r _ [141, 7, 8, 9, 10, 142, 143, 144, 14, 145, 16, 17, 18, 146, 147, 148, 149, 22, 23, 150, 151, 152, 27, 153, 62, 63, 103, 104, 105, 106, 56, 29, 30, 31, 32, 33, 34, 35, 36, 37, 38, 39, 40, 41, 42, 43, 44, 45, 46, 170, 171, 172, 173, 174, 175, 176, 177, 178, 179, 180, 181, 182, 183] (by decide +kernel) (by decide +kernel)) (goodIn_sub (fun _ h => List.mem_cons_of_mem _ (List.mem_append_left _ (List.mem_append_right _ h))) (by decide +kernel))) (goodIn_sub (fun _ h => List.mem_cons_of_mem _ (List.mem_append_right _ h)) (by decide +kernel))
set_option maxRecDepth 20000 in
theorem gL_hangs_L_chartOf : GoodIn wsL_hangs (va_wsS RL 129 yL_chartOf wsL_chartOf) := goodIn_app (goodIn_of _ (by decide +kernel)) ggL_hangs_L_chartOf
set_option maxRecDepth 20000 in
theorem ggL_hangs_L_ifBorrowed : GoodIn wsL_hangs wsL_ifBorrowed := goodIn_ca (goodIn_r _ [156, 7, 9, 157, 158, 159, 14, 160, 18, 19, 20, 21, 22, 23, 24, 25, 26, 27, 28, 29, 30, 31, 32, 33, 34, 35, 36, 37, 38, 39, 40, 41, 42, 43, 44, 45, 46, 170, 171, 172, 173, 174, 175, 176, 177, 178, 179, 180, 181, 182, 183] (by decide +kernel) (by decide +kernel)) (goodIn_sub (fun _ h => List.mem_cons_of_mem _ (List.mem_append_right _ h)) (by decide +kernel))
set_option maxRecDepth 20000 in
theorem gL_hangs_L_ifBorrowed : GoodIn wsL_hangs (va_wsS RL 131 yL_ifBorrowed wsL_ifBorrowed) := goodIn_app (goodIn_of _ (by decide +kernel)) ggL_hangs_L_ifBorrowed
set_option maxRecDepth 20000 in
theorem ggL_hangs_X5_bestPainter : GoodIn wsL_hangs wsX5_bestPainter := goodIn_r _ [164, 18, 24, 25, 26, 27, 28, 29, 30, 31, 32, 33, 34, 35, 36, 37, 38, 39, 40, 41, 42, 43, 44, 45, 46, 170, 171, 172, 173, 174, 175, 176, 177, 178, 179, 180, 181, 182, 183] (by decide +kernel) (by decide +kernel)
set_option maxRecDepth 20000 in
theorem gL_hangs_X5_bestPainter : GoodIn wsL_hangs (wsV RL 133 RX5 yX5_bestPainter wsX5_bestPainter) := goodIn_app (goodIn_of _ (by decide +kernel)) ggL_hangs_X5_bestPainter
set_option maxRecDepth 20000 in
theorem ggL_hangs_X5_apartShare : GoodIn wsL_hangs wsX5_apartShare := goodIn_r _ [168, 18, 169, 24, 25, 26, 27, 28, 29, 30, 31, 32, 33, 34, 35, 36, 37, 38, 39, 40, 41, 42, 43, 44, 45, 46, 170, 171, 172, 173, 174, 175, 176, 177, 178, 179, 180, 181, 182, 183] (by decide +kernel) (by decide +kernel)
set_option maxRecDepth 20000 in
theorem gL_hangs_X5_apartShare : GoodIn wsL_hangs (wsV RL 136 RX5 yX5_apartShare wsX5_apartShare) := goodIn_app (goodIn_of _ (by decide +kernel)) ggL_hangs_X5_apartShare
theorem dL_hangs_0 : decode cL_hangs 0 = .ok (.iconst 0, 1) := by decide +kernel
theorem dL_hangs_1 : decode cL_hangs 1 = .ok (.istore_n 1, 1) := by decide +kernel
theorem dL_hangs_2 : decode cL_hangs 2 = .ok (.iconst 0, 1) := by decide +kernel
theorem dL_hangs_3 : decode cL_hangs 3 = .ok (.istore_n 2, 1) := by decide +kernel
theorem dL_hangs_4 : decode cL_hangs 4 = .ok (.iconst (-1), 1) := by decide +kernel
theorem dL_hangs_5 : decode cL_hangs 5 = .ok (.istore_n 3, 1) := by decide +kernel
theorem dL_hangs_6 : decode cL_hangs 6 = .ok (.bipush 64, 2) := by decide +kernel
theorem dL_hangs_8 : decode cL_hangs 8 = .ok (.newarray .int, 2) := by decide +kernel
theorem dL_hangs_10 : decode cL_hangs 10 = .ok (.astore 4, 2) := by decide +kernel
theorem dL_hangs_12 : decode cL_hangs 12 = .ok (.iconst 0, 1) := by decide +kernel
theorem dL_hangs_13 : decode cL_hangs 13 = .ok (.istore 5, 2) := by decide +kernel
theorem dL_hangs_15 : decode cL_hangs 15 = .ok (.iload 5, 2) := by decide +kernel
theorem dL_hangs_17 : decode cL_hangs 17 = .ok (.iconst 4, 1) := by decide +kernel
theorem dL_hangs_18 : decode cL_hangs 18 = .ok (.if_icmp .ge 531, 3) := by decide +kernel
theorem dL_hangs_21 : decode cL_hangs 21 = .ok (.iconst 0, 1) := by decide +kernel
theorem dL_hangs_22 : decode cL_hangs 22 = .ok (.istore 6, 2) := by decide +kernel
theorem dL_hangs_24 : decode cL_hangs 24 = .ok (.iconst 0, 1) := by decide +kernel
theorem dL_hangs_25 : decode cL_hangs 25 = .ok (.istore 7, 2) := by decide +kernel
theorem dL_hangs_27 : decode cL_hangs 27 = .ok (.aload_n 0, 1) := by decide +kernel
theorem dL_hangs_28 : decode cL_hangs 28 = .ok (.iload 5, 2) := by decide +kernel
theorem dL_hangs_30 : decode cL_hangs 30 = .ok (.iconst 2, 1) := by decide +kernel
theorem dL_hangs_31 : decode cL_hangs 31 = .ok (.invokestatic 116, 3) := by decide +kernel
theorem dL_hangs_34 : decode cL_hangs 34 = .ok (.istore 8, 2) := by decide +kernel
theorem dL_hangs_36 : decode cL_hangs 36 = .ok (.iconst 0, 1) := by decide +kernel
theorem dL_hangs_37 : decode cL_hangs 37 = .ok (.istore 9, 2) := by decide +kernel
theorem dL_hangs_39 : decode cL_hangs 39 = .ok (.iload 9, 2) := by decide +kernel
theorem dL_hangs_41 : decode cL_hangs 41 = .ok (.bipush 8, 2) := by decide +kernel
theorem dL_hangs_43 : decode cL_hangs 43 = .ok (.if_icmp .ge 270, 3) := by decide +kernel
theorem dL_hangs_46 : decode cL_hangs 46 = .ok (.iconst 0, 1) := by decide +kernel
theorem dL_hangs_47 : decode cL_hangs 47 = .ok (.istore 10, 2) := by decide +kernel
theorem dL_hangs_49 : decode cL_hangs 49 = .ok (.iload 10, 2) := by decide +kernel
theorem dL_hangs_51 : decode cL_hangs 51 = .ok (.bipush 8, 2) := by decide +kernel
theorem dL_hangs_53 : decode cL_hangs 53 = .ok (.if_icmp .ge 254, 3) := by decide +kernel
theorem dL_hangs_56 : decode cL_hangs 56 = .ok (.aload_n 0, 1) := by decide +kernel
theorem dL_hangs_57 : decode cL_hangs 57 = .ok (.iload 5, 2) := by decide +kernel
theorem dL_hangs_59 : decode cL_hangs 59 = .ok (.iload 9, 2) := by decide +kernel
theorem dL_hangs_61 : decode cL_hangs 61 = .ok (.iload 10, 2) := by decide +kernel
theorem dL_hangs_63 : decode cL_hangs 63 = .ok (.invokestatic 118, 3) := by decide +kernel
theorem dL_hangs_66 : decode cL_hangs 66 = .ok (.iconst 1, 1) := by decide +kernel
theorem dL_hangs_67 : decode cL_hangs 67 = .ok (.if_icmp .ne 7, 3) := by decide +kernel
theorem dL_hangs_70 : decode cL_hangs 70 = .ok (.iconst 1, 1) := by decide +kernel
theorem dL_hangs_71 : decode cL_hangs 71 = .ok (.goto 4, 3) := by decide +kernel
theorem dL_hangs_74 : decode cL_hangs 74 = .ok (.iconst 0, 1) := by decide +kernel
theorem dL_hangs_75 : decode cL_hangs 75 = .ok (.istore 11, 2) := by decide +kernel
theorem dL_hangs_77 : decode cL_hangs 77 = .ok (.aload_n 0, 1) := by decide +kernel
theorem dL_hangs_78 : decode cL_hangs 78 = .ok (.iload 5, 2) := by decide +kernel
theorem dL_hangs_80 : decode cL_hangs 80 = .ok (.iload 9, 2) := by decide +kernel
theorem dL_hangs_82 : decode cL_hangs 82 = .ok (.invokestatic 120, 3) := by decide +kernel
theorem dL_hangs_85 : decode cL_hangs 85 = .ok (.aload_n 0, 1) := by decide +kernel
theorem dL_hangs_86 : decode cL_hangs 86 = .ok (.iload 5, 2) := by decide +kernel
theorem dL_hangs_88 : decode cL_hangs 88 = .ok (.iload 10, 2) := by decide +kernel
theorem dL_hangs_90 : decode cL_hangs 90 = .ok (.invokestatic 120, 3) := by decide +kernel
theorem dL_hangs_93 : decode cL_hangs 93 = .ok (.invokestatic 122, 3) := by decide +kernel
theorem dL_hangs_96 : decode cL_hangs 96 = .ok (.aload_n 0, 1) := by decide +kernel
theorem dL_hangs_97 : decode cL_hangs 97 = .ok (.iload 5, 2) := by decide +kernel
theorem dL_hangs_99 : decode cL_hangs 99 = .ok (.iconst 1, 1) := by decide +kernel
theorem dL_hangs_100 : decode cL_hangs 100 = .ok (.invokestatic 116, 3) := by decide +kernel
theorem dL_hangs_103 : decode cL_hangs 103 = .ok (.if_icmp .le 7, 3) := by decide +kernel
theorem dL_hangs_106 : decode cL_hangs 106 = .ok (.iconst 1, 1) := by decide +kernel
theorem dL_hangs_107 : decode cL_hangs 107 = .ok (.goto 4, 3) := by decide +kernel
theorem dL_hangs_110 : decode cL_hangs 110 = .ok (.iconst 0, 1) := by decide +kernel
theorem dL_hangs_111 : decode cL_hangs 111 = .ok (.istore 12, 2) := by decide +kernel
theorem dL_hangs_113 : decode cL_hangs 113 = .ok (.aload 4, 2) := by decide +kernel
theorem dL_hangs_115 : decode cL_hangs 115 = .ok (.bipush 8, 2) := by decide +kernel
theorem dL_hangs_117 : decode cL_hangs 117 = .ok (.iload 9, 2) := by decide +kernel
theorem dL_hangs_119 : decode cL_hangs 119 = .ok (.imul, 1) := by decide +kernel
theorem dL_hangs_120 : decode cL_hangs 120 = .ok (.iload 10, 2) := by decide +kernel
theorem dL_hangs_122 : decode cL_hangs 122 = .ok (.iadd, 1) := by decide +kernel
theorem dL_hangs_123 : decode cL_hangs 123 = .ok (.dup2, 1) := by decide +kernel
theorem dL_hangs_124 : decode cL_hangs 124 = .ok (.iaload, 1) := by decide +kernel
theorem dL_hangs_125 : decode cL_hangs 125 = .ok (.iload 11, 2) := by decide +kernel
theorem dL_hangs_127 : decode cL_hangs 127 = .ok (.ifCond .eq 7, 3) := by decide +kernel
theorem dL_hangs_130 : decode cL_hangs 130 = .ok (.iconst 1, 1) := by decide +kernel
theorem dL_hangs_131 : decode cL_hangs 131 = .ok (.goto 4, 3) := by decide +kernel
theorem dL_hangs_134 : decode cL_hangs 134 = .ok (.iconst 0, 1) := by decide +kernel
theorem dL_hangs_135 : decode cL_hangs 135 = .ok (.iadd, 1) := by decide +kernel
theorem dL_hangs_136 : decode cL_hangs 136 = .ok (.iastore, 1) := by decide +kernel
theorem dL_hangs_137 : decode cL_hangs 137 = .ok (.iload 6, 2) := by decide +kernel
theorem dL_hangs_139 : decode cL_hangs 139 = .ok (.iload 11, 2) := by decide +kernel
theorem dL_hangs_141 : decode cL_hangs 141 = .ok (.ifCond .eq 7, 3) := by decide +kernel
theorem dL_hangs_144 : decode cL_hangs 144 = .ok (.iconst 1, 1) := by decide +kernel
theorem dL_hangs_145 : decode cL_hangs 145 = .ok (.goto 4, 3) := by decide +kernel
theorem dL_hangs_148 : decode cL_hangs 148 = .ok (.iconst 0, 1) := by decide +kernel
theorem dL_hangs_149 : decode cL_hangs 149 = .ok (.iadd, 1) := by decide +kernel
theorem dL_hangs_150 : decode cL_hangs 150 = .ok (.istore 6, 2) := by decide +kernel
theorem dL_hangs_152 : decode cL_hangs 152 = .ok (.iload 7, 2) := by decide +kernel
theorem dL_hangs_154 : decode cL_hangs 154 = .ok (.iload 11, 2) := by decide +kernel
theorem dL_hangs_156 : decode cL_hangs 156 = .ok (.ifCond .eq 34, 3) := by decide +kernel
theorem dL_hangs_159 : decode cL_hangs 159 = .ok (.aload_n 0, 1) := by decide +kernel
theorem dL_hangs_160 : decode cL_hangs 160 = .ok (.iload 9, 2) := by decide +kernel
theorem dL_hangs_162 : decode cL_hangs 162 = .ok (.iconst 3, 1) := by decide +kernel
theorem dL_hangs_163 : decode cL_hangs 163 = .ok (.invokestatic 125, 3) := by decide +kernel
theorem dL_hangs_166 : decode cL_hangs 166 = .ok (.ifCond .lt 24, 3) := by decide +kernel
theorem dL_hangs_169 : decode cL_hangs 169 = .ok (.aload_n 0, 1) := by decide +kernel
theorem dL_hangs_170 : decode cL_hangs 170 = .ok (.iload 9, 2) := by decide +kernel
theorem dL_hangs_172 : decode cL_hangs 172 = .ok (.iconst 3, 1) := by decide +kernel
theorem dL_hangs_173 : decode cL_hangs 173 = .ok (.invokestatic 125, 3) := by decide +kernel
theorem dL_hangs_176 : decode cL_hangs 176 = .ok (.aload_n 0, 1) := by decide +kernel
theorem dL_hangs_177 : decode cL_hangs 177 = .ok (.iload 10, 2) := by decide +kernel
theorem dL_hangs_179 : decode cL_hangs 179 = .ok (.iconst 3, 1) := by decide +kernel
theorem dL_hangs_180 : decode cL_hangs 180 = .ok (.invokestatic 125, 3) := by decide +kernel
theorem dL_hangs_183 : decode cL_hangs 183 = .ok (.if_icmp .ne 7, 3) := by decide +kernel
theorem dL_hangs_186 : decode cL_hangs 186 = .ok (.iconst 1, 1) := by decide +kernel
theorem dL_hangs_187 : decode cL_hangs 187 = .ok (.goto 4, 3) := by decide +kernel
theorem dL_hangs_190 : decode cL_hangs 190 = .ok (.iconst 0, 1) := by decide +kernel
theorem dL_hangs_191 : decode cL_hangs 191 = .ok (.iadd, 1) := by decide +kernel
theorem dL_hangs_192 : decode cL_hangs 192 = .ok (.istore 7, 2) := by decide +kernel
theorem dL_hangs_194 : decode cL_hangs 194 = .ok (.iload 8, 2) := by decide +kernel
theorem dL_hangs_196 : decode cL_hangs 196 = .ok (.ifCond .lt 36, 3) := by decide +kernel
theorem dL_hangs_199 : decode cL_hangs 199 = .ok (.aload_n 0, 1) := by decide +kernel
theorem dL_hangs_200 : decode cL_hangs 200 = .ok (.iload 8, 2) := by decide +kernel
theorem dL_hangs_202 : decode cL_hangs 202 = .ok (.iload 9, 2) := by decide +kernel
theorem dL_hangs_204 : decode cL_hangs 204 = .ok (.invokestatic 120, 3) := by decide +kernel
theorem dL_hangs_207 : decode cL_hangs 207 = .ok (.aload_n 0, 1) := by decide +kernel
theorem dL_hangs_208 : decode cL_hangs 208 = .ok (.iload 8, 2) := by decide +kernel
theorem dL_hangs_210 : decode cL_hangs 210 = .ok (.iload 10, 2) := by decide +kernel
theorem dL_hangs_212 : decode cL_hangs 212 = .ok (.invokestatic 120, 3) := by decide +kernel
theorem dL_hangs_215 : decode cL_hangs 215 = .ok (.invokestatic 122, 3) := by decide +kernel
theorem dL_hangs_218 : decode cL_hangs 218 = .ok (.aload_n 0, 1) := by decide +kernel
theorem dL_hangs_219 : decode cL_hangs 219 = .ok (.iload 5, 2) := by decide +kernel
theorem dL_hangs_221 : decode cL_hangs 221 = .ok (.iconst 1, 1) := by decide +kernel
theorem dL_hangs_222 : decode cL_hangs 222 = .ok (.invokestatic 116, 3) := by decide +kernel
theorem dL_hangs_225 : decode cL_hangs 225 = .ok (.if_icmp .le 7, 3) := by decide +kernel
theorem dL_hangs_228 : decode cL_hangs 228 = .ok (.iconst 1, 1) := by decide +kernel
theorem dL_hangs_229 : decode cL_hangs 229 = .ok (.goto 4, 3) := by decide +kernel
theorem dL_hangs_232 : decode cL_hangs 232 = .ok (.iconst 0, 1) := by decide +kernel
theorem dL_hangs_233 : decode cL_hangs 233 = .ok (.istore 13, 2) := by decide +kernel
theorem dL_hangs_235 : decode cL_hangs 235 = .ok (.iload 11, 2) := by decide +kernel
theorem dL_hangs_237 : decode cL_hangs 237 = .ok (.iload 12, 2) := by decide +kernel
theorem dL_hangs_239 : decode cL_hangs 239 = .ok (.ifCond .ne 8, 3) := by decide +kernel
theorem dL_hangs_242 : decode cL_hangs 242 = .ok (.iload 13, 2) := by decide +kernel
theorem dL_hangs_244 : decode cL_hangs 244 = .ok (.ifCond .eq 7, 3) := by decide +kernel
theorem dL_hangs_247 : decode cL_hangs 247 = .ok (.iconst 1, 1) := by decide +kernel
theorem dL_hangs_248 : decode cL_hangs 248 = .ok (.goto 4, 3) := by decide +kernel
theorem dL_hangs_251 : decode cL_hangs 251 = .ok (.iconst 0, 1) := by decide +kernel
theorem dL_hangs_252 : decode cL_hangs 252 = .ok (.if_icmp .ne 47, 3) := by decide +kernel
theorem dL_hangs_255 : decode cL_hangs 255 = .ok (.iload 11, 2) := by decide +kernel
theorem dL_hangs_257 : decode cL_hangs 257 = .ok (.aload_n 0, 1) := by decide +kernel
theorem dL_hangs_258 : decode cL_hangs 258 = .ok (.iload 5, 2) := by decide +kernel
theorem dL_hangs_260 : decode cL_hangs 260 = .ok (.iload 10, 2) := by decide +kernel
theorem dL_hangs_262 : decode cL_hangs 262 = .ok (.iload 9, 2) := by decide +kernel
theorem dL_hangs_264 : decode cL_hangs 264 = .ok (.invokestatic 118, 3) := by decide +kernel
theorem dL_hangs_267 : decode cL_hangs 267 = .ok (.iconst 1, 1) := by decide +kernel
theorem dL_hangs_268 : decode cL_hangs 268 = .ok (.if_icmp .ne 7, 3) := by decide +kernel
theorem dL_hangs_271 : decode cL_hangs 271 = .ok (.iconst 1, 1) := by decide +kernel
theorem dL_hangs_272 : decode cL_hangs 272 = .ok (.goto 4, 3) := by decide +kernel
theorem dL_hangs_275 : decode cL_hangs 275 = .ok (.iconst 0, 1) := by decide +kernel
theorem dL_hangs_276 : decode cL_hangs 276 = .ok (.if_icmp .ne 23, 3) := by decide +kernel
theorem dL_hangs_279 : decode cL_hangs 279 = .ok (.iload 11, 2) := by decide +kernel
theorem dL_hangs_281 : decode cL_hangs 281 = .ok (.ifCond .eq 20, 3) := by decide +kernel
theorem dL_hangs_284 : decode cL_hangs 284 = .ok (.aload_n 0, 1) := by decide +kernel
theorem dL_hangs_285 : decode cL_hangs 285 = .ok (.iload 9, 2) := by decide +kernel
theorem dL_hangs_287 : decode cL_hangs 287 = .ok (.iconst 4, 1) := by decide +kernel
theorem dL_hangs_288 : decode cL_hangs 288 = .ok (.invokestatic 125, 3) := by decide +kernel
theorem dL_hangs_291 : decode cL_hangs 291 = .ok (.iload 5, 2) := by decide +kernel
theorem dL_hangs_293 : decode cL_hangs 293 = .ok (.ishr, 1) := by decide +kernel
theorem dL_hangs_294 : decode cL_hangs 294 = .ok (.iconst 1, 1) := by decide +kernel
theorem dL_hangs_295 : decode cL_hangs 295 = .ok (.iand, 1) := by decide +kernel
theorem dL_hangs_296 : decode cL_hangs 296 = .ok (.ifCond .ne 5, 3) := by decide +kernel
theorem dL_hangs_299 : decode cL_hangs 299 = .ok (.iconst 0, 1) := by decide +kernel
theorem dL_hangs_300 : decode cL_hangs 300 = .ok (.ireturn, 1) := by decide +kernel
theorem dL_hangs_301 : decode cL_hangs 301 = .ok (.iinc 10 1, 3) := by decide +kernel
theorem dL_hangs_304 : decode cL_hangs 304 = .ok (.goto (-255), 3) := by decide +kernel
theorem dL_hangs_307 : decode cL_hangs 307 = .ok (.iinc 9 1, 3) := by decide +kernel
theorem dL_hangs_310 : decode cL_hangs 310 = .ok (.goto (-271), 3) := by decide +kernel
theorem dL_hangs_313 : decode cL_hangs 313 = .ok (.iconst 0, 1) := by decide +kernel
theorem dL_hangs_314 : decode cL_hangs 314 = .ok (.istore 9, 2) := by decide +kernel
theorem dL_hangs_316 : decode cL_hangs 316 = .ok (.iconst 0, 1) := by decide +kernel
theorem dL_hangs_317 : decode cL_hangs 317 = .ok (.istore 10, 2) := by decide +kernel
theorem dL_hangs_319 : decode cL_hangs 319 = .ok (.iload 10, 2) := by decide +kernel
theorem dL_hangs_321 : decode cL_hangs 321 = .ok (.aload_n 0, 1) := by decide +kernel
theorem dL_hangs_322 : decode cL_hangs 322 = .ok (.iconst 2, 1) := by decide +kernel
theorem dL_hangs_323 : decode cL_hangs 323 = .ok (.invokestatic 127, 3) := by decide +kernel
theorem dL_hangs_326 : decode cL_hangs 326 = .ok (.if_icmp .ge 83, 3) := by decide +kernel
theorem dL_hangs_329 : decode cL_hangs 329 = .ok (.aload_n 0, 1) := by decide +kernel
theorem dL_hangs_330 : decode cL_hangs 330 = .ok (.iload 5, 2) := by decide +kernel
theorem dL_hangs_332 : decode cL_hangs 332 = .ok (.aload_n 0, 1) := by decide +kernel
theorem dL_hangs_333 : decode cL_hangs 333 = .ok (.iload 10, 2) := by decide +kernel
theorem dL_hangs_335 : decode cL_hangs 335 = .ok (.iconst 0, 1) := by decide +kernel
theorem dL_hangs_336 : decode cL_hangs 336 = .ok (.invokestatic 129, 3) := by decide +kernel
theorem dL_hangs_339 : decode cL_hangs 339 = .ok (.aload_n 0, 1) := by decide +kernel
theorem dL_hangs_340 : decode cL_hangs 340 = .ok (.iload 10, 2) := by decide +kernel
theorem dL_hangs_342 : decode cL_hangs 342 = .ok (.iconst 1, 1) := by decide +kernel
theorem dL_hangs_343 : decode cL_hangs 343 = .ok (.invokestatic 129, 3) := by decide +kernel
theorem dL_hangs_346 : decode cL_hangs 346 = .ok (.invokestatic 118, 3) := by decide +kernel
theorem dL_hangs_349 : decode cL_hangs 349 = .ok (.iconst 1, 1) := by decide +kernel
theorem dL_hangs_350 : decode cL_hangs 350 = .ok (.if_icmp .ne 7, 3) := by decide +kernel
theorem dL_hangs_353 : decode cL_hangs 353 = .ok (.iconst 1, 1) := by decide +kernel
theorem dL_hangs_354 : decode cL_hangs 354 = .ok (.goto 4, 3) := by decide +kernel
theorem dL_hangs_357 : decode cL_hangs 357 = .ok (.iconst 0, 1) := by decide +kernel
theorem dL_hangs_358 : decode cL_hangs 358 = .ok (.istore 11, 2) := by decide +kernel
theorem dL_hangs_360 : decode cL_hangs 360 = .ok (.iload 9, 2) := by decide +kernel
theorem dL_hangs_362 : decode cL_hangs 362 = .ok (.iload 11, 2) := by decide +kernel
theorem dL_hangs_364 : decode cL_hangs 364 = .ok (.ifCond .eq 7, 3) := by decide +kernel
