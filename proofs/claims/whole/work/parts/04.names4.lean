set_option maxRecDepth 20000 in
theorem ggX5_seen_X5_needPainter : GoodIn wsX5_seen wsX5_needPainter := goodIn_ca (goodIn_r _ [5, 6, 7] (by decide +kernel) (by decide +kernel)) (goodIn_sub (fun _ h => List.mem_cons_of_mem _ (List.mem_append_right _ h)) (by decide +kernel))
set_option maxRecDepth 20000 in
theorem gX5_seen_X5_needPainter : GoodIn wsX5_seen (va_wsS RX5 63 yX5_needPainter wsX5_needPainter) := goodIn_app (goodIn_of _ (by decide +kernel)) ggX5_seen_X5_needPainter
set_option maxRecDepth 20000 in
theorem ggX5_seen_X5_needPot : GoodIn wsX5_seen wsX5_needPot := goodIn_ca (goodIn_r _ [10, 6, 7] (by decide +kernel) (by decide +kernel)) (goodIn_sub (fun _ h => List.mem_cons_of_mem _ (List.mem_append_right _ h)) (by decide +kernel))
set_option maxRecDepth 20000 in
theorem gX5_seen_X5_needPot : GoodIn wsX5_seen (va_wsS RX5 37 yX5_needPot wsX5_needPot) := goodIn_app (goodIn_of _ (by decide +kernel)) ggX5_seen_X5_needPot
set_option maxRecDepth 20000 in
theorem ggX5_seen_X1_seenAs : GoodIn wsX5_seen wsX1_seenAs := goodIn_r _ [14] (by decide +kernel) (by decide +kernel)
set_option maxRecDepth 20000 in
theorem gX5_seen_X1_seenAs : GoodIn wsX5_seen (va_wsS RX5 175 yX1_seenAs wsX1_seenAs) := goodIn_app (goodIn_of _ (by decide +kernel)) ggX5_seen_X1_seenAs
theorem dX5_seen_0 : decode cX5_seen 0 = .ok (.iload_n 1, 1) := by decide +kernel
theorem dX5_seen_1 : decode cX5_seen 1 = .ok (.invokestatic 63, 3) := by decide +kernel
theorem dX5_seen_4 : decode cX5_seen 4 = .ok (.iload_n 2, 1) := by decide +kernel
theorem dX5_seen_5 : decode cX5_seen 5 = .ok (.invokestatic 37, 3) := by decide +kernel
theorem dX5_seen_8 : decode cX5_seen 8 = .ok (.aload_n 0, 1) := by decide +kernel
theorem dX5_seen_9 : decode cX5_seen 9 = .ok (.getfield 12, 3) := by decide +kernel
theorem dX5_seen_12 : decode cX5_seen 12 = .ok (.getfield 66, 3) := by decide +kernel
theorem dX5_seen_15 : decode cX5_seen 15 = .ok (.iload_n 1, 1) := by decide +kernel
theorem dX5_seen_16 : decode cX5_seen 16 = .ok (.iaload, 1) := by decide +kernel
theorem dX5_seen_17 : decode cX5_seen 17 = .ok (.aload_n 0, 1) := by decide +kernel
theorem dX5_seen_18 : decode cX5_seen 18 = .ok (.getfield 12, 3) := by decide +kernel
theorem dX5_seen_21 : decode cX5_seen 21 = .ok (.getfield 49, 3) := by decide +kernel
theorem dX5_seen_24 : decode cX5_seen 24 = .ok (.iload_n 2, 1) := by decide +kernel
theorem dX5_seen_25 : decode cX5_seen 25 = .ok (.iaload, 1) := by decide +kernel
theorem dX5_seen_26 : decode cX5_seen 26 = .ok (.invokestatic 175, 3) := by decide +kernel
theorem dX5_seen_29 : decode cX5_seen 29 = .ok (.ireturn, 1) := by decide +kernel
set_option maxRecDepth 20000 in
theorem ggX5_painterOf_X5_needPainter : GoodIn wsX5_painterOf wsX5_needPainter := goodIn_ca (goodIn_r _ [7, 8, 9] (by decide +kernel) (by decide +kernel)) (goodIn_sub (fun _ h => List.mem_cons_of_mem _ (List.mem_append_right _ h)) (by decide +kernel))
set_option maxRecDepth 20000 in
theorem gX5_painterOf_X5_needPainter : GoodIn wsX5_painterOf (va_wsS RX5 63 yX5_needPainter wsX5_needPainter) := goodIn_app (goodIn_of _ (by decide +kernel)) ggX5_painterOf_X5_needPainter
set_option maxRecDepth 20000 in
theorem ggX5_painterOf_X0_pairsTold : GoodIn wsX5_painterOf wsX0_pairsTold := goodIn_r _ [14, 15, 16, 17, 18, 13, 19, 20, 21, 22, 23, 24, 25, 26, 27, 28, 29, 30, 31, 32, 54, 55, 56, 57, 58, 59, 60, 61, 62, 63] (by decide +kernel) (by decide +kernel)
set_option maxRecDepth 20000 in
theorem gX5_painterOf_X0_pairsTold : GoodIn wsX5_painterOf (wsV RX5 145 RX0 yX0_pairsTold wsX0_pairsTold) := goodIn_app (goodIn_of _ (by decide +kernel)) ggX5_painterOf_X0_pairsTold
set_option maxRecDepth 20000 in
theorem ggX5_painterOf_X0_wrongPairs : GoodIn wsX5_painterOf wsX0_wrongPairs := goodIn_r _ [36, 37, 38, 39, 40, 13, 41, 42, 15, 16, 17, 18, 19, 20, 21, 22, 23, 24, 25, 26, 27, 28, 29, 30, 31, 32, 54, 55, 56, 57, 58, 59, 60, 61, 62, 63] (by decide +kernel) (by decide +kernel)
set_option maxRecDepth 20000 in
theorem gX5_painterOf_X0_wrongPairs : GoodIn wsX5_painterOf (wsV RX5 178 RX0 yX0_wrongPairs wsX0_wrongPairs) := goodIn_app (goodIn_of _ (by decide +kernel)) ggX5_painterOf_X0_wrongPairs
set_option maxRecDepth 20000 in
theorem ggX5_painterOf_X0_chartsRead : GoodIn wsX5_painterOf wsX0_chartsRead := goodIn_r _ [46, 47, 48, 49, 38, 39, 40, 13, 41, 42, 15, 16, 17, 18, 19, 20, 21, 22, 23, 24, 25, 26, 27, 28, 29, 30, 31, 32, 54, 55, 56, 57, 58, 59, 60, 61, 62, 63] (by decide +kernel) (by decide +kernel)
set_option maxRecDepth 20000 in
theorem gX5_painterOf_X0_chartsRead : GoodIn wsX5_painterOf (wsV RX5 181 RX0 yX0_chartsRead wsX0_chartsRead) := goodIn_app (goodIn_of _ (by decide +kernel)) ggX5_painterOf_X0_chartsRead
theorem dX5_painterOf_0 : decode cX5_painterOf 0 = .ok (.iload_n 1, 1) := by decide +kernel
theorem dX5_painterOf_1 : decode cX5_painterOf 1 = .ok (.invokestatic 63, 3) := by decide +kernel
theorem dX5_painterOf_4 : decode cX5_painterOf 4 = .ok (.iload_n 2, 1) := by decide +kernel
theorem dX5_painterOf_5 : decode cX5_painterOf 5 = .ok (.tableswitch 126 0 6 #[43, 53, 63, 73, 91, 100, 117], 43) := by decide +kernel
theorem dX5_painterOf_48 : decode cX5_painterOf 48 = .ok (.aload_n 0, 1) := by decide +kernel
theorem dX5_painterOf_49 : decode cX5_painterOf 49 = .ok (.getfield 12, 3) := by decide +kernel
theorem dX5_painterOf_52 : decode cX5_painterOf 52 = .ok (.getfield 66, 3) := by decide +kernel
theorem dX5_painterOf_55 : decode cX5_painterOf 55 = .ok (.iload_n 1, 1) := by decide +kernel
theorem dX5_painterOf_56 : decode cX5_painterOf 56 = .ok (.iaload, 1) := by decide +kernel
theorem dX5_painterOf_57 : decode cX5_painterOf 57 = .ok (.ireturn, 1) := by decide +kernel
theorem dX5_painterOf_58 : decode cX5_painterOf 58 = .ok (.aload_n 0, 1) := by decide +kernel
theorem dX5_painterOf_59 : decode cX5_painterOf 59 = .ok (.getfield 12, 3) := by decide +kernel
theorem dX5_painterOf_62 : decode cX5_painterOf 62 = .ok (.getfield 69, 3) := by decide +kernel
theorem dX5_painterOf_65 : decode cX5_painterOf 65 = .ok (.iload_n 1, 1) := by decide +kernel
theorem dX5_painterOf_66 : decode cX5_painterOf 66 = .ok (.iaload, 1) := by decide +kernel
theorem dX5_painterOf_67 : decode cX5_painterOf 67 = .ok (.ireturn, 1) := by decide +kernel
theorem dX5_painterOf_68 : decode cX5_painterOf 68 = .ok (.aload_n 0, 1) := by decide +kernel
theorem dX5_painterOf_69 : decode cX5_painterOf 69 = .ok (.getfield 12, 3) := by decide +kernel
theorem dX5_painterOf_72 : decode cX5_painterOf 72 = .ok (.getfield 72, 3) := by decide +kernel
theorem dX5_painterOf_75 : decode cX5_painterOf 75 = .ok (.iload_n 1, 1) := by decide +kernel
theorem dX5_painterOf_76 : decode cX5_painterOf 76 = .ok (.iaload, 1) := by decide +kernel
theorem dX5_painterOf_77 : decode cX5_painterOf 77 = .ok (.ireturn, 1) := by decide +kernel
theorem dX5_painterOf_78 : decode cX5_painterOf 78 = .ok (.aload_n 0, 1) := by decide +kernel
theorem dX5_painterOf_79 : decode cX5_painterOf 79 = .ok (.getfield 12, 3) := by decide +kernel
theorem dX5_painterOf_82 : decode cX5_painterOf 82 = .ok (.iload_n 1, 1) := by decide +kernel
theorem dX5_painterOf_83 : decode cX5_painterOf 83 = .ok (.aload_n 0, 1) := by decide +kernel
theorem dX5_painterOf_84 : decode cX5_painterOf 84 = .ok (.getfield 12, 3) := by decide +kernel
theorem dX5_painterOf_87 : decode cX5_painterOf 87 = .ok (.getfield 72, 3) := by decide +kernel
theorem dX5_painterOf_90 : decode cX5_painterOf 90 = .ok (.iload_n 1, 1) := by decide +kernel
theorem dX5_painterOf_91 : decode cX5_painterOf 91 = .ok (.iaload, 1) := by decide +kernel
theorem dX5_painterOf_92 : decode cX5_painterOf 92 = .ok (.invokevirtual 145, 3) := by decide +kernel
theorem dX5_painterOf_95 : decode cX5_painterOf 95 = .ok (.ireturn, 1) := by decide +kernel
theorem dX5_painterOf_96 : decode cX5_painterOf 96 = .ok (.aload_n 0, 1) := by decide +kernel
theorem dX5_painterOf_97 : decode cX5_painterOf 97 = .ok (.getfield 12, 3) := by decide +kernel
theorem dX5_painterOf_100 : decode cX5_painterOf 100 = .ok (.iload_n 1, 1) := by decide +kernel
theorem dX5_painterOf_101 : decode cX5_painterOf 101 = .ok (.invokevirtual 178, 3) := by decide +kernel
theorem dX5_painterOf_104 : decode cX5_painterOf 104 = .ok (.ireturn, 1) := by decide +kernel
theorem dX5_painterOf_105 : decode cX5_painterOf 105 = .ok (.aload_n 0, 1) := by decide +kernel
theorem dX5_painterOf_106 : decode cX5_painterOf 106 = .ok (.getfield 12, 3) := by decide +kernel
theorem dX5_painterOf_109 : decode cX5_painterOf 109 = .ok (.iload_n 1, 1) := by decide +kernel
theorem dX5_painterOf_110 : decode cX5_painterOf 110 = .ok (.invokevirtual 178, 3) := by decide +kernel
theorem dX5_painterOf_113 : decode cX5_painterOf 113 = .ok (.ifCond .ne 7, 3) := by decide +kernel
theorem dX5_painterOf_116 : decode cX5_painterOf 116 = .ok (.iconst 1, 1) := by decide +kernel
theorem dX5_painterOf_117 : decode cX5_painterOf 117 = .ok (.goto 4, 3) := by decide +kernel
theorem dX5_painterOf_120 : decode cX5_painterOf 120 = .ok (.iconst 0, 1) := by decide +kernel
theorem dX5_painterOf_121 : decode cX5_painterOf 121 = .ok (.ireturn, 1) := by decide +kernel
theorem dX5_painterOf_122 : decode cX5_painterOf 122 = .ok (.aload_n 0, 1) := by decide +kernel
theorem dX5_painterOf_123 : decode cX5_painterOf 123 = .ok (.getfield 12, 3) := by decide +kernel
theorem dX5_painterOf_126 : decode cX5_painterOf 126 = .ok (.iload_n 1, 1) := by decide +kernel
theorem dX5_painterOf_127 : decode cX5_painterOf 127 = .ok (.invokevirtual 181, 3) := by decide +kernel
theorem dX5_painterOf_130 : decode cX5_painterOf 130 = .ok (.ireturn, 1) := by decide +kernel
theorem dX5_painterOf_131 : decode cX5_painterOf 131 = .ok (.new 137, 3) := by decide +kernel
theorem dX5_painterOf_134 : decode cX5_painterOf 134 = .ok (.dup, 1) := by decide +kernel
theorem dX5_painterOf_135 : decode cX5_painterOf 135 = .ok (.ldc 184, 2) := by decide +kernel
theorem dX5_painterOf_137 : decode cX5_painterOf 137 = .ok (.invokespecial 141, 3) := by decide +kernel
theorem dX5_painterOf_140 : decode cX5_painterOf 140 = .ok (.athrow, 1) := by decide +kernel
set_option maxRecDepth 20000 in
theorem ggX5_apart_X5_needPainter : GoodIn wsX5_apart wsX5_needPainter := goodIn_ca (goodIn_r _ [5, 6, 7] (by decide +kernel) (by decide +kernel)) (goodIn_sub (fun _ h => List.mem_cons_of_mem _ (List.mem_append_right _ h)) (by decide +kernel))
set_option maxRecDepth 20000 in
theorem gX5_apart_X5_needPainter : GoodIn wsX5_apart (va_wsS RX5 63 yX5_needPainter wsX5_needPainter) := goodIn_app (goodIn_of _ (by decide +kernel)) ggX5_apart_X5_needPainter
set_option maxRecDepth 20000 in
theorem ggX5_apart_X5_needPot : GoodIn wsX5_apart wsX5_needPot := goodIn_ca (goodIn_r _ [10, 6, 7] (by decide +kernel) (by decide +kernel)) (goodIn_sub (fun _ h => List.mem_cons_of_mem _ (List.mem_append_right _ h)) (by decide +kernel))
set_option maxRecDepth 20000 in
theorem gX5_apart_X5_needPot : GoodIn wsX5_apart (va_wsS RX5 37 yX5_needPot wsX5_needPot) := goodIn_app (goodIn_of _ (by decide +kernel)) ggX5_apart_X5_needPot
set_option maxRecDepth 20000 in
theorem ggX5_apart_X0_tells : GoodIn wsX5_apart wsX0_tells := goodIn_r _ [15, 16, 17, 18, 19, 20, 14, 21, 22, 23, 24, 25, 26, 27, 28, 29, 30, 31, 32, 33, 34, 39, 40, 41, 42, 43, 44, 45, 46, 47, 48] (by decide +kernel) (by decide +kernel)
set_option maxRecDepth 20000 in
theorem gX5_apart_X0_tells : GoodIn wsX5_apart (wsV RX5 186 RX0 yX0_tells wsX0_tells) := goodIn_app (goodIn_of _ (by decide +kernel)) ggX5_apart_X0_tells
theorem dX5_apart_0 : decode cX5_apart 0 = .ok (.iload_n 1, 1) := by decide +kernel
theorem dX5_apart_1 : decode cX5_apart 1 = .ok (.invokestatic 63, 3) := by decide +kernel
theorem dX5_apart_4 : decode cX5_apart 4 = .ok (.iload_n 2, 1) := by decide +kernel
theorem dX5_apart_5 : decode cX5_apart 5 = .ok (.invokestatic 37, 3) := by decide +kernel
theorem dX5_apart_8 : decode cX5_apart 8 = .ok (.iload_n 3, 1) := by decide +kernel
theorem dX5_apart_9 : decode cX5_apart 9 = .ok (.invokestatic 37, 3) := by decide +kernel
theorem dX5_apart_12 : decode cX5_apart 12 = .ok (.aload_n 0, 1) := by decide +kernel
theorem dX5_apart_13 : decode cX5_apart 13 = .ok (.getfield 12, 3) := by decide +kernel
theorem dX5_apart_16 : decode cX5_apart 16 = .ok (.iload_n 1, 1) := by decide +kernel
theorem dX5_apart_17 : decode cX5_apart 17 = .ok (.iload_n 2, 1) := by decide +kernel
theorem dX5_apart_18 : decode cX5_apart 18 = .ok (.iload_n 3, 1) := by decide +kernel
theorem dX5_apart_19 : decode cX5_apart 19 = .ok (.invokevirtual 186, 3) := by decide +kernel
theorem dX5_apart_22 : decode cX5_apart 22 = .ok (.ifCond .eq 7, 3) := by decide +kernel
theorem dX5_apart_25 : decode cX5_apart 25 = .ok (.iconst 1, 1) := by decide +kernel
theorem dX5_apart_26 : decode cX5_apart 26 = .ok (.goto 4, 3) := by decide +kernel
theorem dX5_apart_29 : decode cX5_apart 29 = .ok (.iconst 0, 1) := by decide +kernel
theorem dX5_apart_30 : decode cX5_apart 30 = .ok (.ireturn, 1) := by decide +kernel
set_option maxRecDepth 20000 in
theorem ggX5_chartOf_X5_needChart : GoodIn wsX5_chartOf wsX5_needChart := goodIn_ca (goodIn_r _ [8, 9, 10, 3, 41, 42, 43, 44, 45, 46, 47, 48, 49, 50, 51, 52, 53, 54] (by decide +kernel) (by decide +kernel)) (goodIn_sub (fun _ h => List.mem_cons_of_mem _ (List.mem_append_right _ h)) (by decide +kernel))
set_option maxRecDepth 20000 in
theorem gX5_chartOf_X5_needChart : GoodIn wsX5_chartOf (wsV RX5 92 RX5 yX5_needChart wsX5_needChart) := goodIn_app (goodIn_of _ (by decide +kernel)) ggX5_chartOf_X5_needChart
set_option maxRecDepth 20000 in
theorem ggX5_chartOf_X0_readersOf : GoodIn wsX5_chartOf wsX0_readersOf := goodIn_r _ [15, 16, 17, 18, 19, 20, 14, 21, 22, 23, 24, 25, 26, 27, 28, 29, 30, 31, 32, 33, 34, 35, 36, 37, 38, 39, 40, 45, 46, 47, 48, 49, 50, 51, 52, 53, 54] (by decide +kernel) (by decide +kernel)
set_option maxRecDepth 20000 in
theorem gX5_chartOf_X0_readersOf : GoodIn wsX5_chartOf (wsV RX5 95 RX0 yX0_readersOf wsX0_readersOf) := goodIn_app (goodIn_of _ (by decide +kernel)) ggX5_chartOf_X0_readersOf
theorem dX5_chartOf_0 : decode cX5_chartOf 0 = .ok (.aload_n 0, 1) := by decide +kernel
theorem dX5_chartOf_1 : decode cX5_chartOf 1 = .ok (.iload_n 1, 1) := by decide +kernel
theorem dX5_chartOf_2 : decode cX5_chartOf 2 = .ok (.invokevirtual 92, 3) := by decide +kernel
theorem dX5_chartOf_5 : decode cX5_chartOf 5 = .ok (.iload_n 2, 1) := by decide +kernel
theorem dX5_chartOf_6 : decode cX5_chartOf 6 = .ok (.tableswitch 55 0 2 #[26, 36, 46], 26) := by decide +kernel
theorem dX5_chartOf_32 : decode cX5_chartOf 32 = .ok (.aload_n 0, 1) := by decide +kernel
theorem dX5_chartOf_33 : decode cX5_chartOf 33 = .ok (.getfield 12, 3) := by decide +kernel
theorem dX5_chartOf_36 : decode cX5_chartOf 36 = .ok (.getfield 190, 3) := by decide +kernel
theorem dX5_chartOf_39 : decode cX5_chartOf 39 = .ok (.iload_n 1, 1) := by decide +kernel
theorem dX5_chartOf_40 : decode cX5_chartOf 40 = .ok (.iaload, 1) := by decide +kernel
theorem dX5_chartOf_41 : decode cX5_chartOf 41 = .ok (.ireturn, 1) := by decide +kernel
theorem dX5_chartOf_42 : decode cX5_chartOf 42 = .ok (.aload_n 0, 1) := by decide +kernel
theorem dX5_chartOf_43 : decode cX5_chartOf 43 = .ok (.getfield 12, 3) := by decide +kernel
theorem dX5_chartOf_46 : decode cX5_chartOf 46 = .ok (.getfield 193, 3) := by decide +kernel
theorem dX5_chartOf_49 : decode cX5_chartOf 49 = .ok (.iload_n 1, 1) := by decide +kernel
theorem dX5_chartOf_50 : decode cX5_chartOf 50 = .ok (.iaload, 1) := by decide +kernel
theorem dX5_chartOf_51 : decode cX5_chartOf 51 = .ok (.ireturn, 1) := by decide +kernel
theorem dX5_chartOf_52 : decode cX5_chartOf 52 = .ok (.aload_n 0, 1) := by decide +kernel
theorem dX5_chartOf_53 : decode cX5_chartOf 53 = .ok (.getfield 12, 3) := by decide +kernel
theorem dX5_chartOf_56 : decode cX5_chartOf 56 = .ok (.iload_n 1, 1) := by decide +kernel
theorem dX5_chartOf_57 : decode cX5_chartOf 57 = .ok (.invokevirtual 95, 3) := by decide +kernel
theorem dX5_chartOf_60 : decode cX5_chartOf 60 = .ok (.ireturn, 1) := by decide +kernel
theorem dX5_chartOf_61 : decode cX5_chartOf 61 = .ok (.new 137, 3) := by decide +kernel
theorem dX5_chartOf_64 : decode cX5_chartOf 64 = .ok (.dup, 1) := by decide +kernel
theorem dX5_chartOf_65 : decode cX5_chartOf 65 = .ok (.ldc 196, 2) := by decide +kernel
theorem dX5_chartOf_67 : decode cX5_chartOf 67 = .ok (.invokespecial 141, 3) := by decide +kernel
theorem dX5_chartOf_70 : decode cX5_chartOf 70 = .ok (.athrow, 1) := by decide +kernel
set_option maxRecDepth 20000 in
theorem ggX5_count_X0_labelled : GoodIn wsX5_count wsX0_labelled := goodIn_r _ [9, 10, 65, 66, 67, 68, 69, 70, 71, 72, 73, 74] (by decide +kernel) (by decide +kernel)
set_option maxRecDepth 20000 in
theorem gX5_count_X0_labelled : GoodIn wsX5_count (wsV RX5 159 RX0 yX0_labelled wsX0_labelled) := goodIn_app (goodIn_of _ (by decide +kernel)) ggX5_count_X0_labelled
set_option maxRecDepth 20000 in
theorem ggX5_count_X0_unlikeLabels : GoodIn wsX5_count wsX0_unlikeLabels := goodIn_r _ [14, 10, 15, 16, 17, 18, 19, 20, 21, 65, 66, 67, 68, 69, 70, 71, 72, 73, 74] (by decide +kernel) (by decide +kernel)
set_option maxRecDepth 20000 in
theorem gX5_count_X0_unlikeLabels : GoodIn wsX5_count (wsV RX5 81 RX0 yX0_unlikeLabels wsX0_unlikeLabels) := goodIn_app (goodIn_of _ (by decide +kernel)) ggX5_count_X0_unlikeLabels
set_option maxRecDepth 20000 in
theorem ggX5_count_X0_pairsToldByNobody : GoodIn wsX5_count wsX0_pairsToldByNobody := goodIn_r _ [25, 26, 27, 28, 8, 29, 30, 31, 32, 33, 34, 35, 36, 37, 38, 39, 40, 41, 42, 43, 44, 45, 46, 47, 48, 65, 66, 67, 68, 69, 70, 71, 72, 73, 74] (by decide +kernel) (by decide +kernel)
set_option maxRecDepth 20000 in
theorem gX5_count_X0_pairsToldByNobody : GoodIn wsX5_count (wsV RX5 201 RX0 yX0_pairsToldByNobody wsX0_pairsToldByNobody) := goodIn_app (goodIn_of _ (by decide +kernel)) ggX5_count_X0_pairsToldByNobody
set_option maxRecDepth 20000 in
theorem ggX5_count_X0_paintersServed : GoodIn wsX5_count wsX0_paintersServed := goodIn_r _ [52, 53, 54, 55, 8, 56, 10, 57, 58, 59, 60, 30, 31, 32, 33, 34, 35, 36, 37, 38, 39, 40, 41, 42, 43, 44, 45, 46, 47, 48, 65, 66, 67, 68, 69, 70, 71, 72, 73, 74] (by decide +kernel) (by decide +kernel)
set_option maxRecDepth 20000 in
theorem gX5_count_X0_paintersServed : GoodIn wsX5_count (wsV RX5 204 RX0 yX0_paintersServed wsX0_paintersServed) := goodIn_app (goodIn_of _ (by decide +kernel)) ggX5_count_X0_paintersServed
theorem dX5_count_0 : decode cX5_count 0 = .ok (.iload_n 1, 1) := by decide +kernel
theorem dX5_count_1 : decode cX5_count 1 = .ok (.tableswitch 111 0 7 #[47, 55, 63, 71, 79, 87, 95, 103], 47) := by decide +kernel
theorem dX5_count_48 : decode cX5_count 48 = .ok (.aload_n 0, 1) := by decide +kernel
theorem dX5_count_49 : decode cX5_count 49 = .ok (.getfield 12, 3) := by decide +kernel
theorem dX5_count_52 : decode cX5_count 52 = .ok (.invokevirtual 159, 3) := by decide +kernel
theorem dX5_count_55 : decode cX5_count 55 = .ok (.ireturn, 1) := by decide +kernel
theorem dX5_count_56 : decode cX5_count 56 = .ok (.aload_n 0, 1) := by decide +kernel
theorem dX5_count_57 : decode cX5_count 57 = .ok (.getfield 12, 3) := by decide +kernel
theorem dX5_count_60 : decode cX5_count 60 = .ok (.invokevirtual 81, 3) := by decide +kernel
theorem dX5_count_63 : decode cX5_count 63 = .ok (.ireturn, 1) := by decide +kernel
theorem dX5_count_64 : decode cX5_count 64 = .ok (.aload_n 0, 1) := by decide +kernel
theorem dX5_count_65 : decode cX5_count 65 = .ok (.getfield 12, 3) := by decide +kernel
theorem dX5_count_68 : decode cX5_count 68 = .ok (.getfield 198, 3) := by decide +kernel
theorem dX5_count_71 : decode cX5_count 71 = .ok (.ireturn, 1) := by decide +kernel
theorem dX5_count_72 : decode cX5_count 72 = .ok (.aload_n 0, 1) := by decide +kernel
theorem dX5_count_73 : decode cX5_count 73 = .ok (.getfield 12, 3) := by decide +kernel
theorem dX5_count_76 : decode cX5_count 76 = .ok (.invokevirtual 201, 3) := by decide +kernel
theorem dX5_count_79 : decode cX5_count 79 = .ok (.ireturn, 1) := by decide +kernel
theorem dX5_count_80 : decode cX5_count 80 = .ok (.aload_n 0, 1) := by decide +kernel
theorem dX5_count_81 : decode cX5_count 81 = .ok (.getfield 12, 3) := by decide +kernel
theorem dX5_count_84 : decode cX5_count 84 = .ok (.invokevirtual 204, 3) := by decide +kernel
theorem dX5_count_87 : decode cX5_count 87 = .ok (.ireturn, 1) := by decide +kernel
theorem dX5_count_88 : decode cX5_count 88 = .ok (.aload_n 0, 1) := by decide +kernel
theorem dX5_count_89 : decode cX5_count 89 = .ok (.getfield 12, 3) := by decide +kernel
theorem dX5_count_92 : decode cX5_count 92 = .ok (.getfield 207, 3) := by decide +kernel
theorem dX5_count_95 : decode cX5_count 95 = .ok (.ireturn, 1) := by decide +kernel
theorem dX5_count_96 : decode cX5_count 96 = .ok (.aload_n 0, 1) := by decide +kernel
theorem dX5_count_97 : decode cX5_count 97 = .ok (.getfield 12, 3) := by decide +kernel
theorem dX5_count_100 : decode cX5_count 100 = .ok (.getfield 210, 3) := by decide +kernel
theorem dX5_count_103 : decode cX5_count 103 = .ok (.ireturn, 1) := by decide +kernel
theorem dX5_count_104 : decode cX5_count 104 = .ok (.aload_n 0, 1) := by decide +kernel
theorem dX5_count_105 : decode cX5_count 105 = .ok (.getfield 19, 3) := by decide +kernel
theorem dX5_count_108 : decode cX5_count 108 = .ok (.getfield 164, 3) := by decide +kernel
theorem dX5_count_111 : decode cX5_count 111 = .ok (.ireturn, 1) := by decide +kernel
theorem dX5_count_112 : decode cX5_count 112 = .ok (.new 137, 3) := by decide +kernel
theorem dX5_count_115 : decode cX5_count 115 = .ok (.dup, 1) := by decide +kernel
theorem dX5_count_116 : decode cX5_count 116 = .ok (.ldc 213, 2) := by decide +kernel
theorem dX5_count_118 : decode cX5_count 118 = .ok (.invokespecial 141, 3) := by decide +kernel
theorem dX5_count_121 : decode cX5_count 121 = .ok (.athrow, 1) := by decide +kernel
set_option maxRecDepth 20000 in
theorem ggX5_fewest_X5_needPainter : GoodIn wsX5_fewest wsX5_needPainter := goodIn_ca (goodIn_r _ [6, 7, 8] (by decide +kernel) (by decide +kernel)) (goodIn_sub (fun _ h => List.mem_cons_of_mem _ (List.mem_append_left _ (List.mem_append_right _ h))) (by decide +kernel))
set_option maxRecDepth 20000 in
theorem gX5_fewest_X5_needPainter : GoodIn wsX5_fewest (va_wsS RX5 63 yX5_needPainter wsX5_needPainter) := goodIn_app (goodIn_of _ (by decide +kernel)) ggX5_fewest_X5_needPainter
set_option maxRecDepth 20000 in
theorem ggX5_fewest_X5_needWithin : GoodIn wsX5_fewest wsX5_needWithin := goodIn_ca (goodIn_r _ [11, 12, 13] (by decide +kernel) (by decide +kernel)) (goodIn_sub (fun _ h => List.mem_cons_of_mem _ (List.mem_append_right _ h)) (by decide +kernel))
set_option maxRecDepth 20000 in
theorem gX5_fewest_X5_needWithin : GoodIn wsX5_fewest (va_wsS RX5 41 yX5_needWithin wsX5_needWithin) := goodIn_app (goodIn_of _ (by decide +kernel)) ggX5_fewest_X5_needWithin
set_option maxRecDepth 20000 in
theorem ggX5_fewest_X2_look : GoodIn wsX5_fewest wsX2_look := goodIn_r _ [18, 19, 20, 21, 22, 23, 24, 25, 26, 27, 28, 29, 30, 31, 32, 33, 34, 35, 36, 37, 38, 39, 40, 41, 42, 43, 69, 70, 71, 72, 73, 74, 75, 76, 77, 78, 79, 80, 81, 82] (by decide +kernel) (by decide +kernel)
set_option maxRecDepth 20000 in
theorem gX5_fewest_X2_look : GoodIn wsX5_fewest (wsV RX5 215 RX2 yX2_look wsX2_look) := goodIn_app (goodIn_of _ (by decide +kernel)) ggX5_fewest_X2_look
set_option maxRecDepth 20000 in
theorem ggX5_fewest_X2_fewestBySets : GoodIn wsX5_fewest wsX2_fewestBySets := goodIn_r _ [47, 48, 49, 19, 50, 51, 52, 17, 53, 54, 55, 39, 56, 69, 70, 71, 72] (by decide +kernel) (by decide +kernel)
set_option maxRecDepth 20000 in
theorem gX5_fewest_X2_fewestBySets : GoodIn wsX5_fewest (wsV RX5 219 RX2 yX2_fewestBySets wsX2_fewestBySets) := goodIn_app (goodIn_of _ (by decide +kernel)) ggX5_fewest_X2_fewestBySets
set_option maxRecDepth 20000 in
theorem ggX5_fewest_X2_fewestByTrying : GoodIn wsX5_fewest wsX2_fewestByTrying := goodIn_r _ [60, 19, 61, 62, 63, 17, 64, 69, 70, 71, 72] (by decide +kernel) (by decide +kernel)
set_option maxRecDepth 20000 in
theorem gX5_fewest_X2_fewestByTrying : GoodIn wsX5_fewest (wsV RX5 222 RX2 yX2_fewestByTrying wsX2_fewestByTrying) := goodIn_app (goodIn_of _ (by decide +kernel)) ggX5_fewest_X2_fewestByTrying
theorem dX5_fewest_0 : decode cX5_fewest 0 = .ok (.iload_n 1, 1) := by decide +kernel
theorem dX5_fewest_1 : decode cX5_fewest 1 = .ok (.invokestatic 63, 3) := by decide +kernel
theorem dX5_fewest_4 : decode cX5_fewest 4 = .ok (.iload_n 2, 1) := by decide +kernel
theorem dX5_fewest_5 : decode cX5_fewest 5 = .ok (.iconst 0, 1) := by decide +kernel
theorem dX5_fewest_6 : decode cX5_fewest 6 = .ok (.iconst 1, 1) := by decide +kernel
theorem dX5_fewest_7 : decode cX5_fewest 7 = .ok (.invokestatic 41, 3) := by decide +kernel
theorem dX5_fewest_10 : decode cX5_fewest 10 = .ok (.aload_n 0, 1) := by decide +kernel
theorem dX5_fewest_11 : decode cX5_fewest 11 = .ok (.getfield 33, 3) := by decide +kernel
theorem dX5_fewest_14 : decode cX5_fewest 14 = .ok (.aload_n 0, 1) := by decide +kernel
theorem dX5_fewest_15 : decode cX5_fewest 15 = .ok (.getfield 12, 3) := by decide +kernel
theorem dX5_fewest_18 : decode cX5_fewest 18 = .ok (.iload_n 1, 1) := by decide +kernel
theorem dX5_fewest_19 : decode cX5_fewest 19 = .ok (.invokevirtual 215, 3) := by decide +kernel
theorem dX5_fewest_22 : decode cX5_fewest 22 = .ok (.iload_n 2, 1) := by decide +kernel
theorem dX5_fewest_23 : decode cX5_fewest 23 = .ok (.ifCond .ne 13, 3) := by decide +kernel
theorem dX5_fewest_26 : decode cX5_fewest 26 = .ok (.aload_n 0, 1) := by decide +kernel
theorem dX5_fewest_27 : decode cX5_fewest 27 = .ok (.getfield 33, 3) := by decide +kernel
theorem dX5_fewest_30 : decode cX5_fewest 30 = .ok (.invokevirtual 219, 3) := by decide +kernel
theorem dX5_fewest_33 : decode cX5_fewest 33 = .ok (.goto 10, 3) := by decide +kernel
theorem dX5_fewest_36 : decode cX5_fewest 36 = .ok (.aload_n 0, 1) := by decide +kernel
theorem dX5_fewest_37 : decode cX5_fewest 37 = .ok (.getfield 33, 3) := by decide +kernel
theorem dX5_fewest_40 : decode cX5_fewest 40 = .ok (.invokevirtual 222, 3) := by decide +kernel
theorem dX5_fewest_43 : decode cX5_fewest 43 = .ok (.ireturn, 1) := by decide +kernel
set_option maxRecDepth 20000 in
theorem ggX5_ifBorrowed_X5_needPainter : GoodIn wsX5_ifBorrowed wsX5_needPainter := goodIn_ca (goodIn_r _ [5, 6, 7] (by decide +kernel) (by decide +kernel)) (goodIn_sub (fun _ h => List.mem_cons_of_mem _ (List.mem_append_right _ h)) (by decide +kernel))
set_option maxRecDepth 20000 in
theorem gX5_ifBorrowed_X5_needPainter : GoodIn wsX5_ifBorrowed (va_wsS RX5 63 yX5_needPainter wsX5_needPainter) := goodIn_app (goodIn_of _ (by decide +kernel)) ggX5_ifBorrowed_X5_needPainter
set_option maxRecDepth 20000 in
theorem ggX5_ifBorrowed_X0_pairsTold : GoodIn wsX5_ifBorrowed wsX0_pairsTold := goodIn_r _ [12, 13, 14, 15, 16, 11, 17, 18, 19, 20, 21, 22, 23, 24, 25, 26, 27, 28, 29, 30, 35, 36, 37, 38, 39, 40, 41, 42, 43, 44] (by decide +kernel) (by decide +kernel)
set_option maxRecDepth 20000 in
theorem gX5_ifBorrowed_X0_pairsTold : GoodIn wsX5_ifBorrowed (wsV RX5 145 RX0 yX0_pairsTold wsX0_pairsTold) := goodIn_app (goodIn_of _ (by decide +kernel)) ggX5_ifBorrowed_X0_pairsTold
theorem dX5_ifBorrowed_0 : decode cX5_ifBorrowed 0 = .ok (.iload_n 1, 1) := by decide +kernel
theorem dX5_ifBorrowed_1 : decode cX5_ifBorrowed 1 = .ok (.invokestatic 63, 3) := by decide +kernel
theorem dX5_ifBorrowed_4 : decode cX5_ifBorrowed 4 = .ok (.iload_n 2, 1) := by decide +kernel
theorem dX5_ifBorrowed_5 : decode cX5_ifBorrowed 5 = .ok (.invokestatic 63, 3) := by decide +kernel
theorem dX5_ifBorrowed_8 : decode cX5_ifBorrowed 8 = .ok (.aload_n 0, 1) := by decide +kernel
theorem dX5_ifBorrowed_9 : decode cX5_ifBorrowed 9 = .ok (.getfield 12, 3) := by decide +kernel
theorem dX5_ifBorrowed_12 : decode cX5_ifBorrowed 12 = .ok (.iload_n 1, 1) := by decide +kernel
theorem dX5_ifBorrowed_13 : decode cX5_ifBorrowed 13 = .ok (.iload_n 2, 1) := by decide +kernel
theorem dX5_ifBorrowed_14 : decode cX5_ifBorrowed 14 = .ok (.invokevirtual 145, 3) := by decide +kernel
theorem dX5_ifBorrowed_17 : decode cX5_ifBorrowed 17 = .ok (.ireturn, 1) := by decide +kernel
set_option maxRecDepth 20000 in
theorem ggX5_leastChange_X5_needPainter : GoodIn wsX5_leastChange wsX5_needPainter := goodIn_ca (goodIn_r _ [5, 6, 7] (by decide +kernel) (by decide +kernel)) (goodIn_sub (fun _ h => List.mem_cons_of_mem _ (List.mem_append_left _ (List.mem_append_right _ h))) (by decide +kernel))
set_option maxRecDepth 20000 in
theorem gX5_leastChange_X5_needPainter : GoodIn wsX5_leastChange (va_wsS RX5 63 yX5_needPainter wsX5_needPainter) := goodIn_app (goodIn_of _ (by decide +kernel)) ggX5_leastChange_X5_needPainter
set_option maxRecDepth 20000 in
theorem ggX5_leastChange_X5_needPot : GoodIn wsX5_leastChange wsX5_needPot := goodIn_ca (goodIn_r _ [10, 6, 7] (by decide +kernel) (by decide +kernel)) (goodIn_sub (fun _ h => List.mem_cons_of_mem _ (List.mem_append_left _ (List.mem_append_right _ h))) (by decide +kernel))
set_option maxRecDepth 20000 in
theorem gX5_leastChange_X5_needPot : GoodIn wsX5_leastChange (va_wsS RX5 37 yX5_needPot wsX5_needPot) := goodIn_app (goodIn_of _ (by decide +kernel)) ggX5_leastChange_X5_needPot
set_option maxRecDepth 20000 in
theorem ggX5_leastChange_X5_needUnlike : GoodIn wsX5_leastChange wsX5_needUnlike := goodIn_ca (goodIn_r _ [13, 14, 15] (by decide +kernel) (by decide +kernel)) (goodIn_sub (fun _ h => List.mem_cons_of_mem _ (List.mem_append_right _ h)) (by decide +kernel))
set_option maxRecDepth 20000 in
theorem gX5_leastChange_X5_needUnlike : GoodIn wsX5_leastChange (va_wsS RX5 85 yX5_needUnlike wsX5_needUnlike) := goodIn_app (goodIn_of _ (by decide +kernel)) ggX5_leastChange_X5_needUnlike
set_option maxRecDepth 20000 in
theorem ggX5_leastChange_X0_nearestColour : GoodIn wsX5_leastChange wsX0_nearestColour := goodIn_r _ [20, 21, 22, 23, 24, 25, 26, 27, 28, 29, 30, 31, 32, 33, 34, 35, 36, 37, 38, 39, 19, 40, 41, 42, 43, 49, 50, 51, 52, 53, 54, 55, 56, 57, 58] (by decide +kernel) (by decide +kernel)
set_option maxRecDepth 20000 in
theorem gX5_leastChange_X0_nearestColour : GoodIn wsX5_leastChange (wsV RX5 225 RX0 yX0_nearestColour wsX0_nearestColour) := goodIn_app (goodIn_of _ (by decide +kernel)) ggX5_leastChange_X0_nearestColour
set_option maxRecDepth 20000 in
theorem ggX5_leastChange_X1_change : GoodIn wsX5_leastChange wsX1_change := goodIn_r _ [26, 27, 28, 25, 29, 30, 31, 32, 33, 34, 35, 36] (by decide +kernel) (by decide +kernel)
set_option maxRecDepth 20000 in
theorem gX5_leastChange_X1_change : GoodIn wsX5_leastChange (va_wsS RX5 228 yX1_change wsX1_change) := goodIn_app (goodIn_of _ (by decide +kernel)) ggX5_leastChange_X1_change
theorem dX5_leastChange_0 : decode cX5_leastChange 0 = .ok (.iload_n 1, 1) := by decide +kernel
theorem dX5_leastChange_1 : decode cX5_leastChange 1 = .ok (.invokestatic 63, 3) := by decide +kernel
theorem dX5_leastChange_4 : decode cX5_leastChange 4 = .ok (.iload_n 2, 1) := by decide +kernel
theorem dX5_leastChange_5 : decode cX5_leastChange 5 = .ok (.invokestatic 37, 3) := by decide +kernel
theorem dX5_leastChange_8 : decode cX5_leastChange 8 = .ok (.iload_n 3, 1) := by decide +kernel
theorem dX5_leastChange_9 : decode cX5_leastChange 9 = .ok (.invokestatic 37, 3) := by decide +kernel
theorem dX5_leastChange_12 : decode cX5_leastChange 12 = .ok (.iload_n 2, 1) := by decide +kernel
theorem dX5_leastChange_13 : decode cX5_leastChange 13 = .ok (.iload_n 3, 1) := by decide +kernel
theorem dX5_leastChange_14 : decode cX5_leastChange 14 = .ok (.invokestatic 85, 3) := by decide +kernel
theorem dX5_leastChange_17 : decode cX5_leastChange 17 = .ok (.aload_n 0, 1) := by decide +kernel
theorem dX5_leastChange_18 : decode cX5_leastChange 18 = .ok (.getfield 12, 3) := by decide +kernel
theorem dX5_leastChange_21 : decode cX5_leastChange 21 = .ok (.iload_n 1, 1) := by decide +kernel
theorem dX5_leastChange_22 : decode cX5_leastChange 22 = .ok (.iload_n 2, 1) := by decide +kernel
theorem dX5_leastChange_23 : decode cX5_leastChange 23 = .ok (.iload_n 3, 1) := by decide +kernel
theorem dX5_leastChange_24 : decode cX5_leastChange 24 = .ok (.invokevirtual 225, 3) := by decide +kernel
theorem dX5_leastChange_27 : decode cX5_leastChange 27 = .ok (.istore 4, 2) := by decide +kernel
theorem dX5_leastChange_29 : decode cX5_leastChange 29 = .ok (.iload 4, 2) := by decide +kernel
theorem dX5_leastChange_31 : decode cX5_leastChange 31 = .ok (.iconst (-1), 1) := by decide +kernel
theorem dX5_leastChange_32 : decode cX5_leastChange 32 = .ok (.if_icmp .ne 7, 3) := by decide +kernel
theorem dX5_leastChange_35 : decode cX5_leastChange 35 = .ok (.iconst (-1), 1) := by decide +kernel
theorem dX5_leastChange_36 : decode cX5_leastChange 36 = .ok (.goto 17, 3) := by decide +kernel
theorem dX5_leastChange_39 : decode cX5_leastChange 39 = .ok (.aload_n 0, 1) := by decide +kernel
theorem dX5_leastChange_40 : decode cX5_leastChange 40 = .ok (.getfield 12, 3) := by decide +kernel
theorem dX5_leastChange_43 : decode cX5_leastChange 43 = .ok (.getfield 49, 3) := by decide +kernel
theorem dX5_leastChange_46 : decode cX5_leastChange 46 = .ok (.iload_n 2, 1) := by decide +kernel
theorem dX5_leastChange_47 : decode cX5_leastChange 47 = .ok (.iaload, 1) := by decide +kernel
theorem dX5_leastChange_48 : decode cX5_leastChange 48 = .ok (.iload 4, 2) := by decide +kernel
theorem dX5_leastChange_50 : decode cX5_leastChange 50 = .ok (.invokestatic 228, 3) := by decide +kernel
theorem dX5_leastChange_53 : decode cX5_leastChange 53 = .ok (.ireturn, 1) := by decide +kernel
set_option maxRecDepth 20000 in
theorem ggX5_bestPainter_X0_pairsTold : GoodIn wsX5_bestPainter wsX0_pairsTold := goodIn_r _ [6, 7, 8, 9, 10, 5, 11, 12, 13, 14, 15, 16, 17, 18, 19, 20, 21, 22, 23, 24, 29, 30, 31, 32, 33, 34, 35, 36, 37, 38] (by decide +kernel) (by decide +kernel)
set_option maxRecDepth 20000 in
theorem gX5_bestPainter_X0_pairsTold : GoodIn wsX5_bestPainter (wsV RX5 145 RX0 yX0_pairsTold wsX0_pairsTold) := goodIn_app (goodIn_of _ (by decide +kernel)) ggX5_bestPainter_X0_pairsTold
theorem dX5_bestPainter_0 : decode cX5_bestPainter 0 = .ok (.iconst 0, 1) := by decide +kernel
theorem dX5_bestPainter_1 : decode cX5_bestPainter 1 = .ok (.istore_n 1, 1) := by decide +kernel
theorem dX5_bestPainter_2 : decode cX5_bestPainter 2 = .ok (.iconst (-1), 1) := by decide +kernel
theorem dX5_bestPainter_3 : decode cX5_bestPainter 3 = .ok (.istore_n 2, 1) := by decide +kernel
theorem dX5_bestPainter_4 : decode cX5_bestPainter 4 = .ok (.iconst 0, 1) := by decide +kernel
theorem dX5_bestPainter_5 : decode cX5_bestPainter 5 = .ok (.istore_n 3, 1) := by decide +kernel
theorem dX5_bestPainter_6 : decode cX5_bestPainter 6 = .ok (.iload_n 3, 1) := by decide +kernel
theorem dX5_bestPainter_7 : decode cX5_bestPainter 7 = .ok (.iconst 4, 1) := by decide +kernel
theorem dX5_bestPainter_8 : decode cX5_bestPainter 8 = .ok (.if_icmp .ge 39, 3) := by decide +kernel
theorem dX5_bestPainter_11 : decode cX5_bestPainter 11 = .ok (.aload_n 0, 1) := by decide +kernel
theorem dX5_bestPainter_12 : decode cX5_bestPainter 12 = .ok (.getfield 12, 3) := by decide +kernel
theorem dX5_bestPainter_15 : decode cX5_bestPainter 15 = .ok (.iload_n 3, 1) := by decide +kernel
theorem dX5_bestPainter_16 : decode cX5_bestPainter 16 = .ok (.aload_n 0, 1) := by decide +kernel
theorem dX5_bestPainter_17 : decode cX5_bestPainter 17 = .ok (.getfield 12, 3) := by decide +kernel
theorem dX5_bestPainter_20 : decode cX5_bestPainter 20 = .ok (.getfield 72, 3) := by decide +kernel
theorem dX5_bestPainter_23 : decode cX5_bestPainter 23 = .ok (.iload_n 3, 1) := by decide +kernel
theorem dX5_bestPainter_24 : decode cX5_bestPainter 24 = .ok (.iaload, 1) := by decide +kernel
theorem dX5_bestPainter_25 : decode cX5_bestPainter 25 = .ok (.invokevirtual 145, 3) := by decide +kernel
theorem dX5_bestPainter_28 : decode cX5_bestPainter 28 = .ok (.istore 4, 2) := by decide +kernel
theorem dX5_bestPainter_30 : decode cX5_bestPainter 30 = .ok (.iload 4, 2) := by decide +kernel
theorem dX5_bestPainter_32 : decode cX5_bestPainter 32 = .ok (.iload_n 2, 1) := by decide +kernel
theorem dX5_bestPainter_33 : decode cX5_bestPainter 33 = .ok (.if_icmp .le 8, 3) := by decide +kernel
theorem dX5_bestPainter_36 : decode cX5_bestPainter 36 = .ok (.iload_n 3, 1) := by decide +kernel
theorem dX5_bestPainter_37 : decode cX5_bestPainter 37 = .ok (.istore_n 1, 1) := by decide +kernel
theorem dX5_bestPainter_38 : decode cX5_bestPainter 38 = .ok (.iload 4, 2) := by decide +kernel
theorem dX5_bestPainter_40 : decode cX5_bestPainter 40 = .ok (.istore_n 2, 1) := by decide +kernel
theorem dX5_bestPainter_41 : decode cX5_bestPainter 41 = .ok (.iinc 3 1, 3) := by decide +kernel
theorem dX5_bestPainter_44 : decode cX5_bestPainter 44 = .ok (.goto (-38), 3) := by decide +kernel
theorem dX5_bestPainter_47 : decode cX5_bestPainter 47 = .ok (.iload_n 1, 1) := by decide +kernel
theorem dX5_bestPainter_48 : decode cX5_bestPainter 48 = .ok (.ireturn, 1) := by decide +kernel
set_option maxRecDepth 20000 in
theorem ggX5_apartShare_X0_pairsTold : GoodIn wsX5_apartShare wsX0_pairsTold := goodIn_r _ [7, 8, 9, 10, 11, 6, 12, 13, 14, 15, 16, 17, 18, 19, 20, 21, 22, 23, 24, 25, 30, 31, 32, 33, 34, 35, 36, 37, 38, 39] (by decide +kernel) (by decide +kernel)
set_option maxRecDepth 20000 in
theorem gX5_apartShare_X0_pairsTold : GoodIn wsX5_apartShare (wsV RX5 145 RX0 yX0_pairsTold wsX0_pairsTold) := goodIn_app (goodIn_of _ (by decide +kernel)) ggX5_apartShare_X0_pairsTold
theorem dX5_apartShare_0 : decode cX5_apartShare 0 = .ok (.iconst 0, 1) := by decide +kernel
theorem dX5_apartShare_1 : decode cX5_apartShare 1 = .ok (.istore_n 1, 1) := by decide +kernel
theorem dX5_apartShare_2 : decode cX5_apartShare 2 = .ok (.iconst 0, 1) := by decide +kernel
theorem dX5_apartShare_3 : decode cX5_apartShare 3 = .ok (.istore_n 2, 1) := by decide +kernel
theorem dX5_apartShare_4 : decode cX5_apartShare 4 = .ok (.iload_n 2, 1) := by decide +kernel
theorem dX5_apartShare_5 : decode cX5_apartShare 5 = .ok (.iconst 4, 1) := by decide +kernel
theorem dX5_apartShare_6 : decode cX5_apartShare 6 = .ok (.if_icmp .ge 29, 3) := by decide +kernel
theorem dX5_apartShare_9 : decode cX5_apartShare 9 = .ok (.iload_n 1, 1) := by decide +kernel
theorem dX5_apartShare_10 : decode cX5_apartShare 10 = .ok (.aload_n 0, 1) := by decide +kernel
theorem dX5_apartShare_11 : decode cX5_apartShare 11 = .ok (.getfield 12, 3) := by decide +kernel
theorem dX5_apartShare_14 : decode cX5_apartShare 14 = .ok (.iload_n 2, 1) := by decide +kernel
theorem dX5_apartShare_15 : decode cX5_apartShare 15 = .ok (.aload_n 0, 1) := by decide +kernel
theorem dX5_apartShare_16 : decode cX5_apartShare 16 = .ok (.getfield 12, 3) := by decide +kernel
theorem dX5_apartShare_19 : decode cX5_apartShare 19 = .ok (.getfield 72, 3) := by decide +kernel
theorem dX5_apartShare_22 : decode cX5_apartShare 22 = .ok (.iload_n 2, 1) := by decide +kernel
theorem dX5_apartShare_23 : decode cX5_apartShare 23 = .ok (.iaload, 1) := by decide +kernel
theorem dX5_apartShare_24 : decode cX5_apartShare 24 = .ok (.invokevirtual 145, 3) := by decide +kernel
theorem dX5_apartShare_27 : decode cX5_apartShare 27 = .ok (.iadd, 1) := by decide +kernel
theorem dX5_apartShare_28 : decode cX5_apartShare 28 = .ok (.istore_n 1, 1) := by decide +kernel
theorem dX5_apartShare_29 : decode cX5_apartShare 29 = .ok (.iinc 2 1, 3) := by decide +kernel
theorem dX5_apartShare_32 : decode cX5_apartShare 32 = .ok (.goto (-28), 3) := by decide +kernel
theorem dX5_apartShare_35 : decode cX5_apartShare 35 = .ok (.iload_n 1, 1) := by decide +kernel
theorem dX5_apartShare_36 : decode cX5_apartShare 36 = .ok (.i2d, 1) := by decide +kernel
theorem dX5_apartShare_37 : decode cX5_apartShare 37 = .ok (.ldc2_w 231, 3) := by decide +kernel
theorem dX5_apartShare_40 : decode cX5_apartShare 40 = .ok (.ddiv, 1) := by decide +kernel
theorem dX5_apartShare_41 : decode cX5_apartShare 41 = .ok (.dreturn, 1) := by decide +kernel
set_option maxRecDepth 20000 in
theorem ggX5_digest_X5_count : GoodIn wsX5_digest wsX5_count := goodIn_ca (goodIn_r _ [7, 8, 9, 10, 2, 11, 12, 13, 14, 15, 16, 17, 18, 19, 20, 21, 22, 23, 24, 25, 26, 27, 28, 29, 30, 31, 32, 33, 34, 35, 36, 37, 38, 39, 40, 41, 42, 43, 44, 45, 46, 47, 48, 49, 50, 51, 52, 53, 54, 55, 56, 57, 58, 59, 60, 61, 62, 63, 64, 65, 66, 211, 212, 213, 214, 219, 220, 221, 222, 223, 224, 225, 226, 227, 228, 215, 216, 217, 218] (by decide +kernel) (by decide +kernel)) (goodIn_sub (fun _ h => List.mem_cons_of_mem _ (List.mem_append_left _ (List.mem_append_right _ h))) (by decide +kernel))
set_option maxRecDepth 20000 in
theorem gX5_digest_X5_count : GoodIn wsX5_digest (wsV RX5 235 RX5 yX5_count wsX5_count) := goodIn_app (goodIn_of _ (by decide +kernel)) ggX5_digest_X5_count
set_option maxRecDepth 20000 in
theorem ggX5_digest_X5_hashed : GoodIn wsX5_digest wsX5_hashed := goodIn_r _ [69, 70] (by decide +kernel) (by decide +kernel)
set_option maxRecDepth 20000 in
theorem gX5_digest_X5_hashed : GoodIn wsX5_digest (va_wsS RX5 238 yX5_hashed wsX5_hashed) := goodIn_app (goodIn_of _ (by decide +kernel)) ggX5_digest_X5_hashed
set_option maxRecDepth 20000 in
theorem ggX5_digest_X5_hashOfPots : GoodIn wsX5_digest wsX5_hashOfPots := goodIn_ca (goodIn_ca (goodIn_r _ [74, 75, 76, 77, 6, 78, 10, 79, 80, 81, 82, 83, 84, 85, 86, 8, 9, 87, 88, 46, 89, 90, 91, 92, 14, 93, 32, 33, 34, 35, 36, 37, 38, 39, 40, 41, 42, 43, 44, 45, 47, 48, 49, 50, 51, 52, 53, 54, 67, 68, 69, 70, 211, 212, 213, 214, 219, 220, 221, 222, 223, 224, 225, 226, 227, 228] (by decide +kernel) (by decide +kernel)) (goodIn_sub (fun _ h => List.mem_cons_of_mem _ (List.mem_append_right _ h)) (by decide +kernel))) (goodIn_sub (fun _ h => List.mem_cons_of_mem _ (List.mem_append_left _ (List.mem_append_right _ h))) (by decide +kernel))
set_option maxRecDepth 20000 in
theorem gX5_digest_X5_hashOfPots : GoodIn wsX5_digest (wsV RX5 242 RX5 yX5_hashOfPots wsX5_hashOfPots) := goodIn_app (goodIn_of _ (by decide +kernel)) ggX5_digest_X5_hashOfPots
set_option maxRecDepth 20000 in
theorem ggX5_digest_X5_hashOfPainters : GoodIn wsX5_digest wsX5_hashOfPainters := goodIn_ca (goodIn_ca (goodIn_r _ [97, 98, 99, 100, 6, 101, 8, 9, 10, 102, 103, 104, 82, 83, 105, 106, 107, 14, 108, 37, 38, 39, 40, 41, 42, 43, 44, 45, 46, 47, 48, 49, 50, 51, 52, 53, 54, 109, 60, 61, 62, 16, 63, 64, 65, 66, 36, 110, 111, 112, 113, 114, 115, 116, 67, 68, 69, 70, 117, 118, 119, 120, 79, 80, 81, 121, 122, 123, 124, 125, 126, 84, 85, 86, 127, 128, 129, 130, 131, 132, 133, 134, 135, 136, 137, 138, 139, 140, 141, 142, 143, 144, 145, 146, 147, 148, 149, 150, 151, 152, 153, 154, 155, 156, 157, 158, 159, 160, 161, 162, 163, 164, 165, 166, 167, 168, 169, 170, 171, 172, 173, 174, 211, 212, 213, 214, 219, 220, 221, 222, 223, 224, 225, 226, 227, 228, 229, 230, 231, 232] (by decide +kernel) (by decide +kernel)) (goodIn_sub (fun _ h => List.mem_cons_of_mem _ (List.mem_append_left _ (List.mem_append_right _ h))) (by decide +kernel))) (goodIn_sub (fun _ h => List.mem_cons_of_mem _ (List.mem_append_right _ h)) (by decide +kernel))
set_option maxRecDepth 20000 in
theorem gX5_digest_X5_hashOfPainters : GoodIn wsX5_digest (wsV RX5 246 RX5 yX5_hashOfPainters wsX5_hashOfPainters) := goodIn_app (goodIn_of _ (by decide +kernel)) ggX5_digest_X5_hashOfPainters
set_option maxRecDepth 20000 in
theorem ggX5_digest_X5_hashOfCharts : GoodIn wsX5_digest wsX5_hashOfCharts := goodIn_ca (goodIn_ca (goodIn_r _ [178, 10, 179, 180, 181, 6, 182, 8, 9, 183, 184, 185, 186, 82, 83, 187, 188, 189, 14, 190, 115, 116, 32, 33, 34, 35, 36, 37, 38, 39, 40, 41, 42, 43, 44, 45, 46, 47, 48, 49, 50, 51, 52, 53, 54, 67, 68, 69, 70, 211, 212, 213, 214, 219, 220, 221, 222, 223, 224, 225, 226, 227, 228] (by decide +kernel) (by decide +kernel)) (goodIn_sub (fun _ h => List.mem_cons_of_mem _ (List.mem_append_left _ (List.mem_append_right _ h))) (by decide +kernel))) (goodIn_sub (fun _ h => List.mem_cons_of_mem _ (List.mem_append_right _ h)) (by decide +kernel))
set_option maxRecDepth 20000 in
theorem gX5_digest_X5_hashOfCharts : GoodIn wsX5_digest (wsV RX5 249 RX5 yX5_hashOfCharts wsX5_hashOfCharts) := goodIn_app (goodIn_of _ (by decide +kernel)) ggX5_digest_X5_hashOfCharts
set_option maxRecDepth 20000 in
theorem ggX5_digest_X5_bestPainter : GoodIn wsX5_digest wsX5_bestPainter := goodIn_r _ [194, 10, 105, 106, 107, 14, 108, 37, 38, 39, 40, 41, 42, 43, 44, 45, 46, 47, 48, 49, 50, 51, 52, 53, 54, 211, 212, 213, 214, 219, 220, 221, 222, 223, 224, 225, 226, 227, 228] (by decide +kernel) (by decide +kernel)
set_option maxRecDepth 20000 in
theorem gX5_digest_X5_bestPainter : GoodIn wsX5_digest (wsV RX5 252 RX5 yX5_bestPainter wsX5_bestPainter) := goodIn_app (goodIn_of _ (by decide +kernel)) ggX5_digest_X5_bestPainter
set_option maxRecDepth 20000 in
theorem ggX5_digest_X5_apartShare : GoodIn wsX5_digest wsX5_apartShare := goodIn_r _ [198, 10, 199, 105, 106, 107, 14, 108, 37, 38, 39, 40, 41, 42, 43, 44, 45, 46, 47, 48, 49, 50, 51, 52, 53, 54, 211, 212, 213, 214, 219, 220, 221, 222, 223, 224, 225, 226, 227, 228] (by decide +kernel) (by decide +kernel)
set_option maxRecDepth 20000 in
theorem gX5_digest_X5_apartShare : GoodIn wsX5_digest (wsV RX5 255 RX5 yX5_apartShare wsX5_apartShare) := goodIn_app (goodIn_of _ (by decide +kernel)) ggX5_digest_X5_apartShare
set_option maxRecDepth 20000 in
theorem ggX5_digest_X5_bitsOfShare : GoodIn wsX5_digest wsX5_bitsOfShare := goodIn_r _ [202, 203, 204, 205] (by decide +kernel) (by decide +kernel)
set_option maxRecDepth 20000 in
theorem gX5_digest_X5_bitsOfShare : GoodIn wsX5_digest (va_wsS RX5 259 yX5_bitsOfShare wsX5_bitsOfShare) := goodIn_app (goodIn_of _ (by decide +kernel)) ggX5_digest_X5_bitsOfShare
set_option maxRecDepth 20000 in
theorem ggX5_digest_X5_hashOfText : GoodIn wsX5_digest wsX5_hashOfText := goodIn_r _ [209, 210, 67, 68, 6, 69, 70, 211, 212, 213, 214, 233, 234] (by decide +kernel) (by decide +kernel)
set_option maxRecDepth 20000 in
theorem gX5_digest_X5_hashOfText : GoodIn wsX5_digest (wsV RX5 263 RX5 yX5_hashOfText wsX5_hashOfText) := goodIn_app (goodIn_of _ (by decide +kernel)) ggX5_digest_X5_hashOfText
theorem dX5_digest_0 : decode cX5_digest 0 = .ok (.ldc2_w 233, 3) := by decide +kernel
theorem dX5_digest_3 : decode cX5_digest 3 = .ok (.lstore_n 1, 1) := by decide +kernel
theorem dX5_digest_4 : decode cX5_digest 4 = .ok (.iconst 0, 1) := by decide +kernel
theorem dX5_digest_5 : decode cX5_digest 5 = .ok (.istore_n 3, 1) := by decide +kernel
theorem dX5_digest_6 : decode cX5_digest 6 = .ok (.iload_n 3, 1) := by decide +kernel
theorem dX5_digest_7 : decode cX5_digest 7 = .ok (.bipush 7, 2) := by decide +kernel
theorem dX5_digest_9 : decode cX5_digest 9 = .ok (.if_icmp .gt 20, 3) := by decide +kernel
theorem dX5_digest_12 : decode cX5_digest 12 = .ok (.lload_n 1, 1) := by decide +kernel
theorem dX5_digest_13 : decode cX5_digest 13 = .ok (.aload_n 0, 1) := by decide +kernel
theorem dX5_digest_14 : decode cX5_digest 14 = .ok (.iload_n 3, 1) := by decide +kernel
theorem dX5_digest_15 : decode cX5_digest 15 = .ok (.invokevirtual 235, 3) := by decide +kernel
theorem dX5_digest_18 : decode cX5_digest 18 = .ok (.i2l, 1) := by decide +kernel
theorem dX5_digest_19 : decode cX5_digest 19 = .ok (.invokestatic 238, 3) := by decide +kernel
theorem dX5_digest_22 : decode cX5_digest 22 = .ok (.lstore_n 1, 1) := by decide +kernel
theorem dX5_digest_23 : decode cX5_digest 23 = .ok (.iinc 3 1, 3) := by decide +kernel
theorem dX5_digest_26 : decode cX5_digest 26 = .ok (.goto (-20), 3) := by decide +kernel
theorem dX5_digest_29 : decode cX5_digest 29 = .ok (.aload_n 0, 1) := by decide +kernel
theorem dX5_digest_30 : decode cX5_digest 30 = .ok (.lload_n 1, 1) := by decide +kernel
theorem dX5_digest_31 : decode cX5_digest 31 = .ok (.invokevirtual 242, 3) := by decide +kernel
theorem dX5_digest_34 : decode cX5_digest 34 = .ok (.lstore_n 1, 1) := by decide +kernel
theorem dX5_digest_35 : decode cX5_digest 35 = .ok (.aload_n 0, 1) := by decide +kernel
theorem dX5_digest_36 : decode cX5_digest 36 = .ok (.lload_n 1, 1) := by decide +kernel
theorem dX5_digest_37 : decode cX5_digest 37 = .ok (.invokevirtual 246, 3) := by decide +kernel
theorem dX5_digest_40 : decode cX5_digest 40 = .ok (.lstore_n 1, 1) := by decide +kernel
theorem dX5_digest_41 : decode cX5_digest 41 = .ok (.aload_n 0, 1) := by decide +kernel
theorem dX5_digest_42 : decode cX5_digest 42 = .ok (.lload_n 1, 1) := by decide +kernel
theorem dX5_digest_43 : decode cX5_digest 43 = .ok (.invokevirtual 249, 3) := by decide +kernel
theorem dX5_digest_46 : decode cX5_digest 46 = .ok (.lstore_n 1, 1) := by decide +kernel
theorem dX5_digest_47 : decode cX5_digest 47 = .ok (.lload_n 1, 1) := by decide +kernel
theorem dX5_digest_48 : decode cX5_digest 48 = .ok (.aload_n 0, 1) := by decide +kernel
theorem dX5_digest_49 : decode cX5_digest 49 = .ok (.invokevirtual 252, 3) := by decide +kernel
theorem dX5_digest_52 : decode cX5_digest 52 = .ok (.i2l, 1) := by decide +kernel
theorem dX5_digest_53 : decode cX5_digest 53 = .ok (.invokestatic 238, 3) := by decide +kernel
theorem dX5_digest_56 : decode cX5_digest 56 = .ok (.lstore_n 1, 1) := by decide +kernel
theorem dX5_digest_57 : decode cX5_digest 57 = .ok (.lload_n 1, 1) := by decide +kernel
theorem dX5_digest_58 : decode cX5_digest 58 = .ok (.aload_n 0, 1) := by decide +kernel
theorem dX5_digest_59 : decode cX5_digest 59 = .ok (.invokevirtual 255, 3) := by decide +kernel
theorem dX5_digest_62 : decode cX5_digest 62 = .ok (.invokestatic 259, 3) := by decide +kernel
theorem dX5_digest_65 : decode cX5_digest 65 = .ok (.invokestatic 238, 3) := by decide +kernel
theorem dX5_digest_68 : decode cX5_digest 68 = .ok (.lstore_n 1, 1) := by decide +kernel
theorem dX5_digest_69 : decode cX5_digest 69 = .ok (.iconst 0, 1) := by decide +kernel
theorem dX5_digest_70 : decode cX5_digest 70 = .ok (.istore_n 3, 1) := by decide +kernel
theorem dX5_digest_71 : decode cX5_digest 71 = .ok (.iload_n 3, 1) := by decide +kernel
theorem dX5_digest_72 : decode cX5_digest 72 = .ok (.iconst 2, 1) := by decide +kernel
theorem dX5_digest_73 : decode cX5_digest 73 = .ok (.if_icmp .ge 31, 3) := by decide +kernel
theorem dX5_digest_76 : decode cX5_digest 76 = .ok (.lload_n 1, 1) := by decide +kernel
theorem dX5_digest_77 : decode cX5_digest 77 = .ok (.aload_n 0, 1) := by decide +kernel
theorem dX5_digest_78 : decode cX5_digest 78 = .ok (.getfield 19, 3) := by decide +kernel
theorem dX5_digest_81 : decode cX5_digest 81 = .ok (.getfield 155, 3) := by decide +kernel
theorem dX5_digest_84 : decode cX5_digest 84 = .ok (.iload_n 3, 1) := by decide +kernel
theorem dX5_digest_85 : decode cX5_digest 85 = .ok (.baload, 1) := by decide +kernel
theorem dX5_digest_86 : decode cX5_digest 86 = .ok (.ifCond .eq 7, 3) := by decide +kernel
theorem dX5_digest_89 : decode cX5_digest 89 = .ok (.lconst 1, 1) := by decide +kernel
theorem dX5_digest_90 : decode cX5_digest 90 = .ok (.goto 4, 3) := by decide +kernel
theorem dX5_digest_93 : decode cX5_digest 93 = .ok (.lconst 0, 1) := by decide +kernel
theorem dX5_digest_94 : decode cX5_digest 94 = .ok (.invokestatic 238, 3) := by decide +kernel
theorem dX5_digest_97 : decode cX5_digest 97 = .ok (.lstore_n 1, 1) := by decide +kernel
theorem dX5_digest_98 : decode cX5_digest 98 = .ok (.iinc 3 1, 3) := by decide +kernel
theorem dX5_digest_101 : decode cX5_digest 101 = .ok (.goto (-30), 3) := by decide +kernel
theorem dX5_digest_104 : decode cX5_digest 104 = .ok (.aload_n 0, 1) := by decide +kernel
theorem dX5_digest_105 : decode cX5_digest 105 = .ok (.lload_n 1, 1) := by decide +kernel
theorem dX5_digest_106 : decode cX5_digest 106 = .ok (.invokevirtual 263, 3) := by decide +kernel
theorem dX5_digest_109 : decode cX5_digest 109 = .ok (.lreturn, 1) := by decide +kernel
set_option maxRecDepth 20000 in
theorem ggX5_hashOfPots_X5_potOf : GoodIn wsX5_hashOfPots wsX5_potOf := goodIn_ca (goodIn_ca (goodIn_r _ [5, 6, 7, 8, 4, 9, 10, 11, 12, 13, 14, 15, 16, 17, 18, 19, 20, 21, 22, 23, 24, 25, 26, 27, 28, 29, 30, 31, 32, 33, 34, 35, 36, 37, 38, 39, 40, 41, 42, 43, 44, 45, 46, 47, 52, 53, 54, 55, 56, 57, 58, 59, 60, 61, 62, 63, 64, 65] (by decide +kernel) (by decide +kernel)) (goodIn_sub (fun _ h => List.mem_cons_of_mem _ (List.mem_append_left _ (List.mem_append_right _ h))) (by decide +kernel))) (goodIn_sub (fun _ h => List.mem_cons_of_mem _ (List.mem_append_right _ h)) (by decide +kernel))
set_option maxRecDepth 20000 in
theorem gX5_hashOfPots_X5_potOf : GoodIn wsX5_hashOfPots (wsV RX5 266 RX5 yX5_potOf wsX5_potOf) := goodIn_app (goodIn_of _ (by decide +kernel)) ggX5_hashOfPots_X5_potOf
set_option maxRecDepth 20000 in
theorem ggX5_hashOfPots_X5_hashed : GoodIn wsX5_hashOfPots wsX5_hashed := goodIn_r _ [50, 51] (by decide +kernel) (by decide +kernel)
set_option maxRecDepth 20000 in
theorem gX5_hashOfPots_X5_hashed : GoodIn wsX5_hashOfPots (va_wsS RX5 238 yX5_hashed wsX5_hashed) := goodIn_app (goodIn_of _ (by decide +kernel)) ggX5_hashOfPots_X5_hashed
theorem dX5_hashOfPots_0 : decode cX5_hashOfPots 0 = .ok (.lload_n 1, 1) := by decide +kernel
theorem dX5_hashOfPots_1 : decode cX5_hashOfPots 1 = .ok (.lstore_n 3, 1) := by decide +kernel
theorem dX5_hashOfPots_2 : decode cX5_hashOfPots 2 = .ok (.iconst 0, 1) := by decide +kernel
theorem dX5_hashOfPots_3 : decode cX5_hashOfPots 3 = .ok (.istore 5, 2) := by decide +kernel
theorem dX5_hashOfPots_5 : decode cX5_hashOfPots 5 = .ok (.iload 5, 2) := by decide +kernel
theorem dX5_hashOfPots_7 : decode cX5_hashOfPots 7 = .ok (.bipush 8, 2) := by decide +kernel
theorem dX5_hashOfPots_9 : decode cX5_hashOfPots 9 = .ok (.if_icmp .ge 38, 3) := by decide +kernel
theorem dX5_hashOfPots_12 : decode cX5_hashOfPots 12 = .ok (.iconst 0, 1) := by decide +kernel
theorem dX5_hashOfPots_13 : decode cX5_hashOfPots 13 = .ok (.istore 6, 2) := by decide +kernel
theorem dX5_hashOfPots_15 : decode cX5_hashOfPots 15 = .ok (.iload 6, 2) := by decide +kernel
theorem dX5_hashOfPots_17 : decode cX5_hashOfPots 17 = .ok (.iconst 4, 1) := by decide +kernel
theorem dX5_hashOfPots_18 : decode cX5_hashOfPots 18 = .ok (.if_icmp .gt 23, 3) := by decide +kernel
theorem dX5_hashOfPots_21 : decode cX5_hashOfPots 21 = .ok (.lload_n 3, 1) := by decide +kernel
theorem dX5_hashOfPots_22 : decode cX5_hashOfPots 22 = .ok (.aload_n 0, 1) := by decide +kernel
theorem dX5_hashOfPots_23 : decode cX5_hashOfPots 23 = .ok (.iload 5, 2) := by decide +kernel
theorem dX5_hashOfPots_25 : decode cX5_hashOfPots 25 = .ok (.iload 6, 2) := by decide +kernel
theorem dX5_hashOfPots_27 : decode cX5_hashOfPots 27 = .ok (.invokevirtual 266, 3) := by decide +kernel
theorem dX5_hashOfPots_30 : decode cX5_hashOfPots 30 = .ok (.i2l, 1) := by decide +kernel
theorem dX5_hashOfPots_31 : decode cX5_hashOfPots 31 = .ok (.invokestatic 238, 3) := by decide +kernel
theorem dX5_hashOfPots_34 : decode cX5_hashOfPots 34 = .ok (.lstore_n 3, 1) := by decide +kernel
theorem dX5_hashOfPots_35 : decode cX5_hashOfPots 35 = .ok (.iinc 6 1, 3) := by decide +kernel
theorem dX5_hashOfPots_38 : decode cX5_hashOfPots 38 = .ok (.goto (-23), 3) := by decide +kernel
theorem dX5_hashOfPots_41 : decode cX5_hashOfPots 41 = .ok (.iinc 5 1, 3) := by decide +kernel
theorem dX5_hashOfPots_44 : decode cX5_hashOfPots 44 = .ok (.goto (-39), 3) := by decide +kernel
theorem dX5_hashOfPots_47 : decode cX5_hashOfPots 47 = .ok (.lload_n 3, 1) := by decide +kernel
theorem dX5_hashOfPots_48 : decode cX5_hashOfPots 48 = .ok (.lreturn, 1) := by decide +kernel
set_option maxRecDepth 20000 in
theorem ggX5_hashOfPainters_X5_painterOf : GoodIn wsX5_hashOfPainters wsX5_painterOf := goodIn_ca (goodIn_ca (goodIn_r _ [5, 6, 7, 8, 9, 10, 4, 11, 12, 13, 14, 15, 16, 17, 18, 19, 20, 21, 22, 23, 24, 25, 26, 27, 28, 29, 30, 31, 32, 33, 34, 35, 36, 37, 38, 39, 40, 41, 42, 43, 44, 45, 46, 47, 48, 49, 50, 51, 52, 53, 122, 123, 124, 125, 126, 127, 128, 129, 130, 131, 132, 133, 134, 135] (by decide +kernel) (by decide +kernel)) (goodIn_sub (fun _ h => List.mem_cons_of_mem _ (List.mem_append_left _ (List.mem_append_right _ h))) (by decide +kernel))) (goodIn_sub (fun _ h => List.mem_cons_of_mem _ (List.mem_append_right _ h)) (by decide +kernel))
set_option maxRecDepth 20000 in
theorem gX5_hashOfPainters_X5_painterOf : GoodIn wsX5_hashOfPainters (wsV RX5 269 RX5 yX5_painterOf wsX5_painterOf) := goodIn_app (goodIn_of _ (by decide +kernel)) ggX5_hashOfPainters_X5_painterOf
set_option maxRecDepth 20000 in
theorem ggX5_hashOfPainters_X5_hashed : GoodIn wsX5_hashOfPainters wsX5_hashed := goodIn_r _ [56, 57] (by decide +kernel) (by decide +kernel)
set_option maxRecDepth 20000 in
theorem gX5_hashOfPainters_X5_hashed : GoodIn wsX5_hashOfPainters (va_wsS RX5 238 yX5_hashed wsX5_hashed) := goodIn_app (goodIn_of _ (by decide +kernel)) ggX5_hashOfPainters_X5_hashed
set_option maxRecDepth 20000 in
theorem ggX5_hashOfPainters_X5_seen : GoodIn wsX5_hashOfPainters wsX5_seen := goodIn_ca (goodIn_r _ [61, 8, 9, 10, 4, 11, 12, 13, 62, 63, 64, 65, 35, 28, 36, 122, 123, 124, 125, 126, 127, 128, 129, 130, 131, 132, 133, 134, 135] (by decide +kernel) (by decide +kernel)) (goodIn_sub (fun _ h => List.mem_cons_of_mem _ (List.mem_append_right _ h)) (by decide +kernel))
set_option maxRecDepth 20000 in
theorem gX5_hashOfPainters_X5_seen : GoodIn wsX5_hashOfPainters (wsV RX5 272 RX5 yX5_seen wsX5_seen) := goodIn_app (goodIn_of _ (by decide +kernel)) ggX5_hashOfPainters_X5_seen
set_option maxRecDepth 20000 in
theorem ggX5_hashOfPainters_X5_fewest : GoodIn wsX5_hashOfPainters wsX5_fewest := goodIn_ca (goodIn_ca (goodIn_r _ [69, 70, 8, 9, 10, 4, 11, 12, 13, 71, 72, 73, 6, 7, 74, 75, 76, 77, 78, 79, 80, 43, 44, 17, 45, 46, 19, 20, 21, 22, 23, 24, 25, 26, 27, 28, 29, 30, 31, 32, 33, 34, 35, 36, 81, 82, 83, 84, 85, 86, 87, 88, 89, 90, 91, 92, 93, 94, 95, 96, 97, 98, 99, 100, 101, 122, 123, 124, 125, 136, 137, 138, 139, 126, 127, 128, 129, 130, 131, 132, 133, 134, 135] (by decide +kernel) (by decide +kernel)) (goodIn_sub (fun _ h => List.mem_cons_of_mem _ (List.mem_append_right _ h)) (by decide +kernel))) (goodIn_sub (fun _ h => List.mem_cons_of_mem _ (List.mem_append_left _ (List.mem_append_right _ h))) (by decide +kernel))
set_option maxRecDepth 20000 in
theorem gX5_hashOfPainters_X5_fewest : GoodIn wsX5_hashOfPainters (wsV RX5 275 RX5 yX5_fewest wsX5_fewest) := goodIn_app (goodIn_of _ (by decide +kernel)) ggX5_hashOfPainters_X5_fewest
set_option maxRecDepth 20000 in
theorem ggX5_hashOfPainters_X5_ifBorrowed : GoodIn wsX5_hashOfPainters wsX5_ifBorrowed := goodIn_ca (goodIn_r _ [105, 8, 9, 10, 4, 11, 12, 13, 14, 15, 16, 17, 18, 19, 20, 21, 22, 23, 24, 25, 26, 27, 28, 29, 30, 31, 32, 33, 34, 35, 36, 122, 123, 124, 125, 126, 127, 128, 129, 130, 131, 132, 133, 134, 135] (by decide +kernel) (by decide +kernel)) (goodIn_sub (fun _ h => List.mem_cons_of_mem _ (List.mem_append_right _ h)) (by decide +kernel))
set_option maxRecDepth 20000 in
theorem gX5_hashOfPainters_X5_ifBorrowed : GoodIn wsX5_hashOfPainters (wsV RX5 278 RX5 yX5_ifBorrowed wsX5_ifBorrowed) := goodIn_app (goodIn_of _ (by decide +kernel)) ggX5_hashOfPainters_X5_ifBorrowed
set_option maxRecDepth 20000 in
theorem ggX5_hashOfPainters_X5_leastChange : GoodIn wsX5_hashOfPainters wsX5_leastChange := goodIn_ca (goodIn_ca (goodIn_r _ [109, 8, 9, 10, 4, 11, 12, 13, 62, 63, 64, 110, 111, 112, 6, 7, 113, 114, 115, 17, 116, 19, 46, 117, 118, 28, 119, 120, 27, 29, 30, 31, 32, 33, 34, 35, 36, 20, 21, 22, 23, 24, 25, 26, 121, 122, 123, 124, 125, 126, 127, 128, 129, 130, 131, 132, 133, 134, 135] (by decide +kernel) (by decide +kernel)) (goodIn_sub (fun _ h => List.mem_cons_of_mem _ (List.mem_append_right _ h)) (by decide +kernel))) (goodIn_sub (fun _ h => List.mem_cons_of_mem _ (List.mem_append_left _ (List.mem_append_right _ h))) (by decide +kernel))
set_option maxRecDepth 20000 in
theorem gX5_hashOfPainters_X5_leastChange : GoodIn wsX5_hashOfPainters (wsV RX5 281 RX5 yX5_leastChange wsX5_leastChange) := goodIn_app (goodIn_of _ (by decide +kernel)) ggX5_hashOfPainters_X5_leastChange
theorem dX5_hashOfPainters_0 : decode cX5_hashOfPainters 0 = .ok (.lload_n 1, 1) := by decide +kernel
theorem dX5_hashOfPainters_1 : decode cX5_hashOfPainters 1 = .ok (.lstore_n 3, 1) := by decide +kernel
theorem dX5_hashOfPainters_2 : decode cX5_hashOfPainters 2 = .ok (.iconst 0, 1) := by decide +kernel
theorem dX5_hashOfPainters_3 : decode cX5_hashOfPainters 3 = .ok (.istore 5, 2) := by decide +kernel
theorem dX5_hashOfPainters_5 : decode cX5_hashOfPainters 5 = .ok (.iload 5, 2) := by decide +kernel
theorem dX5_hashOfPainters_7 : decode cX5_hashOfPainters 7 = .ok (.iconst 4, 1) := by decide +kernel
theorem dX5_hashOfPainters_8 : decode cX5_hashOfPainters 8 = .ok (.if_icmp .ge 154, 3) := by decide +kernel
theorem dX5_hashOfPainters_11 : decode cX5_hashOfPainters 11 = .ok (.iconst 0, 1) := by decide +kernel
theorem dX5_hashOfPainters_12 : decode cX5_hashOfPainters 12 = .ok (.istore 6, 2) := by decide +kernel
theorem dX5_hashOfPainters_14 : decode cX5_hashOfPainters 14 = .ok (.iload 6, 2) := by decide +kernel
theorem dX5_hashOfPainters_16 : decode cX5_hashOfPainters 16 = .ok (.bipush 6, 2) := by decide +kernel
theorem dX5_hashOfPainters_18 : decode cX5_hashOfPainters 18 = .ok (.if_icmp .gt 23, 3) := by decide +kernel
theorem dX5_hashOfPainters_21 : decode cX5_hashOfPainters 21 = .ok (.lload_n 3, 1) := by decide +kernel
theorem dX5_hashOfPainters_22 : decode cX5_hashOfPainters 22 = .ok (.aload_n 0, 1) := by decide +kernel
theorem dX5_hashOfPainters_23 : decode cX5_hashOfPainters 23 = .ok (.iload 5, 2) := by decide +kernel
theorem dX5_hashOfPainters_25 : decode cX5_hashOfPainters 25 = .ok (.iload 6, 2) := by decide +kernel
theorem dX5_hashOfPainters_27 : decode cX5_hashOfPainters 27 = .ok (.invokevirtual 269, 3) := by decide +kernel
theorem dX5_hashOfPainters_30 : decode cX5_hashOfPainters 30 = .ok (.i2l, 1) := by decide +kernel
theorem dX5_hashOfPainters_31 : decode cX5_hashOfPainters 31 = .ok (.invokestatic 238, 3) := by decide +kernel
theorem dX5_hashOfPainters_34 : decode cX5_hashOfPainters 34 = .ok (.lstore_n 3, 1) := by decide +kernel
theorem dX5_hashOfPainters_35 : decode cX5_hashOfPainters 35 = .ok (.iinc 6 1, 3) := by decide +kernel
theorem dX5_hashOfPainters_38 : decode cX5_hashOfPainters 38 = .ok (.goto (-24), 3) := by decide +kernel
theorem dX5_hashOfPainters_41 : decode cX5_hashOfPainters 41 = .ok (.iconst 0, 1) := by decide +kernel
theorem dX5_hashOfPainters_42 : decode cX5_hashOfPainters 42 = .ok (.istore 6, 2) := by decide +kernel
theorem dX5_hashOfPainters_44 : decode cX5_hashOfPainters 44 = .ok (.iload 6, 2) := by decide +kernel
theorem dX5_hashOfPainters_46 : decode cX5_hashOfPainters 46 = .ok (.bipush 8, 2) := by decide +kernel
theorem dX5_hashOfPainters_48 : decode cX5_hashOfPainters 48 = .ok (.if_icmp .ge 23, 3) := by decide +kernel
theorem dX5_hashOfPainters_51 : decode cX5_hashOfPainters 51 = .ok (.lload_n 3, 1) := by decide +kernel
theorem dX5_hashOfPainters_52 : decode cX5_hashOfPainters 52 = .ok (.aload_n 0, 1) := by decide +kernel
theorem dX5_hashOfPainters_53 : decode cX5_hashOfPainters 53 = .ok (.iload 5, 2) := by decide +kernel
theorem dX5_hashOfPainters_55 : decode cX5_hashOfPainters 55 = .ok (.iload 6, 2) := by decide +kernel
theorem dX5_hashOfPainters_57 : decode cX5_hashOfPainters 57 = .ok (.invokevirtual 272, 3) := by decide +kernel
theorem dX5_hashOfPainters_60 : decode cX5_hashOfPainters 60 = .ok (.i2l, 1) := by decide +kernel
theorem dX5_hashOfPainters_61 : decode cX5_hashOfPainters 61 = .ok (.invokestatic 238, 3) := by decide +kernel
theorem dX5_hashOfPainters_64 : decode cX5_hashOfPainters 64 = .ok (.lstore_n 3, 1) := by decide +kernel
theorem dX5_hashOfPainters_65 : decode cX5_hashOfPainters 65 = .ok (.iinc 6 1, 3) := by decide +kernel
theorem dX5_hashOfPainters_68 : decode cX5_hashOfPainters 68 = .ok (.goto (-24), 3) := by decide +kernel
theorem dX5_hashOfPainters_71 : decode cX5_hashOfPainters 71 = .ok (.lload_n 3, 1) := by decide +kernel
theorem dX5_hashOfPainters_72 : decode cX5_hashOfPainters 72 = .ok (.aload_n 0, 1) := by decide +kernel
theorem dX5_hashOfPainters_73 : decode cX5_hashOfPainters 73 = .ok (.iload 5, 2) := by decide +kernel
theorem dX5_hashOfPainters_75 : decode cX5_hashOfPainters 75 = .ok (.iconst 0, 1) := by decide +kernel
theorem dX5_hashOfPainters_76 : decode cX5_hashOfPainters 76 = .ok (.invokevirtual 275, 3) := by decide +kernel
theorem dX5_hashOfPainters_79 : decode cX5_hashOfPainters 79 = .ok (.i2l, 1) := by decide +kernel
theorem dX5_hashOfPainters_80 : decode cX5_hashOfPainters 80 = .ok (.invokestatic 238, 3) := by decide +kernel
theorem dX5_hashOfPainters_83 : decode cX5_hashOfPainters 83 = .ok (.lstore_n 3, 1) := by decide +kernel
theorem dX5_hashOfPainters_84 : decode cX5_hashOfPainters 84 = .ok (.lload_n 3, 1) := by decide +kernel
theorem dX5_hashOfPainters_85 : decode cX5_hashOfPainters 85 = .ok (.aload_n 0, 1) := by decide +kernel
theorem dX5_hashOfPainters_86 : decode cX5_hashOfPainters 86 = .ok (.iload 5, 2) := by decide +kernel
theorem dX5_hashOfPainters_88 : decode cX5_hashOfPainters 88 = .ok (.iconst 1, 1) := by decide +kernel
theorem dX5_hashOfPainters_89 : decode cX5_hashOfPainters 89 = .ok (.invokevirtual 275, 3) := by decide +kernel
theorem dX5_hashOfPainters_92 : decode cX5_hashOfPainters 92 = .ok (.i2l, 1) := by decide +kernel
theorem dX5_hashOfPainters_93 : decode cX5_hashOfPainters 93 = .ok (.invokestatic 238, 3) := by decide +kernel
theorem dX5_hashOfPainters_96 : decode cX5_hashOfPainters 96 = .ok (.lstore_n 3, 1) := by decide +kernel
theorem dX5_hashOfPainters_97 : decode cX5_hashOfPainters 97 = .ok (.iconst 0, 1) := by decide +kernel
theorem dX5_hashOfPainters_98 : decode cX5_hashOfPainters 98 = .ok (.istore 6, 2) := by decide +kernel
theorem dX5_hashOfPainters_100 : decode cX5_hashOfPainters 100 = .ok (.iload 6, 2) := by decide +kernel
theorem dX5_hashOfPainters_102 : decode cX5_hashOfPainters 102 = .ok (.iconst 4, 1) := by decide +kernel
theorem dX5_hashOfPainters_103 : decode cX5_hashOfPainters 103 = .ok (.if_icmp .ge 23, 3) := by decide +kernel
theorem dX5_hashOfPainters_106 : decode cX5_hashOfPainters 106 = .ok (.lload_n 3, 1) := by decide +kernel
theorem dX5_hashOfPainters_107 : decode cX5_hashOfPainters 107 = .ok (.aload_n 0, 1) := by decide +kernel
theorem dX5_hashOfPainters_108 : decode cX5_hashOfPainters 108 = .ok (.iload 5, 2) := by decide +kernel
theorem dX5_hashOfPainters_110 : decode cX5_hashOfPainters 110 = .ok (.iload 6, 2) := by decide +kernel
theorem dX5_hashOfPainters_112 : decode cX5_hashOfPainters 112 = .ok (.invokevirtual 278, 3) := by decide +kernel
theorem dX5_hashOfPainters_115 : decode cX5_hashOfPainters 115 = .ok (.i2l, 1) := by decide +kernel
theorem dX5_hashOfPainters_116 : decode cX5_hashOfPainters 116 = .ok (.invokestatic 238, 3) := by decide +kernel
theorem dX5_hashOfPainters_119 : decode cX5_hashOfPainters 119 = .ok (.lstore_n 3, 1) := by decide +kernel
theorem dX5_hashOfPainters_120 : decode cX5_hashOfPainters 120 = .ok (.iinc 6 1, 3) := by decide +kernel
theorem dX5_hashOfPainters_123 : decode cX5_hashOfPainters 123 = .ok (.goto (-23), 3) := by decide +kernel
theorem dX5_hashOfPainters_126 : decode cX5_hashOfPainters 126 = .ok (.lload_n 3, 1) := by decide +kernel
theorem dX5_hashOfPainters_127 : decode cX5_hashOfPainters 127 = .ok (.aload_n 0, 1) := by decide +kernel
theorem dX5_hashOfPainters_128 : decode cX5_hashOfPainters 128 = .ok (.iload 5, 2) := by decide +kernel
theorem dX5_hashOfPainters_130 : decode cX5_hashOfPainters 130 = .ok (.iconst 0, 1) := by decide +kernel
theorem dX5_hashOfPainters_131 : decode cX5_hashOfPainters 131 = .ok (.bipush 7, 2) := by decide +kernel
theorem dX5_hashOfPainters_133 : decode cX5_hashOfPainters 133 = .ok (.invokevirtual 281, 3) := by decide +kernel
theorem dX5_hashOfPainters_136 : decode cX5_hashOfPainters 136 = .ok (.i2l, 1) := by decide +kernel
theorem dX5_hashOfPainters_137 : decode cX5_hashOfPainters 137 = .ok (.invokestatic 238, 3) := by decide +kernel
theorem dX5_hashOfPainters_140 : decode cX5_hashOfPainters 140 = .ok (.lstore_n 3, 1) := by decide +kernel
theorem dX5_hashOfPainters_141 : decode cX5_hashOfPainters 141 = .ok (.lload_n 3, 1) := by decide +kernel
theorem dX5_hashOfPainters_142 : decode cX5_hashOfPainters 142 = .ok (.aload_n 0, 1) := by decide +kernel
theorem dX5_hashOfPainters_143 : decode cX5_hashOfPainters 143 = .ok (.iload 5, 2) := by decide +kernel
theorem dX5_hashOfPainters_145 : decode cX5_hashOfPainters 145 = .ok (.bipush 7, 2) := by decide +kernel
theorem dX5_hashOfPainters_147 : decode cX5_hashOfPainters 147 = .ok (.iconst 0, 1) := by decide +kernel
theorem dX5_hashOfPainters_148 : decode cX5_hashOfPainters 148 = .ok (.invokevirtual 281, 3) := by decide +kernel
theorem dX5_hashOfPainters_151 : decode cX5_hashOfPainters 151 = .ok (.i2l, 1) := by decide +kernel
theorem dX5_hashOfPainters_152 : decode cX5_hashOfPainters 152 = .ok (.invokestatic 238, 3) := by decide +kernel
theorem dX5_hashOfPainters_155 : decode cX5_hashOfPainters 155 = .ok (.lstore_n 3, 1) := by decide +kernel
theorem dX5_hashOfPainters_156 : decode cX5_hashOfPainters 156 = .ok (.iinc 5 1, 3) := by decide +kernel
theorem dX5_hashOfPainters_159 : decode cX5_hashOfPainters 159 = .ok (.goto (-154), 3) := by decide +kernel
theorem dX5_hashOfPainters_162 : decode cX5_hashOfPainters 162 = .ok (.lload_n 3, 1) := by decide +kernel
theorem dX5_hashOfPainters_163 : decode cX5_hashOfPainters 163 = .ok (.lreturn, 1) := by decide +kernel
set_option maxRecDepth 20000 in
theorem ggX5_hashOfCharts_X5_chartOf : GoodIn wsX5_hashOfCharts wsX5_chartOf := goodIn_ca (goodIn_ca (goodIn_r _ [6, 7, 8, 1, 9, 10, 11, 5, 12, 13, 14, 15, 16, 17, 18, 19, 20, 21, 22, 23, 24, 25, 26, 27, 28, 29, 30, 31, 32, 33, 34, 35, 36, 37, 38, 39, 40, 41, 42, 43, 44, 49, 50, 51, 52, 53, 54, 55, 56, 57, 58, 59, 60, 61, 62] (by decide +kernel) (by decide +kernel)) (goodIn_sub (fun _ h => List.mem_cons_of_mem _ (List.mem_append_left _ (List.mem_append_right _ h))) (by decide +kernel))) (goodIn_sub (fun _ h => List.mem_cons_of_mem _ (List.mem_append_right _ h)) (by decide +kernel))
set_option maxRecDepth 20000 in
theorem gX5_hashOfCharts_X5_chartOf : GoodIn wsX5_hashOfCharts (wsV RX5 284 RX5 yX5_chartOf wsX5_chartOf) := goodIn_app (goodIn_of _ (by decide +kernel)) ggX5_hashOfCharts_X5_chartOf
set_option maxRecDepth 20000 in
theorem ggX5_hashOfCharts_X5_hashed : GoodIn wsX5_hashOfCharts wsX5_hashed := goodIn_r _ [47, 48] (by decide +kernel) (by decide +kernel)
set_option maxRecDepth 20000 in
theorem gX5_hashOfCharts_X5_hashed : GoodIn wsX5_hashOfCharts (va_wsS RX5 238 yX5_hashed wsX5_hashed) := goodIn_app (goodIn_of _ (by decide +kernel)) ggX5_hashOfCharts_X5_hashed
theorem dX5_hashOfCharts_0 : decode cX5_hashOfCharts 0 = .ok (.lload_n 1, 1) := by decide +kernel
theorem dX5_hashOfCharts_1 : decode cX5_hashOfCharts 1 = .ok (.lstore_n 3, 1) := by decide +kernel
theorem dX5_hashOfCharts_2 : decode cX5_hashOfCharts 2 = .ok (.iconst 0, 1) := by decide +kernel
theorem dX5_hashOfCharts_3 : decode cX5_hashOfCharts 3 = .ok (.istore 5, 2) := by decide +kernel
theorem dX5_hashOfCharts_5 : decode cX5_hashOfCharts 5 = .ok (.iload 5, 2) := by decide +kernel
theorem dX5_hashOfCharts_7 : decode cX5_hashOfCharts 7 = .ok (.aload_n 0, 1) := by decide +kernel
theorem dX5_hashOfCharts_8 : decode cX5_hashOfCharts 8 = .ok (.getfield 12, 3) := by decide +kernel
theorem dX5_hashOfCharts_11 : decode cX5_hashOfCharts 11 = .ok (.getfield 198, 3) := by decide +kernel
theorem dX5_hashOfCharts_14 : decode cX5_hashOfCharts 14 = .ok (.if_icmp .ge 38, 3) := by decide +kernel
theorem dX5_hashOfCharts_17 : decode cX5_hashOfCharts 17 = .ok (.iconst 0, 1) := by decide +kernel
theorem dX5_hashOfCharts_18 : decode cX5_hashOfCharts 18 = .ok (.istore 6, 2) := by decide +kernel
theorem dX5_hashOfCharts_20 : decode cX5_hashOfCharts 20 = .ok (.iload 6, 2) := by decide +kernel
theorem dX5_hashOfCharts_22 : decode cX5_hashOfCharts 22 = .ok (.iconst 2, 1) := by decide +kernel
theorem dX5_hashOfCharts_23 : decode cX5_hashOfCharts 23 = .ok (.if_icmp .gt 23, 3) := by decide +kernel
theorem dX5_hashOfCharts_26 : decode cX5_hashOfCharts 26 = .ok (.lload_n 3, 1) := by decide +kernel
theorem dX5_hashOfCharts_27 : decode cX5_hashOfCharts 27 = .ok (.aload_n 0, 1) := by decide +kernel
theorem dX5_hashOfCharts_28 : decode cX5_hashOfCharts 28 = .ok (.iload 5, 2) := by decide +kernel
theorem dX5_hashOfCharts_30 : decode cX5_hashOfCharts 30 = .ok (.iload 6, 2) := by decide +kernel
theorem dX5_hashOfCharts_32 : decode cX5_hashOfCharts 32 = .ok (.invokevirtual 284, 3) := by decide +kernel
theorem dX5_hashOfCharts_35 : decode cX5_hashOfCharts 35 = .ok (.i2l, 1) := by decide +kernel
theorem dX5_hashOfCharts_36 : decode cX5_hashOfCharts 36 = .ok (.invokestatic 238, 3) := by decide +kernel
theorem dX5_hashOfCharts_39 : decode cX5_hashOfCharts 39 = .ok (.lstore_n 3, 1) := by decide +kernel
theorem dX5_hashOfCharts_40 : decode cX5_hashOfCharts 40 = .ok (.iinc 6 1, 3) := by decide +kernel
theorem dX5_hashOfCharts_43 : decode cX5_hashOfCharts 43 = .ok (.goto (-23), 3) := by decide +kernel
theorem dX5_hashOfCharts_46 : decode cX5_hashOfCharts 46 = .ok (.iinc 5 1, 3) := by decide +kernel
theorem dX5_hashOfCharts_49 : decode cX5_hashOfCharts 49 = .ok (.goto (-44), 3) := by decide +kernel
theorem dX5_hashOfCharts_52 : decode cX5_hashOfCharts 52 = .ok (.lload_n 3, 1) := by decide +kernel
theorem dX5_hashOfCharts_53 : decode cX5_hashOfCharts 53 = .ok (.lreturn, 1) := by decide +kernel
set_option maxRecDepth 20000 in
theorem ggX5_hashOfText_X5_hashed : GoodIn wsX5_hashOfText wsX5_hashed := goodIn_r _ [5, 6] (by decide +kernel) (by decide +kernel)
set_option maxRecDepth 20000 in
theorem gX5_hashOfText_X5_hashed : GoodIn wsX5_hashOfText (va_wsS RX5 238 yX5_hashed wsX5_hashed) := goodIn_app (goodIn_of _ (by decide +kernel)) ggX5_hashOfText_X5_hashed
theorem dX5_hashOfText_0 : decode cX5_hashOfText 0 = .ok (.lload_n 1, 1) := by decide +kernel
theorem dX5_hashOfText_1 : decode cX5_hashOfText 1 = .ok (.aload_n 0, 1) := by decide +kernel
theorem dX5_hashOfText_2 : decode cX5_hashOfText 2 = .ok (.getfield 26, 3) := by decide +kernel
theorem dX5_hashOfText_5 : decode cX5_hashOfText 5 = .ok (.getfield 124, 3) := by decide +kernel
theorem dX5_hashOfText_8 : decode cX5_hashOfText 8 = .ok (.i2l, 1) := by decide +kernel
theorem dX5_hashOfText_9 : decode cX5_hashOfText 9 = .ok (.invokestatic 238, 3) := by decide +kernel
theorem dX5_hashOfText_12 : decode cX5_hashOfText 12 = .ok (.lstore_n 3, 1) := by decide +kernel
theorem dX5_hashOfText_13 : decode cX5_hashOfText 13 = .ok (.iconst 0, 1) := by decide +kernel
theorem dX5_hashOfText_14 : decode cX5_hashOfText 14 = .ok (.istore 5, 2) := by decide +kernel
theorem dX5_hashOfText_16 : decode cX5_hashOfText 16 = .ok (.iload 5, 2) := by decide +kernel
theorem dX5_hashOfText_18 : decode cX5_hashOfText 18 = .ok (.aload_n 0, 1) := by decide +kernel
theorem dX5_hashOfText_19 : decode cX5_hashOfText 19 = .ok (.getfield 26, 3) := by decide +kernel
theorem dX5_hashOfText_22 : decode cX5_hashOfText 22 = .ok (.getfield 124, 3) := by decide +kernel
theorem dX5_hashOfText_25 : decode cX5_hashOfText 25 = .ok (.if_icmp .ge 32, 3) := by decide +kernel
theorem dX5_hashOfText_28 : decode cX5_hashOfText 28 = .ok (.iload 5, 2) := by decide +kernel
theorem dX5_hashOfText_30 : decode cX5_hashOfText 30 = .ok (.bipush 60, 2) := by decide +kernel
theorem dX5_hashOfText_32 : decode cX5_hashOfText 32 = .ok (.if_icmp .ge 25, 3) := by decide +kernel
theorem dX5_hashOfText_35 : decode cX5_hashOfText 35 = .ok (.lload_n 3, 1) := by decide +kernel
theorem dX5_hashOfText_36 : decode cX5_hashOfText 36 = .ok (.aload_n 0, 1) := by decide +kernel
theorem dX5_hashOfText_37 : decode cX5_hashOfText 37 = .ok (.getfield 26, 3) := by decide +kernel
theorem dX5_hashOfText_40 : decode cX5_hashOfText 40 = .ok (.getfield 287, 3) := by decide +kernel
theorem dX5_hashOfText_43 : decode cX5_hashOfText 43 = .ok (.iload 5, 2) := by decide +kernel
theorem dX5_hashOfText_45 : decode cX5_hashOfText 45 = .ok (.iaload, 1) := by decide +kernel
theorem dX5_hashOfText_46 : decode cX5_hashOfText 46 = .ok (.i2l, 1) := by decide +kernel
theorem dX5_hashOfText_47 : decode cX5_hashOfText 47 = .ok (.invokestatic 238, 3) := by decide +kernel
theorem dX5_hashOfText_50 : decode cX5_hashOfText 50 = .ok (.lstore_n 3, 1) := by decide +kernel
theorem dX5_hashOfText_51 : decode cX5_hashOfText 51 = .ok (.iinc 5 1, 3) := by decide +kernel
theorem dX5_hashOfText_54 : decode cX5_hashOfText 54 = .ok (.goto (-38), 3) := by decide +kernel
theorem dX5_hashOfText_57 : decode cX5_hashOfText 57 = .ok (.lload_n 3, 1) := by decide +kernel
theorem dX5_hashOfText_58 : decode cX5_hashOfText 58 = .ok (.lreturn, 1) := by decide +kernel
theorem dX5_hashed_0 : decode cX5_hashed 0 = .ok (.ldc2_w 290, 3) := by decide +kernel
theorem dX5_hashed_3 : decode cX5_hashed 3 = .ok (.lload_n 0, 1) := by decide +kernel
theorem dX5_hashed_4 : decode cX5_hashed 4 = .ok (.lmul, 1) := by decide +kernel
theorem dX5_hashed_5 : decode cX5_hashed 5 = .ok (.lload_n 2, 1) := by decide +kernel
theorem dX5_hashed_6 : decode cX5_hashed 6 = .ok (.ladd, 1) := by decide +kernel
theorem dX5_hashed_7 : decode cX5_hashed 7 = .ok (.lreturn, 1) := by decide +kernel
theorem dX5_bitsOfShare_0 : decode cX5_bitsOfShare 0 = .ok (.dload_n 0, 1) := by decide +kernel
theorem dX5_bitsOfShare_1 : decode cX5_bitsOfShare 1 = .ok (.dconst 0, 1) := by decide +kernel
theorem dX5_bitsOfShare_2 : decode cX5_bitsOfShare 2 = .ok (.dcmp .g, 1) := by decide +kernel
theorem dX5_bitsOfShare_3 : decode cX5_bitsOfShare 3 = .ok (.ifCond .gt 5, 3) := by decide +kernel
theorem dX5_bitsOfShare_6 : decode cX5_bitsOfShare 6 = .ok (.lconst 0, 1) := by decide +kernel
theorem dX5_bitsOfShare_7 : decode cX5_bitsOfShare 7 = .ok (.lreturn, 1) := by decide +kernel
theorem dX5_bitsOfShare_8 : decode cX5_bitsOfShare 8 = .ok (.dload_n 0, 1) := by decide +kernel
theorem dX5_bitsOfShare_9 : decode cX5_bitsOfShare 9 = .ok (.dstore_n 2, 1) := by decide +kernel
theorem dX5_bitsOfShare_10 : decode cX5_bitsOfShare 10 = .ok (.ldc2_w 292, 3) := by decide +kernel
theorem dX5_bitsOfShare_13 : decode cX5_bitsOfShare 13 = .ok (.lstore 4, 2) := by decide +kernel
theorem dX5_bitsOfShare_15 : decode cX5_bitsOfShare 15 = .ok (.iconst 0, 1) := by decide +kernel
theorem dX5_bitsOfShare_16 : decode cX5_bitsOfShare 16 = .ok (.istore 6, 2) := by decide +kernel
theorem dX5_bitsOfShare_18 : decode cX5_bitsOfShare 18 = .ok (.iload 6, 2) := by decide +kernel
theorem dX5_bitsOfShare_20 : decode cX5_bitsOfShare 20 = .ok (.sipush 1022, 3) := by decide +kernel
theorem dX5_bitsOfShare_23 : decode cX5_bitsOfShare 23 = .ok (.if_icmp .ge 27, 3) := by decide +kernel
theorem dX5_bitsOfShare_26 : decode cX5_bitsOfShare 26 = .ok (.dload_n 2, 1) := by decide +kernel
theorem dX5_bitsOfShare_27 : decode cX5_bitsOfShare 27 = .ok (.dconst 1, 1) := by decide +kernel
theorem dX5_bitsOfShare_28 : decode cX5_bitsOfShare 28 = .ok (.dcmp .g, 1) := by decide +kernel
theorem dX5_bitsOfShare_29 : decode cX5_bitsOfShare 29 = .ok (.ifCond .ge 21, 3) := by decide +kernel
theorem dX5_bitsOfShare_32 : decode cX5_bitsOfShare 32 = .ok (.dload_n 2, 1) := by decide +kernel
theorem dX5_bitsOfShare_33 : decode cX5_bitsOfShare 33 = .ok (.ldc2_w 294, 3) := by decide +kernel
theorem dX5_bitsOfShare_36 : decode cX5_bitsOfShare 36 = .ok (.dmul, 1) := by decide +kernel
theorem dX5_bitsOfShare_37 : decode cX5_bitsOfShare 37 = .ok (.dstore_n 2, 1) := by decide +kernel
theorem dX5_bitsOfShare_38 : decode cX5_bitsOfShare 38 = .ok (.lload 4, 2) := by decide +kernel
theorem dX5_bitsOfShare_40 : decode cX5_bitsOfShare 40 = .ok (.lconst 1, 1) := by decide +kernel
theorem dX5_bitsOfShare_41 : decode cX5_bitsOfShare 41 = .ok (.lsub, 1) := by decide +kernel
theorem dX5_bitsOfShare_42 : decode cX5_bitsOfShare 42 = .ok (.lstore 4, 2) := by decide +kernel
theorem dX5_bitsOfShare_44 : decode cX5_bitsOfShare 44 = .ok (.iinc 6 1, 3) := by decide +kernel
theorem dX5_bitsOfShare_47 : decode cX5_bitsOfShare 47 = .ok (.goto (-29), 3) := by decide +kernel
theorem dX5_bitsOfShare_50 : decode cX5_bitsOfShare 50 = .ok (.lload 4, 2) := by decide +kernel
theorem dX5_bitsOfShare_52 : decode cX5_bitsOfShare 52 = .ok (.bipush 52, 2) := by decide +kernel
theorem dX5_bitsOfShare_54 : decode cX5_bitsOfShare 54 = .ok (.lshl, 1) := by decide +kernel
theorem dX5_bitsOfShare_55 : decode cX5_bitsOfShare 55 = .ok (.dload_n 2, 1) := by decide +kernel
theorem dX5_bitsOfShare_56 : decode cX5_bitsOfShare 56 = .ok (.dconst 1, 1) := by decide +kernel
theorem dX5_bitsOfShare_57 : decode cX5_bitsOfShare 57 = .ok (.dsub, 1) := by decide +kernel
theorem dX5_bitsOfShare_58 : decode cX5_bitsOfShare 58 = .ok (.ldc2_w 296, 3) := by decide +kernel
theorem dX5_bitsOfShare_61 : decode cX5_bitsOfShare 61 = .ok (.dmul, 1) := by decide +kernel
theorem dX5_bitsOfShare_62 : decode cX5_bitsOfShare 62 = .ok (.d2l, 1) := by decide +kernel
theorem dX5_bitsOfShare_63 : decode cX5_bitsOfShare 63 = .ok (.ladd, 1) := by decide +kernel
theorem dX5_bitsOfShare_64 : decode cX5_bitsOfShare 64 = .ok (.lreturn, 1) := by decide +kernel
theorem dX5_needPot_0 : decode cX5_needPot 0 = .ok (.iload_n 0, 1) := by decide +kernel
theorem dX5_needPot_1 : decode cX5_needPot 1 = .ok (.ifCond .lt 9, 3) := by decide +kernel
theorem dX5_needPot_4 : decode cX5_needPot 4 = .ok (.iload_n 0, 1) := by decide +kernel
theorem dX5_needPot_5 : decode cX5_needPot 5 = .ok (.bipush 8, 2) := by decide +kernel
theorem dX5_needPot_7 : decode cX5_needPot 7 = .ok (.if_icmp .lt 14, 3) := by decide +kernel
theorem dX5_needPot_10 : decode cX5_needPot 10 = .ok (.new 298, 3) := by decide +kernel
theorem dX5_needPot_13 : decode cX5_needPot 13 = .ok (.dup, 1) := by decide +kernel
theorem dX5_needPot_14 : decode cX5_needPot 14 = .ok (.ldc_w 300, 3) := by decide +kernel
theorem dX5_needPot_17 : decode cX5_needPot 17 = .ok (.invokespecial 302, 3) := by decide +kernel
theorem dX5_needPot_20 : decode cX5_needPot 20 = .ok (.athrow, 1) := by decide +kernel
theorem dX5_needPot_21 : decode cX5_needPot 21 = .ok (.return_, 1) := by decide +kernel
theorem dX5_needPainter_0 : decode cX5_needPainter 0 = .ok (.iload_n 0, 1) := by decide +kernel
theorem dX5_needPainter_1 : decode cX5_needPainter 1 = .ok (.ifCond .lt 8, 3) := by decide +kernel
theorem dX5_needPainter_4 : decode cX5_needPainter 4 = .ok (.iload_n 0, 1) := by decide +kernel
theorem dX5_needPainter_5 : decode cX5_needPainter 5 = .ok (.iconst 4, 1) := by decide +kernel
theorem dX5_needPainter_6 : decode cX5_needPainter 6 = .ok (.if_icmp .lt 14, 3) := by decide +kernel
theorem dX5_needPainter_9 : decode cX5_needPainter 9 = .ok (.new 298, 3) := by decide +kernel
theorem dX5_needPainter_12 : decode cX5_needPainter 12 = .ok (.dup, 1) := by decide +kernel
theorem dX5_needPainter_13 : decode cX5_needPainter 13 = .ok (.ldc_w 303, 3) := by decide +kernel
theorem dX5_needPainter_16 : decode cX5_needPainter 16 = .ok (.invokespecial 302, 3) := by decide +kernel
theorem dX5_needPainter_19 : decode cX5_needPainter 19 = .ok (.athrow, 1) := by decide +kernel
theorem dX5_needPainter_20 : decode cX5_needPainter 20 = .ok (.return_, 1) := by decide +kernel
theorem dX5_needChart_0 : decode cX5_needChart 0 = .ok (.iload_n 1, 1) := by decide +kernel
theorem dX5_needChart_1 : decode cX5_needChart 1 = .ok (.ifCond .lt 14, 3) := by decide +kernel
theorem dX5_needChart_4 : decode cX5_needChart 4 = .ok (.iload_n 1, 1) := by decide +kernel
theorem dX5_needChart_5 : decode cX5_needChart 5 = .ok (.aload_n 0, 1) := by decide +kernel
theorem dX5_needChart_6 : decode cX5_needChart 6 = .ok (.getfield 12, 3) := by decide +kernel
theorem dX5_needChart_9 : decode cX5_needChart 9 = .ok (.getfield 198, 3) := by decide +kernel
theorem dX5_needChart_12 : decode cX5_needChart 12 = .ok (.if_icmp .lt 14, 3) := by decide +kernel
theorem dX5_needChart_15 : decode cX5_needChart 15 = .ok (.new 298, 3) := by decide +kernel
theorem dX5_needChart_18 : decode cX5_needChart 18 = .ok (.dup, 1) := by decide +kernel
theorem dX5_needChart_19 : decode cX5_needChart 19 = .ok (.ldc_w 305, 3) := by decide +kernel
theorem dX5_needChart_22 : decode cX5_needChart 22 = .ok (.invokespecial 302, 3) := by decide +kernel
theorem dX5_needChart_25 : decode cX5_needChart 25 = .ok (.athrow, 1) := by decide +kernel
theorem dX5_needChart_26 : decode cX5_needChart 26 = .ok (.return_, 1) := by decide +kernel
theorem dX5_needWithin_0 : decode cX5_needWithin 0 = .ok (.iload_n 0, 1) := by decide +kernel
theorem dX5_needWithin_1 : decode cX5_needWithin 1 = .ok (.iload_n 1, 1) := by decide +kernel
theorem dX5_needWithin_2 : decode cX5_needWithin 2 = .ok (.if_icmp .lt 8, 3) := by decide +kernel
theorem dX5_needWithin_5 : decode cX5_needWithin 5 = .ok (.iload_n 0, 1) := by decide +kernel
theorem dX5_needWithin_6 : decode cX5_needWithin 6 = .ok (.iload_n 2, 1) := by decide +kernel
theorem dX5_needWithin_7 : decode cX5_needWithin 7 = .ok (.if_icmp .le 14, 3) := by decide +kernel
theorem dX5_needWithin_10 : decode cX5_needWithin 10 = .ok (.new 137, 3) := by decide +kernel
theorem dX5_needWithin_13 : decode cX5_needWithin 13 = .ok (.dup, 1) := by decide +kernel
theorem dX5_needWithin_14 : decode cX5_needWithin 14 = .ok (.ldc_w 307, 3) := by decide +kernel
theorem dX5_needWithin_17 : decode cX5_needWithin 17 = .ok (.invokespecial 141, 3) := by decide +kernel
theorem dX5_needWithin_20 : decode cX5_needWithin 20 = .ok (.athrow, 1) := by decide +kernel
theorem dX5_needWithin_21 : decode cX5_needWithin 21 = .ok (.return_, 1) := by decide +kernel
theorem dX5_needUnlike_0 : decode cX5_needUnlike 0 = .ok (.iload_n 0, 1) := by decide +kernel
theorem dX5_needUnlike_1 : decode cX5_needUnlike 1 = .ok (.iload_n 1, 1) := by decide +kernel
theorem dX5_needUnlike_2 : decode cX5_needUnlike 2 = .ok (.if_icmp .ne 14, 3) := by decide +kernel
theorem dX5_needUnlike_5 : decode cX5_needUnlike 5 = .ok (.new 137, 3) := by decide +kernel
theorem dX5_needUnlike_8 : decode cX5_needUnlike 8 = .ok (.dup, 1) := by decide +kernel
theorem dX5_needUnlike_9 : decode cX5_needUnlike 9 = .ok (.ldc_w 309, 3) := by decide +kernel
theorem dX5_needUnlike_12 : decode cX5_needUnlike 12 = .ok (.invokespecial 141, 3) := by decide +kernel
theorem dX5_needUnlike_15 : decode cX5_needUnlike 15 = .ok (.athrow, 1) := by decide +kernel
theorem dX5_needUnlike_16 : decode cX5_needUnlike 16 = .ok (.return_, 1) := by decide +kernel
set_option maxRecDepth 20000 in
theorem ggX6_init_X6_at : GoodIn wsX6_init wsX6_at := goodIn_r _ [15] (by decide +kernel) (by decide +kernel)
set_option maxRecDepth 20000 in
theorem gX6_init_X6_at : GoodIn wsX6_init (va_wsS RX6 27 yX6_at wsX6_at) := goodIn_app (goodIn_of _ (by decide +kernel)) ggX6_init_X6_at
theorem dX6_init_0 : decode cX6_init 0 = .ok (.aload_n 0, 1) := by decide +kernel
theorem dX6_init_1 : decode cX6_init 1 = .ok (.invokespecial 1, 3) := by decide +kernel
theorem dX6_init_4 : decode cX6_init 4 = .ok (.aload_n 0, 1) := by decide +kernel
theorem dX6_init_5 : decode cX6_init 5 = .ok (.sipush 531, 3) := by decide +kernel
theorem dX6_init_8 : decode cX6_init 8 = .ok (.newarray .int, 2) := by decide +kernel
theorem dX6_init_10 : decode cX6_init 10 = .ok (.putfield 7, 3) := by decide +kernel
theorem dX6_init_13 : decode cX6_init 13 = .ok (.aload_n 0, 1) := by decide +kernel
theorem dX6_init_14 : decode cX6_init 14 = .ok (.iconst 2, 1) := by decide +kernel
theorem dX6_init_15 : decode cX6_init 15 = .ok (.newarray .boolean, 2) := by decide +kernel
theorem dX6_init_17 : decode cX6_init 17 = .ok (.putfield 13, 3) := by decide +kernel
theorem dX6_init_20 : decode cX6_init 20 = .ok (.aload_n 0, 1) := by decide +kernel
theorem dX6_init_21 : decode cX6_init 21 = .ok (.bipush 60, 2) := by decide +kernel
theorem dX6_init_23 : decode cX6_init 23 = .ok (.newarray .char, 2) := by decide +kernel
theorem dX6_init_25 : decode cX6_init 25 = .ok (.putfield 17, 3) := by decide +kernel
theorem dX6_init_28 : decode cX6_init 28 = .ok (.aload_n 0, 1) := by decide +kernel
theorem dX6_init_29 : decode cX6_init 29 = .ok (.sipush 256, 3) := by decide +kernel
theorem dX6_init_32 : decode cX6_init 32 = .ok (.newarray .int, 2) := by decide +kernel
theorem dX6_init_34 : decode cX6_init 34 = .ok (.putfield 21, 3) := by decide +kernel
theorem dX6_init_37 : decode cX6_init 37 = .ok (.aload_n 0, 1) := by decide +kernel
theorem dX6_init_38 : decode cX6_init 38 = .ok (.bipush 9, 2) := by decide +kernel
theorem dX6_init_40 : decode cX6_init 40 = .ok (.newarray .int, 2) := by decide +kernel
theorem dX6_init_42 : decode cX6_init 42 = .ok (.putfield 24, 3) := by decide +kernel
theorem dX6_init_45 : decode cX6_init 45 = .ok (.iconst 0, 1) := by decide +kernel
theorem dX6_init_46 : decode cX6_init 46 = .ok (.istore_n 1, 1) := by decide +kernel
theorem dX6_init_47 : decode cX6_init 47 = .ok (.iload_n 1, 1) := by decide +kernel
theorem dX6_init_48 : decode cX6_init 48 = .ok (.bipush 8, 2) := by decide +kernel
theorem dX6_init_50 : decode cX6_init 50 = .ok (.if_icmp .ge 20, 3) := by decide +kernel
theorem dX6_init_53 : decode cX6_init 53 = .ok (.aload_n 0, 1) := by decide +kernel
theorem dX6_init_54 : decode cX6_init 54 = .ok (.getfield 7, 3) := by decide +kernel
theorem dX6_init_57 : decode cX6_init 57 = .ok (.iconst 4, 1) := by decide +kernel
theorem dX6_init_58 : decode cX6_init 58 = .ok (.iload_n 1, 1) := by decide +kernel
theorem dX6_init_59 : decode cX6_init 59 = .ok (.imul, 1) := by decide +kernel
theorem dX6_init_60 : decode cX6_init 60 = .ok (.iconst 3, 1) := by decide +kernel
theorem dX6_init_61 : decode cX6_init 61 = .ok (.iadd, 1) := by decide +kernel
theorem dX6_init_62 : decode cX6_init 62 = .ok (.iconst (-1), 1) := by decide +kernel
theorem dX6_init_63 : decode cX6_init 63 = .ok (.iastore, 1) := by decide +kernel
theorem dX6_init_64 : decode cX6_init 64 = .ok (.iinc 1 1, 3) := by decide +kernel
theorem dX6_init_67 : decode cX6_init 67 = .ok (.goto (-20), 3) := by decide +kernel
theorem dX6_init_70 : decode cX6_init 70 = .ok (.iconst 0, 1) := by decide +kernel
theorem dX6_init_71 : decode cX6_init 71 = .ok (.istore_n 1, 1) := by decide +kernel
theorem dX6_init_72 : decode cX6_init 72 = .ok (.iload_n 1, 1) := by decide +kernel
theorem dX6_init_73 : decode cX6_init 73 = .ok (.iconst 4, 1) := by decide +kernel
theorem dX6_init_74 : decode cX6_init 74 = .ok (.if_icmp .ge 43, 3) := by decide +kernel
theorem dX6_init_77 : decode cX6_init 77 = .ok (.aload_n 0, 1) := by decide +kernel
theorem dX6_init_78 : decode cX6_init 78 = .ok (.getfield 7, 3) := by decide +kernel
theorem dX6_init_81 : decode cX6_init 81 = .ok (.iload_n 1, 1) := by decide +kernel
theorem dX6_init_82 : decode cX6_init 82 = .ok (.invokestatic 27, 3) := by decide +kernel
theorem dX6_init_85 : decode cX6_init 85 = .ok (.iload_n 1, 1) := by decide +kernel
theorem dX6_init_86 : decode cX6_init 86 = .ok (.iastore, 1) := by decide +kernel
theorem dX6_init_87 : decode cX6_init 87 = .ok (.aload_n 0, 1) := by decide +kernel
theorem dX6_init_88 : decode cX6_init 88 = .ok (.getfield 7, 3) := by decide +kernel
theorem dX6_init_91 : decode cX6_init 91 = .ok (.iload_n 1, 1) := by decide +kernel
theorem dX6_init_92 : decode cX6_init 92 = .ok (.invokestatic 27, 3) := by decide +kernel
theorem dX6_init_95 : decode cX6_init 95 = .ok (.iconst 1, 1) := by decide +kernel
theorem dX6_init_96 : decode cX6_init 96 = .ok (.iadd, 1) := by decide +kernel
theorem dX6_init_97 : decode cX6_init 97 = .ok (.iconst 3, 1) := by decide +kernel
theorem dX6_init_98 : decode cX6_init 98 = .ok (.iastore, 1) := by decide +kernel
theorem dX6_init_99 : decode cX6_init 99 = .ok (.aload_n 0, 1) := by decide +kernel
theorem dX6_init_100 : decode cX6_init 100 = .ok (.getfield 7, 3) := by decide +kernel
theorem dX6_init_103 : decode cX6_init 103 = .ok (.iload_n 1, 1) := by decide +kernel
theorem dX6_init_104 : decode cX6_init 104 = .ok (.invokestatic 27, 3) := by decide +kernel
theorem dX6_init_107 : decode cX6_init 107 = .ok (.iconst 2, 1) := by decide +kernel
theorem dX6_init_108 : decode cX6_init 108 = .ok (.iadd, 1) := by decide +kernel
theorem dX6_init_109 : decode cX6_init 109 = .ok (.iconst (-1), 1) := by decide +kernel
theorem dX6_init_110 : decode cX6_init 110 = .ok (.iastore, 1) := by decide +kernel
theorem dX6_init_111 : decode cX6_init 111 = .ok (.iinc 1 1, 3) := by decide +kernel
theorem dX6_init_114 : decode cX6_init 114 = .ok (.goto (-42), 3) := by decide +kernel
theorem dX6_init_117 : decode cX6_init 117 = .ok (.return_, 1) := by decide +kernel
theorem dX6_thrown_0 : decode cX6_thrown 0 = .ok (.aload_n 0, 1) := by decide +kernel
theorem dX6_thrown_1 : decode cX6_thrown 1 = .ok (.getfield 31, 3) := by decide +kernel
theorem dX6_thrown_4 : decode cX6_thrown 4 = .ok (.ireturn, 1) := by decide +kernel
theorem dX6_in_0 : decode cX6_in 0 = .ok (.iload_n 0, 1) := by decide +kernel
theorem dX6_in_1 : decode cX6_in 1 = .ok (.iload_n 1, 1) := by decide +kernel
theorem dX6_in_2 : decode cX6_in 2 = .ok (.if_icmp .lt 12, 3) := by decide +kernel
theorem dX6_in_5 : decode cX6_in 5 = .ok (.iload_n 0, 1) := by decide +kernel
theorem dX6_in_6 : decode cX6_in 6 = .ok (.iload_n 2, 1) := by decide +kernel
theorem dX6_in_7 : decode cX6_in 7 = .ok (.if_icmp .gt 7, 3) := by decide +kernel
theorem dX6_in_10 : decode cX6_in 10 = .ok (.iconst 1, 1) := by decide +kernel
theorem dX6_in_11 : decode cX6_in 11 = .ok (.goto 4, 3) := by decide +kernel
theorem dX6_in_14 : decode cX6_in 14 = .ok (.iconst 0, 1) := by decide +kernel
theorem dX6_in_15 : decode cX6_in 15 = .ok (.ireturn, 1) := by decide +kernel
theorem dX6_goes_0 : decode cX6_goes 0 = .ok (.aload_n 0, 1) := by decide +kernel
theorem dX6_goes_1 : decode cX6_goes 1 = .ok (.iload_n 1, 1) := by decide +kernel
theorem dX6_goes_2 : decode cX6_goes 2 = .ok (.ifCond .ne 7, 3) := by decide +kernel
theorem dX6_goes_5 : decode cX6_goes 5 = .ok (.iconst 1, 1) := by decide +kernel
theorem dX6_goes_6 : decode cX6_goes 6 = .ok (.goto 12, 3) := by decide +kernel
theorem dX6_goes_9 : decode cX6_goes 9 = .ok (.iload_n 2, 1) := by decide +kernel
theorem dX6_goes_10 : decode cX6_goes 10 = .ok (.ifCond .ne 7, 3) := by decide +kernel
theorem dX6_goes_13 : decode cX6_goes 13 = .ok (.iconst 2, 1) := by decide +kernel
theorem dX6_goes_14 : decode cX6_goes 14 = .ok (.goto 4, 3) := by decide +kernel
theorem dX6_goes_17 : decode cX6_goes 17 = .ok (.iconst 0, 1) := by decide +kernel
theorem dX6_goes_18 : decode cX6_goes 18 = .ok (.putfield 31, 3) := by decide +kernel
theorem dX6_goes_21 : decode cX6_goes 21 = .ok (.aload_n 0, 1) := by decide +kernel
theorem dX6_goes_22 : decode cX6_goes 22 = .ok (.getfield 31, 3) := by decide +kernel
theorem dX6_goes_25 : decode cX6_goes 25 = .ok (.ifCond .ne 7, 3) := by decide +kernel
theorem dX6_goes_28 : decode cX6_goes 28 = .ok (.iconst 1, 1) := by decide +kernel
theorem dX6_goes_29 : decode cX6_goes 29 = .ok (.goto 4, 3) := by decide +kernel
theorem dX6_goes_32 : decode cX6_goes 32 = .ok (.iconst 0, 1) := by decide +kernel
theorem dX6_goes_33 : decode cX6_goes 33 = .ok (.ireturn, 1) := by decide +kernel
theorem dX6_size_0 : decode cX6_size 0 = .ok (.iload_n 0, 1) := by decide +kernel
theorem dX6_size_1 : decode cX6_size 1 = .ok (.ifCond .ge 8, 3) := by decide +kernel
theorem dX6_size_4 : decode cX6_size 4 = .ok (.iload_n 0, 1) := by decide +kernel
theorem dX6_size_5 : decode cX6_size 5 = .ok (.ineg, 1) := by decide +kernel
theorem dX6_size_6 : decode cX6_size 6 = .ok (.goto 4, 3) := by decide +kernel
theorem dX6_size_9 : decode cX6_size 9 = .ok (.iload_n 0, 1) := by decide +kernel
theorem dX6_size_10 : decode cX6_size 10 = .ok (.ireturn, 1) := by decide +kernel
theorem dX6_copies_0 : decode cX6_copies 0 = .ok (.iconst 0, 1) := by decide +kernel
theorem dX6_copies_1 : decode cX6_copies 1 = .ok (.istore_n 3, 1) := by decide +kernel
theorem dX6_copies_2 : decode cX6_copies 2 = .ok (.iload_n 3, 1) := by decide +kernel
theorem dX6_copies_3 : decode cX6_copies 3 = .ok (.bipush 59, 2) := by decide +kernel
theorem dX6_copies_5 : decode cX6_copies 5 = .ok (.if_icmp .ge 31, 3) := by decide +kernel
theorem dX6_copies_8 : decode cX6_copies 8 = .ok (.aload_n 0, 1) := by decide +kernel
theorem dX6_copies_9 : decode cX6_copies 9 = .ok (.getfield 7, 3) := by decide +kernel
theorem dX6_copies_12 : decode cX6_copies 12 = .ok (.bipush 59, 2) := by decide +kernel
theorem dX6_copies_14 : decode cX6_copies 14 = .ok (.iload_n 2, 1) := by decide +kernel
theorem dX6_copies_15 : decode cX6_copies 15 = .ok (.imul, 1) := by decide +kernel
theorem dX6_copies_16 : decode cX6_copies 16 = .ok (.iload_n 3, 1) := by decide +kernel
theorem dX6_copies_17 : decode cX6_copies 17 = .ok (.iadd, 1) := by decide +kernel
theorem dX6_copies_18 : decode cX6_copies 18 = .ok (.aload_n 0, 1) := by decide +kernel
theorem dX6_copies_19 : decode cX6_copies 19 = .ok (.getfield 7, 3) := by decide +kernel
theorem dX6_copies_22 : decode cX6_copies 22 = .ok (.bipush 59, 2) := by decide +kernel
theorem dX6_copies_24 : decode cX6_copies 24 = .ok (.iload_n 1, 1) := by decide +kernel
theorem dX6_copies_25 : decode cX6_copies 25 = .ok (.imul, 1) := by decide +kernel
theorem dX6_copies_26 : decode cX6_copies 26 = .ok (.iload_n 3, 1) := by decide +kernel
theorem dX6_copies_27 : decode cX6_copies 27 = .ok (.iadd, 1) := by decide +kernel
theorem dX6_copies_28 : decode cX6_copies 28 = .ok (.iaload, 1) := by decide +kernel
theorem dX6_copies_29 : decode cX6_copies 29 = .ok (.iastore, 1) := by decide +kernel
theorem dX6_copies_30 : decode cX6_copies 30 = .ok (.iinc 3 1, 3) := by decide +kernel
theorem dX6_copies_33 : decode cX6_copies 33 = .ok (.goto (-31), 3) := by decide +kernel
theorem dX6_copies_36 : decode cX6_copies 36 = .ok (.return_, 1) := by decide +kernel
set_option maxRecDepth 20000 in
theorem ggX6_saves_X6_copies : GoodIn wsX6_saves wsX6_copies := goodIn_r _ [6, 7, 8, 9, 10, 11, 12, 13, 14, 15, 16, 17, 18, 19] (by decide +kernel) (by decide +kernel)
set_option maxRecDepth 20000 in
theorem gX6_saves_X6_copies : GoodIn wsX6_saves (wsV RX6 38 RX6 yX6_copies wsX6_copies) := goodIn_app (goodIn_of _ (by decide +kernel)) ggX6_saves_X6_copies
theorem dX6_saves_0 : decode cX6_saves 0 = .ok (.aload_n 0, 1) := by decide +kernel
theorem dX6_saves_1 : decode cX6_saves 1 = .ok (.getfield 35, 3) := by decide +kernel
theorem dX6_saves_4 : decode cX6_saves 4 = .ok (.bipush 6, 2) := by decide +kernel
theorem dX6_saves_6 : decode cX6_saves 6 = .ok (.if_icmp .ne 35, 3) := by decide +kernel
theorem dX6_saves_9 : decode cX6_saves 9 = .ok (.iconst 1, 1) := by decide +kernel
theorem dX6_saves_10 : decode cX6_saves 10 = .ok (.istore_n 1, 1) := by decide +kernel
theorem dX6_saves_11 : decode cX6_saves 11 = .ok (.iload_n 1, 1) := by decide +kernel
theorem dX6_saves_12 : decode cX6_saves 12 = .ok (.bipush 6, 2) := by decide +kernel
theorem dX6_saves_14 : decode cX6_saves 14 = .ok (.if_icmp .ge 17, 3) := by decide +kernel
theorem dX6_saves_17 : decode cX6_saves 17 = .ok (.aload_n 0, 1) := by decide +kernel
theorem dX6_saves_18 : decode cX6_saves 18 = .ok (.iload_n 1, 1) := by decide +kernel
theorem dX6_saves_19 : decode cX6_saves 19 = .ok (.iconst 1, 1) := by decide +kernel
theorem dX6_saves_20 : decode cX6_saves 20 = .ok (.iadd, 1) := by decide +kernel
theorem dX6_saves_21 : decode cX6_saves 21 = .ok (.iload_n 1, 1) := by decide +kernel
theorem dX6_saves_22 : decode cX6_saves 22 = .ok (.invokevirtual 38, 3) := by decide +kernel
theorem dX6_saves_25 : decode cX6_saves 25 = .ok (.iinc 1 1, 3) := by decide +kernel
theorem dX6_saves_28 : decode cX6_saves 28 = .ok (.goto (-17), 3) := by decide +kernel
theorem dX6_saves_31 : decode cX6_saves 31 = .ok (.aload_n 0, 1) := by decide +kernel
theorem dX6_saves_32 : decode cX6_saves 32 = .ok (.dup, 1) := by decide +kernel
theorem dX6_saves_33 : decode cX6_saves 33 = .ok (.getfield 35, 3) := by decide +kernel
theorem dX6_saves_36 : decode cX6_saves 36 = .ok (.iconst 1, 1) := by decide +kernel
theorem dX6_saves_37 : decode cX6_saves 37 = .ok (.isub, 1) := by decide +kernel
theorem dX6_saves_38 : decode cX6_saves 38 = .ok (.putfield 35, 3) := by decide +kernel
theorem dX6_saves_41 : decode cX6_saves 41 = .ok (.aload_n 0, 1) := by decide +kernel
theorem dX6_saves_42 : decode cX6_saves 42 = .ok (.dup, 1) := by decide +kernel
theorem dX6_saves_43 : decode cX6_saves 43 = .ok (.getfield 35, 3) := by decide +kernel
theorem dX6_saves_46 : decode cX6_saves 46 = .ok (.iconst 1, 1) := by decide +kernel
theorem dX6_saves_47 : decode cX6_saves 47 = .ok (.iadd, 1) := by decide +kernel
theorem dX6_saves_48 : decode cX6_saves 48 = .ok (.putfield 35, 3) := by decide +kernel
theorem dX6_saves_51 : decode cX6_saves 51 = .ok (.aload_n 0, 1) := by decide +kernel
theorem dX6_saves_52 : decode cX6_saves 52 = .ok (.iconst 0, 1) := by decide +kernel
theorem dX6_saves_53 : decode cX6_saves 53 = .ok (.aload_n 0, 1) := by decide +kernel
theorem dX6_saves_54 : decode cX6_saves 54 = .ok (.getfield 35, 3) := by decide +kernel
theorem dX6_saves_57 : decode cX6_saves 57 = .ok (.invokevirtual 38, 3) := by decide +kernel
theorem dX6_saves_60 : decode cX6_saves 60 = .ok (.return_, 1) := by decide +kernel
set_option maxRecDepth 20000 in
theorem ggX6_sets_X6_saves : GoodIn wsX6_sets wsX6_saves := goodIn_r _ [6, 7, 8, 9, 10, 5, 11, 1, 12, 13, 14, 15, 16, 17, 18, 19, 20, 21, 22, 23] (by decide +kernel) (by decide +kernel)
set_option maxRecDepth 20000 in
theorem gX6_sets_X6_saves : GoodIn wsX6_sets (wsV RX6 42 RX6 yX6_saves wsX6_saves) := goodIn_app (goodIn_of _ (by decide +kernel)) ggX6_sets_X6_saves
theorem dX6_sets_0 : decode cX6_sets 0 = .ok (.aload_n 0, 1) := by decide +kernel
theorem dX6_sets_1 : decode cX6_sets 1 = .ok (.invokevirtual 42, 3) := by decide +kernel
theorem dX6_sets_4 : decode cX6_sets 4 = .ok (.aload_n 0, 1) := by decide +kernel
theorem dX6_sets_5 : decode cX6_sets 5 = .ok (.getfield 7, 3) := by decide +kernel
theorem dX6_sets_8 : decode cX6_sets 8 = .ok (.iload_n 1, 1) := by decide +kernel
theorem dX6_sets_9 : decode cX6_sets 9 = .ok (.iaload, 1) := by decide +kernel
theorem dX6_sets_10 : decode cX6_sets 10 = .ok (.istore_n 3, 1) := by decide +kernel
theorem dX6_sets_11 : decode cX6_sets 11 = .ok (.aload_n 0, 1) := by decide +kernel
theorem dX6_sets_12 : decode cX6_sets 12 = .ok (.getfield 7, 3) := by decide +kernel
theorem dX6_sets_15 : decode cX6_sets 15 = .ok (.iload_n 1, 1) := by decide +kernel
theorem dX6_sets_16 : decode cX6_sets 16 = .ok (.iload_n 2, 1) := by decide +kernel
theorem dX6_sets_17 : decode cX6_sets 17 = .ok (.iastore, 1) := by decide +kernel
theorem dX6_sets_18 : decode cX6_sets 18 = .ok (.iload_n 3, 1) := by decide +kernel
theorem dX6_sets_19 : decode cX6_sets 19 = .ok (.ireturn, 1) := by decide +kernel
set_option maxRecDepth 20000 in
theorem ggX6_isPot_X6_in : GoodIn wsX6_isPot wsX6_in := goodIn_r _ [4] (by decide +kernel) (by decide +kernel)
set_option maxRecDepth 20000 in
theorem gX6_isPot_X6_in : GoodIn wsX6_isPot (va_wsS RX6 45 yX6_in wsX6_in) := goodIn_app (goodIn_of _ (by decide +kernel)) ggX6_isPot_X6_in
theorem dX6_isPot_0 : decode cX6_isPot 0 = .ok (.iload_n 0, 1) := by decide +kernel
theorem dX6_isPot_1 : decode cX6_isPot 1 = .ok (.iconst 0, 1) := by decide +kernel
theorem dX6_isPot_2 : decode cX6_isPot 2 = .ok (.bipush 7, 2) := by decide +kernel
theorem dX6_isPot_4 : decode cX6_isPot 4 = .ok (.invokestatic 45, 3) := by decide +kernel
theorem dX6_isPot_7 : decode cX6_isPot 7 = .ok (.ireturn, 1) := by decide +kernel
set_option maxRecDepth 20000 in
theorem ggX6_isPainter_X6_in : GoodIn wsX6_isPainter wsX6_in := goodIn_r _ [4] (by decide +kernel) (by decide +kernel)
set_option maxRecDepth 20000 in
theorem gX6_isPainter_X6_in : GoodIn wsX6_isPainter (va_wsS RX6 45 yX6_in wsX6_in) := goodIn_app (goodIn_of _ (by decide +kernel)) ggX6_isPainter_X6_in
theorem dX6_isPainter_0 : decode cX6_isPainter 0 = .ok (.iload_n 0, 1) := by decide +kernel
theorem dX6_isPainter_1 : decode cX6_isPainter 1 = .ok (.iconst 0, 1) := by decide +kernel
theorem dX6_isPainter_2 : decode cX6_isPainter 2 = .ok (.iconst 3, 1) := by decide +kernel
theorem dX6_isPainter_3 : decode cX6_isPainter 3 = .ok (.invokestatic 45, 3) := by decide +kernel
theorem dX6_isPainter_6 : decode cX6_isPainter 6 = .ok (.ireturn, 1) := by decide +kernel
theorem dX6_at_0 : decode cX6_at 0 = .ok (.bipush 32, 2) := by decide +kernel
theorem dX6_at_2 : decode cX6_at 2 = .ok (.iconst 3, 1) := by decide +kernel
theorem dX6_at_3 : decode cX6_at 3 = .ok (.iload_n 0, 1) := by decide +kernel
theorem dX6_at_4 : decode cX6_at 4 = .ok (.imul, 1) := by decide +kernel
theorem dX6_at_5 : decode cX6_at 5 = .ok (.iadd, 1) := by decide +kernel
theorem dX6_at_6 : decode cX6_at 6 = .ok (.ireturn, 1) := by decide +kernel
theorem dX6_part_0 : decode cX6_part 0 = .ok (.iload_n 1, 1) := by decide +kernel
theorem dX6_part_1 : decode cX6_part 1 = .ok (.ifCond .ne 7, 3) := by decide +kernel
theorem dX6_part_4 : decode cX6_part 4 = .ok (.iload_n 2, 1) := by decide +kernel
theorem dX6_part_5 : decode cX6_part 5 = .ok (.goto 14, 3) := by decide +kernel
theorem dX6_part_8 : decode cX6_part 8 = .ok (.iload_n 1, 1) := by decide +kernel
theorem dX6_part_9 : decode cX6_part 9 = .ok (.iconst 1, 1) := by decide +kernel
theorem dX6_part_10 : decode cX6_part 10 = .ok (.if_icmp .ne 7, 3) := by decide +kernel
theorem dX6_part_13 : decode cX6_part 13 = .ok (.iload_n 3, 1) := by decide +kernel
theorem dX6_part_14 : decode cX6_part 14 = .ok (.goto 5, 3) := by decide +kernel
theorem dX6_part_17 : decode cX6_part 17 = .ok (.iload 4, 2) := by decide +kernel
theorem dX6_part_19 : decode cX6_part 19 = .ok (.istore 5, 2) := by decide +kernel
theorem dX6_part_21 : decode cX6_part 21 = .ok (.iload_n 0, 1) := by decide +kernel
theorem dX6_part_22 : decode cX6_part 22 = .ok (.tableswitch 63 1 3 #[26, 42, 54], 26) := by decide +kernel
theorem dX6_part_48 : decode cX6_part 48 = .ok (.iload_n 1, 1) := by decide +kernel
theorem dX6_part_49 : decode cX6_part 49 = .ok (.iconst 2, 1) := by decide +kernel
theorem dX6_part_50 : decode cX6_part 50 = .ok (.if_icmp .ne 8, 3) := by decide +kernel
theorem dX6_part_53 : decode cX6_part 53 = .ok (.iload 5, 2) := by decide +kernel
theorem dX6_part_55 : decode cX6_part 55 = .ok (.goto 8, 3) := by decide +kernel
theorem dX6_part_58 : decode cX6_part 58 = .ok (.iload_n 2, 1) := by decide +kernel
theorem dX6_part_59 : decode cX6_part 59 = .ok (.iload_n 3, 1) := by decide +kernel
theorem dX6_part_60 : decode cX6_part 60 = .ok (.iadd, 1) := by decide +kernel
theorem dX6_part_61 : decode cX6_part 61 = .ok (.iconst 2, 1) := by decide +kernel
theorem dX6_part_62 : decode cX6_part 62 = .ok (.idiv, 1) := by decide +kernel
theorem dX6_part_63 : decode cX6_part 63 = .ok (.ireturn, 1) := by decide +kernel
theorem dX6_part_64 : decode cX6_part 64 = .ok (.iload_n 1, 1) := by decide +kernel
theorem dX6_part_65 : decode cX6_part 65 = .ok (.iconst 2, 1) := by decide +kernel
theorem dX6_part_66 : decode cX6_part 66 = .ok (.if_icmp .ne 7, 3) := by decide +kernel
theorem dX6_part_69 : decode cX6_part 69 = .ok (.iconst 0, 1) := by decide +kernel
theorem dX6_part_70 : decode cX6_part 70 = .ok (.goto 5, 3) := by decide +kernel
theorem dX6_part_73 : decode cX6_part 73 = .ok (.iload 5, 2) := by decide +kernel
theorem dX6_part_75 : decode cX6_part 75 = .ok (.ireturn, 1) := by decide +kernel
theorem dX6_part_76 : decode cX6_part 76 = .ok (.iload_n 2, 1) := by decide +kernel
theorem dX6_part_77 : decode cX6_part 77 = .ok (.iload_n 3, 1) := by decide +kernel
theorem dX6_part_78 : decode cX6_part 78 = .ok (.iadd, 1) := by decide +kernel
theorem dX6_part_79 : decode cX6_part 79 = .ok (.iload 4, 2) := by decide +kernel
theorem dX6_part_81 : decode cX6_part 81 = .ok (.iadd, 1) := by decide +kernel
theorem dX6_part_82 : decode cX6_part 82 = .ok (.iconst 3, 1) := by decide +kernel
theorem dX6_part_83 : decode cX6_part 83 = .ok (.idiv, 1) := by decide +kernel
theorem dX6_part_84 : decode cX6_part 84 = .ok (.ireturn, 1) := by decide +kernel
theorem dX6_part_85 : decode cX6_part 85 = .ok (.iload 5, 2) := by decide +kernel
theorem dX6_part_87 : decode cX6_part 87 = .ok (.ireturn, 1) := by decide +kernel
set_option maxRecDepth 20000 in
theorem ggX6_distance_X6_part : GoodIn wsX6_distance wsX6_part := goodIn_r _ [5] (by decide +kernel) (by decide +kernel)
set_option maxRecDepth 20000 in
theorem gX6_distance_X6_part : GoodIn wsX6_distance (va_wsS RX6 49 yX6_part wsX6_part) := goodIn_app (goodIn_of _ (by decide +kernel)) ggX6_distance_X6_part
set_option maxRecDepth 20000 in
theorem ggX6_distance_X6_size : GoodIn wsX6_distance wsX6_size := goodIn_r _ [8] (by decide +kernel) (by decide +kernel)
set_option maxRecDepth 20000 in
theorem gX6_distance_X6_size : GoodIn wsX6_distance (va_wsS RX6 53 yX6_size wsX6_size) := goodIn_app (goodIn_of _ (by decide +kernel)) ggX6_distance_X6_size
theorem dX6_distance_0 : decode cX6_distance 0 = .ok (.iconst 0, 1) := by decide +kernel
theorem dX6_distance_1 : decode cX6_distance 1 = .ok (.istore 6, 2) := by decide +kernel
theorem dX6_distance_3 : decode cX6_distance 3 = .ok (.iconst 0, 1) := by decide +kernel
theorem dX6_distance_4 : decode cX6_distance 4 = .ok (.istore 7, 2) := by decide +kernel
theorem dX6_distance_6 : decode cX6_distance 6 = .ok (.iload 7, 2) := by decide +kernel
theorem dX6_distance_8 : decode cX6_distance 8 = .ok (.iconst 3, 1) := by decide +kernel
theorem dX6_distance_9 : decode cX6_distance 9 = .ok (.if_icmp .ge 65, 3) := by decide +kernel
theorem dX6_distance_12 : decode cX6_distance 12 = .ok (.iload 6, 2) := by decide +kernel
theorem dX6_distance_14 : decode cX6_distance 14 = .ok (.iload_n 1, 1) := by decide +kernel
theorem dX6_distance_15 : decode cX6_distance 15 = .ok (.iload 7, 2) := by decide +kernel
theorem dX6_distance_17 : decode cX6_distance 17 = .ok (.iload_n 2, 1) := by decide +kernel
theorem dX6_distance_18 : decode cX6_distance 18 = .ok (.iload_n 3, 1) := by decide +kernel
theorem dX6_distance_19 : decode cX6_distance 19 = .ok (.iload 4, 2) := by decide +kernel
theorem dX6_distance_21 : decode cX6_distance 21 = .ok (.invokestatic 49, 3) := by decide +kernel
theorem dX6_distance_24 : decode cX6_distance 24 = .ok (.iload_n 1, 1) := by decide +kernel
theorem dX6_distance_25 : decode cX6_distance 25 = .ok (.iload 7, 2) := by decide +kernel
theorem dX6_distance_27 : decode cX6_distance 27 = .ok (.aload_n 0, 1) := by decide +kernel
theorem dX6_distance_28 : decode cX6_distance 28 = .ok (.getfield 7, 3) := by decide +kernel
theorem dX6_distance_31 : decode cX6_distance 31 = .ok (.iconst 4, 1) := by decide +kernel
theorem dX6_distance_32 : decode cX6_distance 32 = .ok (.iload 5, 2) := by decide +kernel
theorem dX6_distance_34 : decode cX6_distance 34 = .ok (.imul, 1) := by decide +kernel
theorem dX6_distance_35 : decode cX6_distance 35 = .ok (.iaload, 1) := by decide +kernel
theorem dX6_distance_36 : decode cX6_distance 36 = .ok (.aload_n 0, 1) := by decide +kernel
theorem dX6_distance_37 : decode cX6_distance 37 = .ok (.getfield 7, 3) := by decide +kernel
theorem dX6_distance_40 : decode cX6_distance 40 = .ok (.iconst 4, 1) := by decide +kernel
theorem dX6_distance_41 : decode cX6_distance 41 = .ok (.iload 5, 2) := by decide +kernel
theorem dX6_distance_43 : decode cX6_distance 43 = .ok (.imul, 1) := by decide +kernel
theorem dX6_distance_44 : decode cX6_distance 44 = .ok (.iconst 1, 1) := by decide +kernel
theorem dX6_distance_45 : decode cX6_distance 45 = .ok (.iadd, 1) := by decide +kernel
theorem dX6_distance_46 : decode cX6_distance 46 = .ok (.iaload, 1) := by decide +kernel
theorem dX6_distance_47 : decode cX6_distance 47 = .ok (.aload_n 0, 1) := by decide +kernel
theorem dX6_distance_48 : decode cX6_distance 48 = .ok (.getfield 7, 3) := by decide +kernel
theorem dX6_distance_51 : decode cX6_distance 51 = .ok (.iconst 4, 1) := by decide +kernel
theorem dX6_distance_52 : decode cX6_distance 52 = .ok (.iload 5, 2) := by decide +kernel
theorem dX6_distance_54 : decode cX6_distance 54 = .ok (.imul, 1) := by decide +kernel
theorem dX6_distance_55 : decode cX6_distance 55 = .ok (.iconst 2, 1) := by decide +kernel
theorem dX6_distance_56 : decode cX6_distance 56 = .ok (.iadd, 1) := by decide +kernel
theorem dX6_distance_57 : decode cX6_distance 57 = .ok (.iaload, 1) := by decide +kernel
theorem dX6_distance_58 : decode cX6_distance 58 = .ok (.invokestatic 49, 3) := by decide +kernel
theorem dX6_distance_61 : decode cX6_distance 61 = .ok (.isub, 1) := by decide +kernel
theorem dX6_distance_62 : decode cX6_distance 62 = .ok (.invokestatic 53, 3) := by decide +kernel
theorem dX6_distance_65 : decode cX6_distance 65 = .ok (.iadd, 1) := by decide +kernel
theorem dX6_distance_66 : decode cX6_distance 66 = .ok (.istore 6, 2) := by decide +kernel
theorem dX6_distance_68 : decode cX6_distance 68 = .ok (.iinc 7 1, 3) := by decide +kernel
theorem dX6_distance_71 : decode cX6_distance 71 = .ok (.goto (-65), 3) := by decide +kernel
theorem dX6_distance_74 : decode cX6_distance 74 = .ok (.iload 6, 2) := by decide +kernel
theorem dX6_distance_76 : decode cX6_distance 76 = .ok (.ireturn, 1) := by decide +kernel
set_option maxRecDepth 20000 in
theorem ggX6_tells_X6_at : GoodIn wsX6_tells wsX6_at := goodIn_r _ [5] (by decide +kernel) (by decide +kernel)
set_option maxRecDepth 20000 in
theorem gX6_tells_X6_at : GoodIn wsX6_tells (va_wsS RX6 27 yX6_at wsX6_at) := goodIn_app (goodIn_of _ (by decide +kernel)) ggX6_tells_X6_at
set_option maxRecDepth 20000 in
theorem ggX6_tells_X6_distance : GoodIn wsX6_tells wsX6_distance := goodIn_r _ [9, 1, 10, 11, 4, 12, 13, 14, 15, 16, 17, 18, 19, 20, 21, 22, 23, 24, 25, 26, 27] (by decide +kernel) (by decide +kernel)
set_option maxRecDepth 20000 in
theorem gX6_tells_X6_distance : GoodIn wsX6_tells (wsV RX6 56 RX6 yX6_distance wsX6_distance) := goodIn_app (goodIn_of _ (by decide +kernel)) ggX6_tells_X6_distance
theorem dX6_tells_0 : decode cX6_tells 0 = .ok (.iload_n 1, 1) := by decide +kernel
theorem dX6_tells_1 : decode cX6_tells 1 = .ok (.invokestatic 27, 3) := by decide +kernel
theorem dX6_tells_4 : decode cX6_tells 4 = .ok (.istore 7, 2) := by decide +kernel
theorem dX6_tells_6 : decode cX6_tells 6 = .ok (.aload_n 0, 1) := by decide +kernel
theorem dX6_tells_7 : decode cX6_tells 7 = .ok (.aload_n 0, 1) := by decide +kernel
theorem dX6_tells_8 : decode cX6_tells 8 = .ok (.getfield 7, 3) := by decide +kernel
theorem dX6_tells_11 : decode cX6_tells 11 = .ok (.iload 7, 2) := by decide +kernel
theorem dX6_tells_13 : decode cX6_tells 13 = .ok (.iaload, 1) := by decide +kernel
theorem dX6_tells_14 : decode cX6_tells 14 = .ok (.iload_n 3, 1) := by decide +kernel
theorem dX6_tells_15 : decode cX6_tells 15 = .ok (.iload 4, 2) := by decide +kernel
theorem dX6_tells_17 : decode cX6_tells 17 = .ok (.iload 5, 2) := by decide +kernel
theorem dX6_tells_19 : decode cX6_tells 19 = .ok (.iload 6, 2) := by decide +kernel
theorem dX6_tells_21 : decode cX6_tells 21 = .ok (.invokevirtual 56, 3) := by decide +kernel
theorem dX6_tells_24 : decode cX6_tells 24 = .ok (.aload_n 0, 1) := by decide +kernel
theorem dX6_tells_25 : decode cX6_tells 25 = .ok (.getfield 7, 3) := by decide +kernel
theorem dX6_tells_28 : decode cX6_tells 28 = .ok (.iload 7, 2) := by decide +kernel
theorem dX6_tells_30 : decode cX6_tells 30 = .ok (.iconst 1, 1) := by decide +kernel
theorem dX6_tells_31 : decode cX6_tells 31 = .ok (.iadd, 1) := by decide +kernel
theorem dX6_tells_32 : decode cX6_tells 32 = .ok (.iaload, 1) := by decide +kernel
theorem dX6_tells_33 : decode cX6_tells 33 = .ok (.if_icmp .gt 40, 3) := by decide +kernel
theorem dX6_tells_36 : decode cX6_tells 36 = .ok (.iload_n 2, 1) := by decide +kernel
theorem dX6_tells_37 : decode cX6_tells 37 = .ok (.iconst (-1), 1) := by decide +kernel
theorem dX6_tells_38 : decode cX6_tells 38 = .ok (.if_icmp .eq 39, 3) := by decide +kernel
theorem dX6_tells_41 : decode cX6_tells 41 = .ok (.aload_n 0, 1) := by decide +kernel
theorem dX6_tells_42 : decode cX6_tells 42 = .ok (.aload_n 0, 1) := by decide +kernel
theorem dX6_tells_43 : decode cX6_tells 43 = .ok (.getfield 7, 3) := by decide +kernel
theorem dX6_tells_46 : decode cX6_tells 46 = .ok (.iload_n 2, 1) := by decide +kernel
theorem dX6_tells_47 : decode cX6_tells 47 = .ok (.invokestatic 27, 3) := by decide +kernel
theorem dX6_tells_50 : decode cX6_tells 50 = .ok (.iaload, 1) := by decide +kernel
theorem dX6_tells_51 : decode cX6_tells 51 = .ok (.iload_n 3, 1) := by decide +kernel
theorem dX6_tells_52 : decode cX6_tells 52 = .ok (.iload 4, 2) := by decide +kernel
theorem dX6_tells_54 : decode cX6_tells 54 = .ok (.iload 5, 2) := by decide +kernel
theorem dX6_tells_56 : decode cX6_tells 56 = .ok (.iload 6, 2) := by decide +kernel
theorem dX6_tells_58 : decode cX6_tells 58 = .ok (.invokevirtual 56, 3) := by decide +kernel
theorem dX6_tells_61 : decode cX6_tells 61 = .ok (.aload_n 0, 1) := by decide +kernel
theorem dX6_tells_62 : decode cX6_tells 62 = .ok (.getfield 7, 3) := by decide +kernel
theorem dX6_tells_65 : decode cX6_tells 65 = .ok (.iload 7, 2) := by decide +kernel
theorem dX6_tells_67 : decode cX6_tells 67 = .ok (.iconst 1, 1) := by decide +kernel
theorem dX6_tells_68 : decode cX6_tells 68 = .ok (.iadd, 1) := by decide +kernel
theorem dX6_tells_69 : decode cX6_tells 69 = .ok (.iaload, 1) := by decide +kernel
theorem dX6_tells_70 : decode cX6_tells 70 = .ok (.if_icmp .le 7, 3) := by decide +kernel
theorem dX6_tells_73 : decode cX6_tells 73 = .ok (.iconst 1, 1) := by decide +kernel
theorem dX6_tells_74 : decode cX6_tells 74 = .ok (.goto 4, 3) := by decide +kernel
theorem dX6_tells_77 : decode cX6_tells 77 = .ok (.iconst 0, 1) := by decide +kernel
theorem dX6_tells_78 : decode cX6_tells 78 = .ok (.ireturn, 1) := by decide +kernel
set_option maxRecDepth 20000 in
theorem ggX6_areApartWith_X6_tells : GoodIn wsX6_areApartWith wsX6_tells := goodIn_r _ [6, 1, 7, 8, 5, 9, 10, 11, 12, 13, 14, 15, 16, 17, 18, 19, 20, 21, 22, 23, 24, 25, 26, 27, 28, 29, 30, 31] (by decide +kernel) (by decide +kernel)
set_option maxRecDepth 20000 in
theorem gX6_areApartWith_X6_tells : GoodIn wsX6_areApartWith (wsV RX6 59 RX6 yX6_tells wsX6_tells) := goodIn_app (goodIn_of _ (by decide +kernel)) ggX6_areApartWith_X6_tells
theorem dX6_areApartWith_0 : decode cX6_areApartWith 0 = .ok (.aload_n 0, 1) := by decide +kernel
theorem dX6_areApartWith_1 : decode cX6_areApartWith 1 = .ok (.iload_n 1, 1) := by decide +kernel
theorem dX6_areApartWith_2 : decode cX6_areApartWith 2 = .ok (.iload_n 2, 1) := by decide +kernel
theorem dX6_areApartWith_3 : decode cX6_areApartWith 3 = .ok (.aload_n 0, 1) := by decide +kernel
theorem dX6_areApartWith_4 : decode cX6_areApartWith 4 = .ok (.getfield 7, 3) := by decide +kernel
theorem dX6_areApartWith_7 : decode cX6_areApartWith 7 = .ok (.iconst 4, 1) := by decide +kernel
theorem dX6_areApartWith_8 : decode cX6_areApartWith 8 = .ok (.iload_n 3, 1) := by decide +kernel
theorem dX6_areApartWith_9 : decode cX6_areApartWith 9 = .ok (.imul, 1) := by decide +kernel
theorem dX6_areApartWith_10 : decode cX6_areApartWith 10 = .ok (.iaload, 1) := by decide +kernel
theorem dX6_areApartWith_11 : decode cX6_areApartWith 11 = .ok (.aload_n 0, 1) := by decide +kernel
theorem dX6_areApartWith_12 : decode cX6_areApartWith 12 = .ok (.getfield 7, 3) := by decide +kernel
theorem dX6_areApartWith_15 : decode cX6_areApartWith 15 = .ok (.iconst 4, 1) := by decide +kernel
theorem dX6_areApartWith_16 : decode cX6_areApartWith 16 = .ok (.iload_n 3, 1) := by decide +kernel
theorem dX6_areApartWith_17 : decode cX6_areApartWith 17 = .ok (.imul, 1) := by decide +kernel
theorem dX6_areApartWith_18 : decode cX6_areApartWith 18 = .ok (.iconst 1, 1) := by decide +kernel
theorem dX6_areApartWith_19 : decode cX6_areApartWith 19 = .ok (.iadd, 1) := by decide +kernel
theorem dX6_areApartWith_20 : decode cX6_areApartWith 20 = .ok (.iaload, 1) := by decide +kernel
theorem dX6_areApartWith_21 : decode cX6_areApartWith 21 = .ok (.aload_n 0, 1) := by decide +kernel
theorem dX6_areApartWith_22 : decode cX6_areApartWith 22 = .ok (.getfield 7, 3) := by decide +kernel
theorem dX6_areApartWith_25 : decode cX6_areApartWith 25 = .ok (.iconst 4, 1) := by decide +kernel
theorem dX6_areApartWith_26 : decode cX6_areApartWith 26 = .ok (.iload_n 3, 1) := by decide +kernel
theorem dX6_areApartWith_27 : decode cX6_areApartWith 27 = .ok (.imul, 1) := by decide +kernel
theorem dX6_areApartWith_28 : decode cX6_areApartWith 28 = .ok (.iconst 2, 1) := by decide +kernel
theorem dX6_areApartWith_29 : decode cX6_areApartWith 29 = .ok (.iadd, 1) := by decide +kernel
theorem dX6_areApartWith_30 : decode cX6_areApartWith 30 = .ok (.iaload, 1) := by decide +kernel
theorem dX6_areApartWith_31 : decode cX6_areApartWith 31 = .ok (.iload 4, 2) := by decide +kernel
theorem dX6_areApartWith_33 : decode cX6_areApartWith 33 = .ok (.invokevirtual 59, 3) := by decide +kernel
theorem dX6_areApartWith_36 : decode cX6_areApartWith 36 = .ok (.ireturn, 1) := by decide +kernel
set_option maxRecDepth 20000 in
theorem ggX6_areApart_X6_at : GoodIn wsX6_areApart wsX6_at := goodIn_r _ [5] (by decide +kernel) (by decide +kernel)
set_option maxRecDepth 20000 in
theorem gX6_areApart_X6_at : GoodIn wsX6_areApart (va_wsS RX6 27 yX6_at wsX6_at) := goodIn_app (goodIn_of _ (by decide +kernel)) ggX6_areApart_X6_at
set_option maxRecDepth 20000 in
theorem ggX6_areApart_X6_areApartWith : GoodIn wsX6_areApart wsX6_areApartWith := goodIn_r _ [9, 1, 10, 11, 12, 4, 13, 2, 3, 5, 14, 15, 16, 17, 18, 19, 20, 21, 22, 23, 24, 25, 26, 27, 28, 29, 30, 31, 32, 33, 34, 35] (by decide +kernel) (by decide +kernel)
set_option maxRecDepth 20000 in
theorem gX6_areApart_X6_areApartWith : GoodIn wsX6_areApart (wsV RX6 63 RX6 yX6_areApartWith wsX6_areApartWith) := goodIn_app (goodIn_of _ (by decide +kernel)) ggX6_areApart_X6_areApartWith
theorem dX6_areApart_0 : decode cX6_areApart 0 = .ok (.aload_n 0, 1) := by decide +kernel
theorem dX6_areApart_1 : decode cX6_areApart 1 = .ok (.iload_n 1, 1) := by decide +kernel
theorem dX6_areApart_2 : decode cX6_areApart 2 = .ok (.aload_n 0, 1) := by decide +kernel
theorem dX6_areApart_3 : decode cX6_areApart 3 = .ok (.getfield 7, 3) := by decide +kernel
theorem dX6_areApart_6 : decode cX6_areApart 6 = .ok (.iload_n 1, 1) := by decide +kernel
theorem dX6_areApart_7 : decode cX6_areApart 7 = .ok (.invokestatic 27, 3) := by decide +kernel
theorem dX6_areApart_10 : decode cX6_areApart 10 = .ok (.iconst 2, 1) := by decide +kernel
theorem dX6_areApart_11 : decode cX6_areApart 11 = .ok (.iadd, 1) := by decide +kernel
theorem dX6_areApart_12 : decode cX6_areApart 12 = .ok (.iaload, 1) := by decide +kernel
theorem dX6_areApart_13 : decode cX6_areApart 13 = .ok (.iload_n 2, 1) := by decide +kernel
theorem dX6_areApart_14 : decode cX6_areApart 14 = .ok (.iload_n 3, 1) := by decide +kernel
theorem dX6_areApart_15 : decode cX6_areApart 15 = .ok (.invokevirtual 63, 3) := by decide +kernel
theorem dX6_areApart_18 : decode cX6_areApart 18 = .ok (.ireturn, 1) := by decide +kernel
set_option maxRecDepth 20000 in
theorem ggX6_pairsWith_X6_areApartWith : GoodIn wsX6_pairsWith wsX6_areApartWith := goodIn_r _ [5, 6, 7, 8, 9, 4, 10, 11, 12, 13, 14, 15, 16, 17, 18, 19, 20, 21, 22, 23, 24, 25, 26, 27, 28, 29, 30, 31, 32, 33, 34, 35] (by decide +kernel) (by decide +kernel)
set_option maxRecDepth 20000 in
theorem gX6_pairsWith_X6_areApartWith : GoodIn wsX6_pairsWith (wsV RX6 63 RX6 yX6_areApartWith wsX6_areApartWith) := goodIn_app (goodIn_of _ (by decide +kernel)) ggX6_pairsWith_X6_areApartWith
theorem dX6_pairsWith_0 : decode cX6_pairsWith 0 = .ok (.iconst 0, 1) := by decide +kernel
theorem dX6_pairsWith_1 : decode cX6_pairsWith 1 = .ok (.istore_n 3, 1) := by decide +kernel
theorem dX6_pairsWith_2 : decode cX6_pairsWith 2 = .ok (.iconst 0, 1) := by decide +kernel
theorem dX6_pairsWith_3 : decode cX6_pairsWith 3 = .ok (.istore 4, 2) := by decide +kernel
theorem dX6_pairsWith_5 : decode cX6_pairsWith 5 = .ok (.iload 4, 2) := by decide +kernel
theorem dX6_pairsWith_7 : decode cX6_pairsWith 7 = .ok (.bipush 64, 2) := by decide +kernel
theorem dX6_pairsWith_9 : decode cX6_pairsWith 9 = .ok (.if_icmp .ge 49, 3) := by decide +kernel
theorem dX6_pairsWith_12 : decode cX6_pairsWith 12 = .ok (.iload_n 3, 1) := by decide +kernel
theorem dX6_pairsWith_13 : decode cX6_pairsWith 13 = .ok (.iload 4, 2) := by decide +kernel
theorem dX6_pairsWith_15 : decode cX6_pairsWith 15 = .ok (.bipush 8, 2) := by decide +kernel
theorem dX6_pairsWith_17 : decode cX6_pairsWith 17 = .ok (.idiv, 1) := by decide +kernel
theorem dX6_pairsWith_18 : decode cX6_pairsWith 18 = .ok (.iload 4, 2) := by decide +kernel
theorem dX6_pairsWith_20 : decode cX6_pairsWith 20 = .ok (.bipush 8, 2) := by decide +kernel
theorem dX6_pairsWith_22 : decode cX6_pairsWith 22 = .ok (.irem, 1) := by decide +kernel
theorem dX6_pairsWith_23 : decode cX6_pairsWith 23 = .ok (.if_icmp .ge 26, 3) := by decide +kernel
theorem dX6_pairsWith_26 : decode cX6_pairsWith 26 = .ok (.aload_n 0, 1) := by decide +kernel
theorem dX6_pairsWith_27 : decode cX6_pairsWith 27 = .ok (.iload_n 1, 1) := by decide +kernel
theorem dX6_pairsWith_28 : decode cX6_pairsWith 28 = .ok (.iload_n 2, 1) := by decide +kernel
theorem dX6_pairsWith_29 : decode cX6_pairsWith 29 = .ok (.iload 4, 2) := by decide +kernel
theorem dX6_pairsWith_31 : decode cX6_pairsWith 31 = .ok (.bipush 8, 2) := by decide +kernel
theorem dX6_pairsWith_33 : decode cX6_pairsWith 33 = .ok (.idiv, 1) := by decide +kernel
theorem dX6_pairsWith_34 : decode cX6_pairsWith 34 = .ok (.iload 4, 2) := by decide +kernel
theorem dX6_pairsWith_36 : decode cX6_pairsWith 36 = .ok (.bipush 8, 2) := by decide +kernel
theorem dX6_pairsWith_38 : decode cX6_pairsWith 38 = .ok (.irem, 1) := by decide +kernel
theorem dX6_pairsWith_39 : decode cX6_pairsWith 39 = .ok (.invokevirtual 63, 3) := by decide +kernel
theorem dX6_pairsWith_42 : decode cX6_pairsWith 42 = .ok (.ifCond .eq 7, 3) := by decide +kernel
theorem dX6_pairsWith_45 : decode cX6_pairsWith 45 = .ok (.iconst 1, 1) := by decide +kernel
theorem dX6_pairsWith_46 : decode cX6_pairsWith 46 = .ok (.goto 4, 3) := by decide +kernel
theorem dX6_pairsWith_49 : decode cX6_pairsWith 49 = .ok (.iconst 0, 1) := by decide +kernel
theorem dX6_pairsWith_50 : decode cX6_pairsWith 50 = .ok (.iadd, 1) := by decide +kernel
theorem dX6_pairsWith_51 : decode cX6_pairsWith 51 = .ok (.istore_n 3, 1) := by decide +kernel
theorem dX6_pairsWith_52 : decode cX6_pairsWith 52 = .ok (.iinc 4 1, 3) := by decide +kernel
theorem dX6_pairsWith_55 : decode cX6_pairsWith 55 = .ok (.goto (-50), 3) := by decide +kernel
theorem dX6_pairsWith_58 : decode cX6_pairsWith 58 = .ok (.iload_n 3, 1) := by decide +kernel
theorem dX6_pairsWith_59 : decode cX6_pairsWith 59 = .ok (.ireturn, 1) := by decide +kernel
set_option maxRecDepth 20000 in
theorem ggX6_pairs_X6_at : GoodIn wsX6_pairs wsX6_at := goodIn_r _ [5] (by decide +kernel) (by decide +kernel)
set_option maxRecDepth 20000 in
theorem gX6_pairs_X6_at : GoodIn wsX6_pairs (va_wsS RX6 27 yX6_at wsX6_at) := goodIn_app (goodIn_of _ (by decide +kernel)) ggX6_pairs_X6_at
set_option maxRecDepth 20000 in
theorem ggX6_pairs_X6_pairsWith : GoodIn wsX6_pairs wsX6_pairsWith := goodIn_r _ [9, 10, 11, 12, 4, 13, 1, 14, 15, 16, 17, 2, 3, 5, 18, 19, 20, 21, 22, 23, 24, 25, 26, 27, 28, 29, 30, 31, 32, 33, 34, 35, 36, 37, 38, 39] (by decide +kernel) (by decide +kernel)
set_option maxRecDepth 20000 in
theorem gX6_pairs_X6_pairsWith : GoodIn wsX6_pairs (wsV RX6 67 RX6 yX6_pairsWith wsX6_pairsWith) := goodIn_app (goodIn_of _ (by decide +kernel)) ggX6_pairs_X6_pairsWith
theorem dX6_pairs_0 : decode cX6_pairs 0 = .ok (.aload_n 0, 1) := by decide +kernel
theorem dX6_pairs_1 : decode cX6_pairs 1 = .ok (.iload_n 1, 1) := by decide +kernel
theorem dX6_pairs_2 : decode cX6_pairs 2 = .ok (.aload_n 0, 1) := by decide +kernel
theorem dX6_pairs_3 : decode cX6_pairs 3 = .ok (.getfield 7, 3) := by decide +kernel
theorem dX6_pairs_6 : decode cX6_pairs 6 = .ok (.iload_n 1, 1) := by decide +kernel
theorem dX6_pairs_7 : decode cX6_pairs 7 = .ok (.invokestatic 27, 3) := by decide +kernel
theorem dX6_pairs_10 : decode cX6_pairs 10 = .ok (.iconst 2, 1) := by decide +kernel
theorem dX6_pairs_11 : decode cX6_pairs 11 = .ok (.iadd, 1) := by decide +kernel
theorem dX6_pairs_12 : decode cX6_pairs 12 = .ok (.iaload, 1) := by decide +kernel
theorem dX6_pairs_13 : decode cX6_pairs 13 = .ok (.invokevirtual 67, 3) := by decide +kernel
theorem dX6_pairs_16 : decode cX6_pairs 16 = .ok (.ireturn, 1) := by decide +kernel
set_option maxRecDepth 20000 in
theorem ggX6_least_X6_size : GoodIn wsX6_least wsX6_size := goodIn_r _ [8] (by decide +kernel) (by decide +kernel)
set_option maxRecDepth 20000 in
theorem gX6_least_X6_size : GoodIn wsX6_least (va_wsS RX6 53 yX6_size wsX6_size) := goodIn_app (goodIn_of _ (by decide +kernel)) ggX6_least_X6_size
set_option maxRecDepth 20000 in
theorem ggX6_least_X6_at : GoodIn wsX6_least wsX6_at := goodIn_r _ [11] (by decide +kernel) (by decide +kernel)
set_option maxRecDepth 20000 in
theorem gX6_least_X6_at : GoodIn wsX6_least (va_wsS RX6 27 yX6_at wsX6_at) := goodIn_app (goodIn_of _ (by decide +kernel)) ggX6_least_X6_at
set_option maxRecDepth 20000 in
theorem ggX6_least_X6_tells : GoodIn wsX6_least wsX6_tells := goodIn_r _ [15, 1, 9, 10, 7, 11, 16, 17, 18, 19, 20, 21, 22, 5, 6, 8, 23, 24, 25, 26, 27, 28, 29, 30, 31, 32, 33, 34] (by decide +kernel) (by decide +kernel)
set_option maxRecDepth 20000 in
theorem gX6_least_X6_tells : GoodIn wsX6_least (wsV RX6 59 RX6 yX6_tells wsX6_tells) := goodIn_app (goodIn_of _ (by decide +kernel)) ggX6_least_X6_tells
theorem dX6_least_0 : decode cX6_least 0 = .ok (.iconst 4, 1) := by decide +kernel
theorem dX6_least_1 : decode cX6_least 1 = .ok (.iload_n 2, 1) := by decide +kernel
theorem dX6_least_2 : decode cX6_least 2 = .ok (.imul, 1) := by decide +kernel
theorem dX6_least_3 : decode cX6_least 3 = .ok (.istore 4, 2) := by decide +kernel
theorem dX6_least_5 : decode cX6_least 5 = .ok (.iconst (-1), 1) := by decide +kernel
theorem dX6_least_6 : decode cX6_least 6 = .ok (.istore 5, 2) := by decide +kernel
theorem dX6_least_8 : decode cX6_least 8 = .ok (.iconst 0, 1) := by decide +kernel
theorem dX6_least_9 : decode cX6_least 9 = .ok (.istore 6, 2) := by decide +kernel
theorem dX6_least_11 : decode cX6_least 11 = .ok (.iload 6, 2) := by decide +kernel
theorem dX6_least_13 : decode cX6_least 13 = .ok (.sipush 1000, 3) := by decide +kernel
theorem dX6_least_16 : decode cX6_least 16 = .ok (.if_icmp .ge 153, 3) := by decide +kernel
theorem dX6_least_19 : decode cX6_least 19 = .ok (.iload 6, 2) := by decide +kernel
theorem dX6_least_21 : decode cX6_least 21 = .ok (.bipush 100, 2) := by decide +kernel
theorem dX6_least_23 : decode cX6_least 23 = .ok (.idiv, 1) := by decide +kernel
theorem dX6_least_24 : decode cX6_least 24 = .ok (.istore 7, 2) := by decide +kernel
theorem dX6_least_26 : decode cX6_least 26 = .ok (.iload 6, 2) := by decide +kernel
theorem dX6_least_28 : decode cX6_least 28 = .ok (.bipush 10, 2) := by decide +kernel
theorem dX6_least_30 : decode cX6_least 30 = .ok (.idiv, 1) := by decide +kernel
theorem dX6_least_31 : decode cX6_least 31 = .ok (.bipush 10, 2) := by decide +kernel
theorem dX6_least_33 : decode cX6_least 33 = .ok (.irem, 1) := by decide +kernel
theorem dX6_least_34 : decode cX6_least 34 = .ok (.istore 8, 2) := by decide +kernel
theorem dX6_least_36 : decode cX6_least 36 = .ok (.iload 6, 2) := by decide +kernel
theorem dX6_least_38 : decode cX6_least 38 = .ok (.bipush 10, 2) := by decide +kernel
theorem dX6_least_40 : decode cX6_least 40 = .ok (.irem, 1) := by decide +kernel
theorem dX6_least_41 : decode cX6_least 41 = .ok (.istore 9, 2) := by decide +kernel
theorem dX6_least_43 : decode cX6_least 43 = .ok (.iload 7, 2) := by decide +kernel
theorem dX6_least_45 : decode cX6_least 45 = .ok (.aload_n 0, 1) := by decide +kernel
theorem dX6_least_46 : decode cX6_least 46 = .ok (.getfield 7, 3) := by decide +kernel
theorem dX6_least_49 : decode cX6_least 49 = .ok (.iload 4, 2) := by decide +kernel
theorem dX6_least_51 : decode cX6_least 51 = .ok (.iaload, 1) := by decide +kernel
theorem dX6_least_52 : decode cX6_least 52 = .ok (.isub, 1) := by decide +kernel
theorem dX6_least_53 : decode cX6_least 53 = .ok (.invokestatic 53, 3) := by decide +kernel
theorem dX6_least_56 : decode cX6_least 56 = .ok (.iload 8, 2) := by decide +kernel
theorem dX6_least_58 : decode cX6_least 58 = .ok (.aload_n 0, 1) := by decide +kernel
theorem dX6_least_59 : decode cX6_least 59 = .ok (.getfield 7, 3) := by decide +kernel
theorem dX6_least_62 : decode cX6_least 62 = .ok (.iload 4, 2) := by decide +kernel
theorem dX6_least_64 : decode cX6_least 64 = .ok (.iconst 1, 1) := by decide +kernel
theorem dX6_least_65 : decode cX6_least 65 = .ok (.iadd, 1) := by decide +kernel
theorem dX6_least_66 : decode cX6_least 66 = .ok (.iaload, 1) := by decide +kernel
theorem dX6_least_67 : decode cX6_least 67 = .ok (.isub, 1) := by decide +kernel
theorem dX6_least_68 : decode cX6_least 68 = .ok (.invokestatic 53, 3) := by decide +kernel
theorem dX6_least_71 : decode cX6_least 71 = .ok (.iadd, 1) := by decide +kernel
theorem dX6_least_72 : decode cX6_least 72 = .ok (.iload 9, 2) := by decide +kernel
theorem dX6_least_74 : decode cX6_least 74 = .ok (.aload_n 0, 1) := by decide +kernel
theorem dX6_least_75 : decode cX6_least 75 = .ok (.getfield 7, 3) := by decide +kernel
theorem dX6_least_78 : decode cX6_least 78 = .ok (.iload 4, 2) := by decide +kernel
theorem dX6_least_80 : decode cX6_least 80 = .ok (.iconst 2, 1) := by decide +kernel
theorem dX6_least_81 : decode cX6_least 81 = .ok (.iadd, 1) := by decide +kernel
theorem dX6_least_82 : decode cX6_least 82 = .ok (.iaload, 1) := by decide +kernel
theorem dX6_least_83 : decode cX6_least 83 = .ok (.isub, 1) := by decide +kernel
theorem dX6_least_84 : decode cX6_least 84 = .ok (.invokestatic 53, 3) := by decide +kernel
theorem dX6_least_87 : decode cX6_least 87 = .ok (.iadd, 1) := by decide +kernel
theorem dX6_least_88 : decode cX6_least 88 = .ok (.istore 10, 2) := by decide +kernel
theorem dX6_least_90 : decode cX6_least 90 = .ok (.iload 5, 2) := by decide +kernel
theorem dX6_least_92 : decode cX6_least 92 = .ok (.iconst (-1), 1) := by decide +kernel
theorem dX6_least_93 : decode cX6_least 93 = .ok (.if_icmp .eq 10, 3) := by decide +kernel
theorem dX6_least_96 : decode cX6_least 96 = .ok (.iload 10, 2) := by decide +kernel
theorem dX6_least_98 : decode cX6_least 98 = .ok (.iload 5, 2) := by decide +kernel
theorem dX6_least_100 : decode cX6_least 100 = .ok (.if_icmp .ge 7, 3) := by decide +kernel
theorem dX6_least_103 : decode cX6_least 103 = .ok (.iconst 1, 1) := by decide +kernel
theorem dX6_least_104 : decode cX6_least 104 = .ok (.goto 4, 3) := by decide +kernel
theorem dX6_least_107 : decode cX6_least 107 = .ok (.iconst 0, 1) := by decide +kernel
theorem dX6_least_108 : decode cX6_least 108 = .ok (.istore 11, 2) := by decide +kernel
theorem dX6_least_110 : decode cX6_least 110 = .ok (.iload 11, 2) := by decide +kernel
theorem dX6_least_112 : decode cX6_least 112 = .ok (.ifCond .eq 51, 3) := by decide +kernel
theorem dX6_least_115 : decode cX6_least 115 = .ok (.aload_n 0, 1) := by decide +kernel
theorem dX6_least_116 : decode cX6_least 116 = .ok (.iload_n 1, 1) := by decide +kernel
theorem dX6_least_117 : decode cX6_least 117 = .ok (.aload_n 0, 1) := by decide +kernel
theorem dX6_least_118 : decode cX6_least 118 = .ok (.getfield 7, 3) := by decide +kernel
theorem dX6_least_121 : decode cX6_least 121 = .ok (.iload_n 1, 1) := by decide +kernel
theorem dX6_least_122 : decode cX6_least 122 = .ok (.invokestatic 27, 3) := by decide +kernel
theorem dX6_least_125 : decode cX6_least 125 = .ok (.iconst 2, 1) := by decide +kernel
theorem dX6_least_126 : decode cX6_least 126 = .ok (.iadd, 1) := by decide +kernel
theorem dX6_least_127 : decode cX6_least 127 = .ok (.iaload, 1) := by decide +kernel
theorem dX6_least_128 : decode cX6_least 128 = .ok (.iload 7, 2) := by decide +kernel
theorem dX6_least_130 : decode cX6_least 130 = .ok (.iload 8, 2) := by decide +kernel
theorem dX6_least_132 : decode cX6_least 132 = .ok (.iload 9, 2) := by decide +kernel
theorem dX6_least_134 : decode cX6_least 134 = .ok (.iload_n 3, 1) := by decide +kernel
theorem dX6_least_135 : decode cX6_least 135 = .ok (.invokevirtual 59, 3) := by decide +kernel
theorem dX6_least_138 : decode cX6_least 138 = .ok (.ifCond .eq 25, 3) := by decide +kernel
theorem dX6_least_141 : decode cX6_least 141 = .ok (.iload 10, 2) := by decide +kernel
theorem dX6_least_143 : decode cX6_least 143 = .ok (.istore 5, 2) := by decide +kernel
theorem dX6_least_145 : decode cX6_least 145 = .ok (.aload_n 0, 1) := by decide +kernel
theorem dX6_least_146 : decode cX6_least 146 = .ok (.iload 7, 2) := by decide +kernel
theorem dX6_least_148 : decode cX6_least 148 = .ok (.putfield 71, 3) := by decide +kernel
theorem dX6_least_151 : decode cX6_least 151 = .ok (.aload_n 0, 1) := by decide +kernel
theorem dX6_least_152 : decode cX6_least 152 = .ok (.iload 8, 2) := by decide +kernel
theorem dX6_least_154 : decode cX6_least 154 = .ok (.putfield 74, 3) := by decide +kernel
theorem dX6_least_157 : decode cX6_least 157 = .ok (.aload_n 0, 1) := by decide +kernel
theorem dX6_least_158 : decode cX6_least 158 = .ok (.iload 9, 2) := by decide +kernel
theorem dX6_least_160 : decode cX6_least 160 = .ok (.putfield 77, 3) := by decide +kernel
theorem dX6_least_163 : decode cX6_least 163 = .ok (.iinc 6 1, 3) := by decide +kernel
theorem dX6_least_166 : decode cX6_least 166 = .ok (.goto (-155), 3) := by decide +kernel
theorem dX6_least_169 : decode cX6_least 169 = .ok (.iload 5, 2) := by decide +kernel
theorem dX6_least_171 : decode cX6_least 171 = .ok (.ireturn, 1) := by decide +kernel
set_option maxRecDepth 20000 in
theorem ggX6_mix_X6_isPot : GoodIn wsX6_mix wsX6_isPot := goodIn_r _ [4, 5, 6, 3, 7] (by decide +kernel) (by decide +kernel)
set_option maxRecDepth 20000 in
theorem gX6_mix_X6_isPot : GoodIn wsX6_mix (va_wsS RX6 80 yX6_isPot wsX6_isPot) := goodIn_app (goodIn_of _ (by decide +kernel)) ggX6_mix_X6_isPot
set_option maxRecDepth 20000 in
theorem ggX6_mix_X6_in : GoodIn wsX6_mix wsX6_in := goodIn_r _ [7] (by decide +kernel) (by decide +kernel)
set_option maxRecDepth 20000 in
theorem gX6_mix_X6_in : GoodIn wsX6_mix (va_wsS RX6 45 yX6_in wsX6_in) := goodIn_app (goodIn_of _ (by decide +kernel)) ggX6_mix_X6_in
set_option maxRecDepth 20000 in
theorem ggX6_mix_X6_goes : GoodIn wsX6_mix wsX6_goes := goodIn_r _ [11, 12, 27, 28, 29, 30, 31, 32, 33, 34, 35, 36, 37, 38] (by decide +kernel) (by decide +kernel)
set_option maxRecDepth 20000 in
theorem gX6_mix_X6_goes : GoodIn wsX6_mix (wsV RX6 84 RX6 yX6_goes wsX6_goes) := goodIn_app (goodIn_of _ (by decide +kernel)) ggX6_mix_X6_goes
set_option maxRecDepth 20000 in
theorem ggX6_mix_X6_sets : GoodIn wsX6_mix wsX6_sets := goodIn_r _ [16, 17, 18, 19, 20, 3, 21, 22, 23, 24, 25, 26, 27, 28, 29, 30, 31, 32, 33, 34, 35, 36, 37, 38] (by decide +kernel) (by decide +kernel)
set_option maxRecDepth 20000 in
theorem gX6_mix_X6_sets : GoodIn wsX6_mix (wsV RX6 88 RX6 yX6_sets wsX6_sets) := goodIn_app (goodIn_of _ (by decide +kernel)) ggX6_mix_X6_sets
theorem dX6_mix_0 : decode cX6_mix 0 = .ok (.aload_n 0, 1) := by decide +kernel
theorem dX6_mix_1 : decode cX6_mix 1 = .ok (.iload_n 1, 1) := by decide +kernel
theorem dX6_mix_2 : decode cX6_mix 2 = .ok (.invokestatic 80, 3) := by decide +kernel
theorem dX6_mix_5 : decode cX6_mix 5 = .ok (.iload_n 2, 1) := by decide +kernel
theorem dX6_mix_6 : decode cX6_mix 6 = .ok (.iconst 0, 1) := by decide +kernel
theorem dX6_mix_7 : decode cX6_mix 7 = .ok (.iconst 2, 1) := by decide +kernel
theorem dX6_mix_8 : decode cX6_mix 8 = .ok (.invokestatic 45, 3) := by decide +kernel
theorem dX6_mix_11 : decode cX6_mix 11 = .ok (.ifCond .eq 17, 3) := by decide +kernel
theorem dX6_mix_14 : decode cX6_mix 14 = .ok (.iload_n 3, 1) := by decide +kernel
theorem dX6_mix_15 : decode cX6_mix 15 = .ok (.iconst 0, 1) := by decide +kernel
theorem dX6_mix_16 : decode cX6_mix 16 = .ok (.bipush 9, 2) := by decide +kernel
theorem dX6_mix_18 : decode cX6_mix 18 = .ok (.invokestatic 45, 3) := by decide +kernel
theorem dX6_mix_21 : decode cX6_mix 21 = .ok (.ifCond .eq 7, 3) := by decide +kernel
theorem dX6_mix_24 : decode cX6_mix 24 = .ok (.iconst 1, 1) := by decide +kernel
theorem dX6_mix_25 : decode cX6_mix 25 = .ok (.goto 4, 3) := by decide +kernel
theorem dX6_mix_28 : decode cX6_mix 28 = .ok (.iconst 0, 1) := by decide +kernel
theorem dX6_mix_29 : decode cX6_mix 29 = .ok (.invokevirtual 84, 3) := by decide +kernel
theorem dX6_mix_32 : decode cX6_mix 32 = .ok (.ifCond .eq 16, 3) := by decide +kernel
theorem dX6_mix_35 : decode cX6_mix 35 = .ok (.aload_n 0, 1) := by decide +kernel
theorem dX6_mix_36 : decode cX6_mix 36 = .ok (.iconst 4, 1) := by decide +kernel
theorem dX6_mix_37 : decode cX6_mix 37 = .ok (.iload_n 1, 1) := by decide +kernel
theorem dX6_mix_38 : decode cX6_mix 38 = .ok (.imul, 1) := by decide +kernel
theorem dX6_mix_39 : decode cX6_mix 39 = .ok (.iload_n 2, 1) := by decide +kernel
theorem dX6_mix_40 : decode cX6_mix 40 = .ok (.iadd, 1) := by decide +kernel
theorem dX6_mix_41 : decode cX6_mix 41 = .ok (.iload_n 3, 1) := by decide +kernel
theorem dX6_mix_42 : decode cX6_mix 42 = .ok (.invokevirtual 88, 3) := by decide +kernel
theorem dX6_mix_45 : decode cX6_mix 45 = .ok (.goto 4, 3) := by decide +kernel
theorem dX6_mix_48 : decode cX6_mix 48 = .ok (.iconst 0, 1) := by decide +kernel
theorem dX6_mix_49 : decode cX6_mix 49 = .ok (.ireturn, 1) := by decide +kernel
set_option maxRecDepth 20000 in
theorem ggX6_painter_X6_isPainter : GoodIn wsX6_painter wsX6_isPainter := goodIn_r _ [4, 5, 6, 3, 7] (by decide +kernel) (by decide +kernel)
set_option maxRecDepth 20000 in
theorem gX6_painter_X6_isPainter : GoodIn wsX6_painter (va_wsS RX6 91 yX6_isPainter wsX6_isPainter) := goodIn_app (goodIn_of _ (by decide +kernel)) ggX6_painter_X6_isPainter
set_option maxRecDepth 20000 in
theorem ggX6_painter_X6_in : GoodIn wsX6_painter wsX6_in := goodIn_r _ [7] (by decide +kernel) (by decide +kernel)
set_option maxRecDepth 20000 in
theorem gX6_painter_X6_in : GoodIn wsX6_painter (va_wsS RX6 45 yX6_in wsX6_in) := goodIn_app (goodIn_of _ (by decide +kernel)) ggX6_painter_X6_in
set_option maxRecDepth 20000 in
theorem ggX6_painter_X6_goes : GoodIn wsX6_painter wsX6_goes := goodIn_r _ [11, 12, 30, 31, 32, 33, 34, 35, 36, 37, 38, 39, 40, 41] (by decide +kernel) (by decide +kernel)
set_option maxRecDepth 20000 in
theorem gX6_painter_X6_goes : GoodIn wsX6_painter (wsV RX6 84 RX6 yX6_goes wsX6_goes) := goodIn_app (goodIn_of _ (by decide +kernel)) ggX6_painter_X6_goes
set_option maxRecDepth 20000 in
theorem ggX6_painter_X6_at : GoodIn wsX6_painter wsX6_at := goodIn_r _ [15] (by decide +kernel) (by decide +kernel)
set_option maxRecDepth 20000 in
theorem gX6_painter_X6_at : GoodIn wsX6_painter (va_wsS RX6 27 yX6_at wsX6_at) := goodIn_app (goodIn_of _ (by decide +kernel)) ggX6_painter_X6_at
set_option maxRecDepth 20000 in
theorem ggX6_painter_X6_sets : GoodIn wsX6_painter wsX6_sets := goodIn_r _ [19, 20, 21, 22, 23, 3, 24, 25, 26, 27, 28, 29, 30, 31, 32, 33, 34, 35, 36, 37, 38, 39, 40, 41] (by decide +kernel) (by decide +kernel)
set_option maxRecDepth 20000 in
theorem gX6_painter_X6_sets : GoodIn wsX6_painter (wsV RX6 88 RX6 yX6_sets wsX6_sets) := goodIn_app (goodIn_of _ (by decide +kernel)) ggX6_painter_X6_sets
theorem dX6_painter_0 : decode cX6_painter 0 = .ok (.aload_n 0, 1) := by decide +kernel
theorem dX6_painter_1 : decode cX6_painter 1 = .ok (.iload_n 1, 1) := by decide +kernel
theorem dX6_painter_2 : decode cX6_painter 2 = .ok (.invokestatic 91, 3) := by decide +kernel
theorem dX6_painter_5 : decode cX6_painter 5 = .ok (.iload_n 2, 1) := by decide +kernel
theorem dX6_painter_6 : decode cX6_painter 6 = .ok (.iconst 0, 1) := by decide +kernel
theorem dX6_painter_7 : decode cX6_painter 7 = .ok (.iconst 1, 1) := by decide +kernel
theorem dX6_painter_8 : decode cX6_painter 8 = .ok (.invokestatic 45, 3) := by decide +kernel
theorem dX6_painter_11 : decode cX6_painter 11 = .ok (.ifCond .eq 25, 3) := by decide +kernel
theorem dX6_painter_14 : decode cX6_painter 14 = .ok (.iload_n 3, 1) := by decide +kernel
theorem dX6_painter_15 : decode cX6_painter 15 = .ok (.iconst 0, 1) := by decide +kernel
theorem dX6_painter_16 : decode cX6_painter 16 = .ok (.iload_n 2, 1) := by decide +kernel
theorem dX6_painter_17 : decode cX6_painter 17 = .ok (.ifCond .ne 7, 3) := by decide +kernel
theorem dX6_painter_20 : decode cX6_painter 20 = .ok (.iconst 3, 1) := by decide +kernel
theorem dX6_painter_21 : decode cX6_painter 21 = .ok (.goto 5, 3) := by decide +kernel
theorem dX6_painter_24 : decode cX6_painter 24 = .ok (.bipush 27, 2) := by decide +kernel
theorem dX6_painter_26 : decode cX6_painter 26 = .ok (.invokestatic 45, 3) := by decide +kernel
theorem dX6_painter_29 : decode cX6_painter 29 = .ok (.ifCond .eq 7, 3) := by decide +kernel
theorem dX6_painter_32 : decode cX6_painter 32 = .ok (.iconst 1, 1) := by decide +kernel
theorem dX6_painter_33 : decode cX6_painter 33 = .ok (.goto 4, 3) := by decide +kernel
theorem dX6_painter_36 : decode cX6_painter 36 = .ok (.iconst 0, 1) := by decide +kernel
theorem dX6_painter_37 : decode cX6_painter 37 = .ok (.invokevirtual 84, 3) := by decide +kernel
theorem dX6_painter_40 : decode cX6_painter 40 = .ok (.ifCond .eq 17, 3) := by decide +kernel
theorem dX6_painter_43 : decode cX6_painter 43 = .ok (.aload_n 0, 1) := by decide +kernel
theorem dX6_painter_44 : decode cX6_painter 44 = .ok (.iload_n 1, 1) := by decide +kernel
theorem dX6_painter_45 : decode cX6_painter 45 = .ok (.invokestatic 27, 3) := by decide +kernel
theorem dX6_painter_48 : decode cX6_painter 48 = .ok (.iload_n 2, 1) := by decide +kernel
theorem dX6_painter_49 : decode cX6_painter 49 = .ok (.iadd, 1) := by decide +kernel
theorem dX6_painter_50 : decode cX6_painter 50 = .ok (.iload_n 3, 1) := by decide +kernel
theorem dX6_painter_51 : decode cX6_painter 51 = .ok (.invokevirtual 88, 3) := by decide +kernel
theorem dX6_painter_54 : decode cX6_painter 54 = .ok (.goto 4, 3) := by decide +kernel
theorem dX6_painter_57 : decode cX6_painter 57 = .ok (.iconst 0, 1) := by decide +kernel
theorem dX6_painter_58 : decode cX6_painter 58 = .ok (.ireturn, 1) := by decide +kernel
set_option maxRecDepth 20000 in
theorem ggX6_borrow_X6_isPainter : GoodIn wsX6_borrow wsX6_isPainter := goodIn_r _ [4, 5, 6, 3, 7] (by decide +kernel) (by decide +kernel)
set_option maxRecDepth 20000 in
theorem gX6_borrow_X6_isPainter : GoodIn wsX6_borrow (va_wsS RX6 91 yX6_isPainter wsX6_isPainter) := goodIn_app (goodIn_of _ (by decide +kernel)) ggX6_borrow_X6_isPainter
set_option maxRecDepth 20000 in
theorem ggX6_borrow_X6_goes : GoodIn wsX6_borrow wsX6_goes := goodIn_r _ [11, 12, 30, 31, 32, 33, 34, 35, 36, 37, 38, 39, 40, 41] (by decide +kernel) (by decide +kernel)
set_option maxRecDepth 20000 in
theorem gX6_borrow_X6_goes : GoodIn wsX6_borrow (wsV RX6 84 RX6 yX6_goes wsX6_goes) := goodIn_app (goodIn_of _ (by decide +kernel)) ggX6_borrow_X6_goes
set_option maxRecDepth 20000 in
theorem ggX6_borrow_X6_at : GoodIn wsX6_borrow wsX6_at := goodIn_r _ [15] (by decide +kernel) (by decide +kernel)
set_option maxRecDepth 20000 in
theorem gX6_borrow_X6_at : GoodIn wsX6_borrow (va_wsS RX6 27 yX6_at wsX6_at) := goodIn_app (goodIn_of _ (by decide +kernel)) ggX6_borrow_X6_at
set_option maxRecDepth 20000 in
theorem ggX6_borrow_X6_sets : GoodIn wsX6_borrow wsX6_sets := goodIn_r _ [19, 20, 21, 22, 23, 3, 24, 25, 26, 27, 28, 29, 30, 31, 32, 33, 34, 35, 36, 37, 38, 39, 40, 41] (by decide +kernel) (by decide +kernel)
set_option maxRecDepth 20000 in
theorem gX6_borrow_X6_sets : GoodIn wsX6_borrow (wsV RX6 88 RX6 yX6_sets wsX6_sets) := goodIn_app (goodIn_of _ (by decide +kernel)) ggX6_borrow_X6_sets
theorem dX6_borrow_0 : decode cX6_borrow 0 = .ok (.aload_n 0, 1) := by decide +kernel
theorem dX6_borrow_1 : decode cX6_borrow 1 = .ok (.iload_n 1, 1) := by decide +kernel
theorem dX6_borrow_2 : decode cX6_borrow 2 = .ok (.invokestatic 91, 3) := by decide +kernel
theorem dX6_borrow_5 : decode cX6_borrow 5 = .ok (.ifCond .eq 14, 3) := by decide +kernel
theorem dX6_borrow_8 : decode cX6_borrow 8 = .ok (.iload_n 2, 1) := by decide +kernel
theorem dX6_borrow_9 : decode cX6_borrow 9 = .ok (.invokestatic 91, 3) := by decide +kernel
theorem dX6_borrow_12 : decode cX6_borrow 12 = .ok (.ifCond .eq 7, 3) := by decide +kernel
theorem dX6_borrow_15 : decode cX6_borrow 15 = .ok (.iconst 1, 1) := by decide +kernel
theorem dX6_borrow_16 : decode cX6_borrow 16 = .ok (.goto 4, 3) := by decide +kernel
theorem dX6_borrow_19 : decode cX6_borrow 19 = .ok (.iconst 0, 1) := by decide +kernel
theorem dX6_borrow_20 : decode cX6_borrow 20 = .ok (.iconst 1, 1) := by decide +kernel
theorem dX6_borrow_21 : decode cX6_borrow 21 = .ok (.invokevirtual 84, 3) := by decide +kernel
theorem dX6_borrow_24 : decode cX6_borrow 24 = .ok (.ifCond .eq 26, 3) := by decide +kernel
theorem dX6_borrow_27 : decode cX6_borrow 27 = .ok (.aload_n 0, 1) := by decide +kernel
theorem dX6_borrow_28 : decode cX6_borrow 28 = .ok (.iload_n 1, 1) := by decide +kernel
theorem dX6_borrow_29 : decode cX6_borrow 29 = .ok (.invokestatic 27, 3) := by decide +kernel
theorem dX6_borrow_32 : decode cX6_borrow 32 = .ok (.iconst 2, 1) := by decide +kernel
theorem dX6_borrow_33 : decode cX6_borrow 33 = .ok (.iadd, 1) := by decide +kernel
theorem dX6_borrow_34 : decode cX6_borrow 34 = .ok (.iload_n 1, 1) := by decide +kernel
theorem dX6_borrow_35 : decode cX6_borrow 35 = .ok (.iload_n 2, 1) := by decide +kernel
theorem dX6_borrow_36 : decode cX6_borrow 36 = .ok (.if_icmp .ne 7, 3) := by decide +kernel
theorem dX6_borrow_39 : decode cX6_borrow 39 = .ok (.iconst (-1), 1) := by decide +kernel
theorem dX6_borrow_40 : decode cX6_borrow 40 = .ok (.goto 4, 3) := by decide +kernel
theorem dX6_borrow_43 : decode cX6_borrow 43 = .ok (.iload_n 2, 1) := by decide +kernel
theorem dX6_borrow_44 : decode cX6_borrow 44 = .ok (.invokevirtual 88, 3) := by decide +kernel
theorem dX6_borrow_47 : decode cX6_borrow 47 = .ok (.goto 4, 3) := by decide +kernel
theorem dX6_borrow_50 : decode cX6_borrow 50 = .ok (.iconst 0, 1) := by decide +kernel
theorem dX6_borrow_51 : decode cX6_borrow 51 = .ok (.ireturn, 1) := by decide +kernel
set_option maxRecDepth 20000 in
theorem ggX6_label_X6_isPot : GoodIn wsX6_label wsX6_isPot := goodIn_r _ [4, 5, 6, 3, 7] (by decide +kernel) (by decide +kernel)
set_option maxRecDepth 20000 in
theorem gX6_label_X6_isPot : GoodIn wsX6_label (va_wsS RX6 80 yX6_isPot wsX6_isPot) := goodIn_app (goodIn_of _ (by decide +kernel)) ggX6_label_X6_isPot
set_option maxRecDepth 20000 in
theorem ggX6_label_X6_in : GoodIn wsX6_label wsX6_in := goodIn_r _ [7] (by decide +kernel) (by decide +kernel)
set_option maxRecDepth 20000 in
theorem gX6_label_X6_in : GoodIn wsX6_label (va_wsS RX6 45 yX6_in wsX6_in) := goodIn_app (goodIn_of _ (by decide +kernel)) ggX6_label_X6_in
set_option maxRecDepth 20000 in
theorem ggX6_label_X6_goes : GoodIn wsX6_label wsX6_goes := goodIn_r _ [11, 12, 27, 28, 29, 30, 31, 32, 33, 34, 35, 36, 37, 38] (by decide +kernel) (by decide +kernel)
set_option maxRecDepth 20000 in
theorem gX6_label_X6_goes : GoodIn wsX6_label (wsV RX6 84 RX6 yX6_goes wsX6_goes) := goodIn_app (goodIn_of _ (by decide +kernel)) ggX6_label_X6_goes
set_option maxRecDepth 20000 in
theorem ggX6_label_X6_sets : GoodIn wsX6_label wsX6_sets := goodIn_r _ [16, 17, 18, 19, 20, 3, 21, 22, 23, 24, 25, 26, 27, 28, 29, 30, 31, 32, 33, 34, 35, 36, 37, 38] (by decide +kernel) (by decide +kernel)
set_option maxRecDepth 20000 in
theorem gX6_label_X6_sets : GoodIn wsX6_label (wsV RX6 88 RX6 yX6_sets wsX6_sets) := goodIn_app (goodIn_of _ (by decide +kernel)) ggX6_label_X6_sets
theorem dX6_label_0 : decode cX6_label 0 = .ok (.aload_n 0, 1) := by decide +kernel
theorem dX6_label_1 : decode cX6_label 1 = .ok (.iload_n 1, 1) := by decide +kernel
theorem dX6_label_2 : decode cX6_label 2 = .ok (.invokestatic 80, 3) := by decide +kernel
theorem dX6_label_5 : decode cX6_label 5 = .ok (.iload_n 2, 1) := by decide +kernel
theorem dX6_label_6 : decode cX6_label 6 = .ok (.iconst (-1), 1) := by decide +kernel
theorem dX6_label_7 : decode cX6_label 7 = .ok (.bipush 7, 2) := by decide +kernel
theorem dX6_label_9 : decode cX6_label 9 = .ok (.invokestatic 45, 3) := by decide +kernel
theorem dX6_label_12 : decode cX6_label 12 = .ok (.invokevirtual 84, 3) := by decide +kernel
theorem dX6_label_15 : decode cX6_label 15 = .ok (.ifCond .eq 16, 3) := by decide +kernel
theorem dX6_label_18 : decode cX6_label 18 = .ok (.aload_n 0, 1) := by decide +kernel
theorem dX6_label_19 : decode cX6_label 19 = .ok (.iconst 4, 1) := by decide +kernel
theorem dX6_label_20 : decode cX6_label 20 = .ok (.iload_n 1, 1) := by decide +kernel
theorem dX6_label_21 : decode cX6_label 21 = .ok (.imul, 1) := by decide +kernel
theorem dX6_label_22 : decode cX6_label 22 = .ok (.iconst 3, 1) := by decide +kernel
theorem dX6_label_23 : decode cX6_label 23 = .ok (.iadd, 1) := by decide +kernel
theorem dX6_label_24 : decode cX6_label 24 = .ok (.iload_n 2, 1) := by decide +kernel
theorem dX6_label_25 : decode cX6_label 25 = .ok (.invokevirtual 88, 3) := by decide +kernel
theorem dX6_label_28 : decode cX6_label 28 = .ok (.goto 4, 3) := by decide +kernel
theorem dX6_label_31 : decode cX6_label 31 = .ok (.iconst 0, 1) := by decide +kernel
theorem dX6_label_32 : decode cX6_label 32 = .ok (.ireturn, 1) := by decide +kernel
theorem dX6_labelOf_0 : decode cX6_labelOf 0 = .ok (.aload_n 0, 1) := by decide +kernel
theorem dX6_labelOf_1 : decode cX6_labelOf 1 = .ok (.getfield 7, 3) := by decide +kernel
theorem dX6_labelOf_4 : decode cX6_labelOf 4 = .ok (.iconst 4, 1) := by decide +kernel
theorem dX6_labelOf_5 : decode cX6_labelOf 5 = .ok (.iload_n 1, 1) := by decide +kernel
theorem dX6_labelOf_6 : decode cX6_labelOf 6 = .ok (.imul, 1) := by decide +kernel
theorem dX6_labelOf_7 : decode cX6_labelOf 7 = .ok (.iconst 3, 1) := by decide +kernel
theorem dX6_labelOf_8 : decode cX6_labelOf 8 = .ok (.iadd, 1) := by decide +kernel
theorem dX6_labelOf_9 : decode cX6_labelOf 9 = .ok (.iaload, 1) := by decide +kernel
theorem dX6_labelOf_10 : decode cX6_labelOf 10 = .ok (.ireturn, 1) := by decide +kernel
set_option maxRecDepth 20000 in
theorem ggX6_unlike_X6_labelOf : GoodIn wsX6_unlike wsX6_labelOf := goodIn_r _ [5, 6, 7, 8, 9, 10, 11, 12, 13, 14, 15, 16, 17, 18] (by decide +kernel) (by decide +kernel)
set_option maxRecDepth 20000 in
theorem gX6_unlike_X6_labelOf : GoodIn wsX6_unlike (wsV RX6 94 RX6 yX6_labelOf wsX6_labelOf) := goodIn_app (goodIn_of _ (by decide +kernel)) ggX6_unlike_X6_labelOf
theorem dX6_unlike_0 : decode cX6_unlike 0 = .ok (.iconst 0, 1) := by decide +kernel
theorem dX6_unlike_1 : decode cX6_unlike 1 = .ok (.istore_n 1, 1) := by decide +kernel
theorem dX6_unlike_2 : decode cX6_unlike 2 = .ok (.iconst 0, 1) := by decide +kernel
theorem dX6_unlike_3 : decode cX6_unlike 3 = .ok (.istore_n 2, 1) := by decide +kernel
theorem dX6_unlike_4 : decode cX6_unlike 4 = .ok (.iconst 0, 1) := by decide +kernel
theorem dX6_unlike_5 : decode cX6_unlike 5 = .ok (.istore_n 3, 1) := by decide +kernel
theorem dX6_unlike_6 : decode cX6_unlike 6 = .ok (.iload_n 3, 1) := by decide +kernel
theorem dX6_unlike_7 : decode cX6_unlike 7 = .ok (.bipush 8, 2) := by decide +kernel
theorem dX6_unlike_9 : decode cX6_unlike 9 = .ok (.if_icmp .ge 67, 3) := by decide +kernel
theorem dX6_unlike_12 : decode cX6_unlike 12 = .ok (.aload_n 0, 1) := by decide +kernel
theorem dX6_unlike_13 : decode cX6_unlike 13 = .ok (.iload_n 3, 1) := by decide +kernel
theorem dX6_unlike_14 : decode cX6_unlike 14 = .ok (.invokevirtual 94, 3) := by decide +kernel
theorem dX6_unlike_17 : decode cX6_unlike 17 = .ok (.istore 4, 2) := by decide +kernel
theorem dX6_unlike_19 : decode cX6_unlike 19 = .ok (.iload 4, 2) := by decide +kernel
theorem dX6_unlike_21 : decode cX6_unlike 21 = .ok (.iconst (-1), 1) := by decide +kernel
theorem dX6_unlike_22 : decode cX6_unlike 22 = .ok (.if_icmp .eq 16, 3) := by decide +kernel
theorem dX6_unlike_25 : decode cX6_unlike 25 = .ok (.iload_n 1, 1) := by decide +kernel
theorem dX6_unlike_26 : decode cX6_unlike 26 = .ok (.iload 4, 2) := by decide +kernel
theorem dX6_unlike_28 : decode cX6_unlike 28 = .ok (.ishr, 1) := by decide +kernel
theorem dX6_unlike_29 : decode cX6_unlike 29 = .ok (.iconst 1, 1) := by decide +kernel
theorem dX6_unlike_30 : decode cX6_unlike 30 = .ok (.iand, 1) := by decide +kernel
theorem dX6_unlike_31 : decode cX6_unlike 31 = .ok (.ifCond .ne 7, 3) := by decide +kernel
theorem dX6_unlike_34 : decode cX6_unlike 34 = .ok (.iconst 1, 1) := by decide +kernel
theorem dX6_unlike_35 : decode cX6_unlike 35 = .ok (.goto 4, 3) := by decide +kernel
theorem dX6_unlike_38 : decode cX6_unlike 38 = .ok (.iconst 0, 1) := by decide +kernel
theorem dX6_unlike_39 : decode cX6_unlike 39 = .ok (.istore 5, 2) := by decide +kernel
theorem dX6_unlike_41 : decode cX6_unlike 41 = .ok (.iload_n 1, 1) := by decide +kernel
theorem dX6_unlike_42 : decode cX6_unlike 42 = .ok (.iload 5, 2) := by decide +kernel
theorem dX6_unlike_44 : decode cX6_unlike 44 = .ok (.ifCond .eq 10, 3) := by decide +kernel
theorem dX6_unlike_47 : decode cX6_unlike 47 = .ok (.iconst 1, 1) := by decide +kernel
theorem dX6_unlike_48 : decode cX6_unlike 48 = .ok (.iload 4, 2) := by decide +kernel
theorem dX6_unlike_50 : decode cX6_unlike 50 = .ok (.ishl, 1) := by decide +kernel
theorem dX6_unlike_51 : decode cX6_unlike 51 = .ok (.goto 4, 3) := by decide +kernel
theorem dX6_unlike_54 : decode cX6_unlike 54 = .ok (.iconst 0, 1) := by decide +kernel
theorem dX6_unlike_55 : decode cX6_unlike 55 = .ok (.ior, 1) := by decide +kernel
theorem dX6_unlike_56 : decode cX6_unlike 56 = .ok (.istore_n 1, 1) := by decide +kernel
theorem dX6_unlike_57 : decode cX6_unlike 57 = .ok (.iload_n 2, 1) := by decide +kernel
theorem dX6_unlike_58 : decode cX6_unlike 58 = .ok (.iload 5, 2) := by decide +kernel
theorem dX6_unlike_60 : decode cX6_unlike 60 = .ok (.ifCond .eq 7, 3) := by decide +kernel
theorem dX6_unlike_63 : decode cX6_unlike 63 = .ok (.iconst 1, 1) := by decide +kernel
theorem dX6_unlike_64 : decode cX6_unlike 64 = .ok (.goto 4, 3) := by decide +kernel
theorem dX6_unlike_67 : decode cX6_unlike 67 = .ok (.iconst 0, 1) := by decide +kernel
theorem dX6_unlike_68 : decode cX6_unlike 68 = .ok (.iadd, 1) := by decide +kernel
theorem dX6_unlike_69 : decode cX6_unlike 69 = .ok (.istore_n 2, 1) := by decide +kernel
theorem dX6_unlike_70 : decode cX6_unlike 70 = .ok (.iinc 3 1, 3) := by decide +kernel
theorem dX6_unlike_73 : decode cX6_unlike 73 = .ok (.goto (-67), 3) := by decide +kernel
theorem dX6_unlike_76 : decode cX6_unlike 76 = .ok (.iload_n 2, 1) := by decide +kernel
theorem dX6_unlike_77 : decode cX6_unlike 77 = .ok (.ireturn, 1) := by decide +kernel
set_option maxRecDepth 20000 in
theorem ggX6_labelAll_X6_isPainter : GoodIn wsX6_labelAll wsX6_isPainter := goodIn_r _ [5, 6, 7, 4, 8] (by decide +kernel) (by decide +kernel)
set_option maxRecDepth 20000 in
theorem gX6_labelAll_X6_isPainter : GoodIn wsX6_labelAll (va_wsS RX6 91 yX6_isPainter wsX6_isPainter) := goodIn_app (goodIn_of _ (by decide +kernel)) ggX6_labelAll_X6_isPainter
set_option maxRecDepth 20000 in
theorem ggX6_labelAll_X6_goes : GoodIn wsX6_labelAll wsX6_goes := goodIn_r _ [12, 13, 56, 57, 58, 59, 60, 61, 62, 63, 64, 65, 66, 67] (by decide +kernel) (by decide +kernel)
set_option maxRecDepth 20000 in
theorem gX6_labelAll_X6_goes : GoodIn wsX6_labelAll (wsV RX6 84 RX6 yX6_goes wsX6_goes) := goodIn_app (goodIn_of _ (by decide +kernel)) ggX6_labelAll_X6_goes
set_option maxRecDepth 20000 in
theorem ggX6_labelAll_X6_saves : GoodIn wsX6_labelAll wsX6_saves := goodIn_r _ [17, 18, 19, 20, 21, 4, 22, 1, 56, 57, 58, 59, 60, 61, 62, 63, 64, 65, 66, 67] (by decide +kernel) (by decide +kernel)
set_option maxRecDepth 20000 in
theorem gX6_labelAll_X6_saves : GoodIn wsX6_labelAll (wsV RX6 42 RX6 yX6_saves wsX6_saves) := goodIn_app (goodIn_of _ (by decide +kernel)) ggX6_labelAll_X6_saves
set_option maxRecDepth 20000 in
theorem ggX6_labelAll_X6_areApart : GoodIn wsX6_labelAll wsX6_areApart := goodIn_r _ [26, 1, 27, 28, 4, 29, 30, 31, 32, 33, 34, 35, 36, 37, 38, 39, 40, 41, 42, 43, 44, 45, 46, 47, 56, 57, 58, 59, 60, 61, 62, 63, 64, 65, 66, 67] (by decide +kernel) (by decide +kernel)
set_option maxRecDepth 20000 in
theorem gX6_labelAll_X6_areApart : GoodIn wsX6_labelAll (wsV RX6 97 RX6 yX6_areApart wsX6_areApart) := goodIn_app (goodIn_of _ (by decide +kernel)) ggX6_labelAll_X6_areApart
set_option maxRecDepth 20000 in
theorem ggX6_labelAll_X6_labelOf : GoodIn wsX6_labelAll wsX6_labelOf := goodIn_r _ [51, 1, 56, 57, 58, 59, 60, 61, 62, 63, 64, 65, 66, 67] (by decide +kernel) (by decide +kernel)
set_option maxRecDepth 20000 in
theorem gX6_labelAll_X6_labelOf : GoodIn wsX6_labelAll (wsV RX6 94 RX6 yX6_labelOf wsX6_labelOf) := goodIn_app (goodIn_of _ (by decide +kernel)) ggX6_labelAll_X6_labelOf
set_option maxRecDepth 20000 in
theorem ggX6_labelAll_X6_unlike : GoodIn wsX6_labelAll wsX6_unlike := goodIn_r _ [55, 48, 49, 50, 4, 51, 1, 56, 57, 58, 59, 60, 61, 62, 63, 64, 65, 66, 67] (by decide +kernel) (by decide +kernel)
set_option maxRecDepth 20000 in
theorem gX6_labelAll_X6_unlike : GoodIn wsX6_labelAll (wsV RX6 100 RX6 yX6_unlike wsX6_unlike) := goodIn_app (goodIn_of _ (by decide +kernel)) ggX6_labelAll_X6_unlike
theorem dX6_labelAll_0 : decode cX6_labelAll 0 = .ok (.aload_n 0, 1) := by decide +kernel
theorem dX6_labelAll_1 : decode cX6_labelAll 1 = .ok (.iload_n 1, 1) := by decide +kernel
theorem dX6_labelAll_2 : decode cX6_labelAll 2 = .ok (.invokestatic 91, 3) := by decide +kernel
theorem dX6_labelAll_5 : decode cX6_labelAll 5 = .ok (.iconst 1, 1) := by decide +kernel
theorem dX6_labelAll_6 : decode cX6_labelAll 6 = .ok (.invokevirtual 84, 3) := by decide +kernel
theorem dX6_labelAll_9 : decode cX6_labelAll 9 = .ok (.ifCond .ne 5, 3) := by decide +kernel
theorem dX6_labelAll_12 : decode cX6_labelAll 12 = .ok (.iconst 0, 1) := by decide +kernel
theorem dX6_labelAll_13 : decode cX6_labelAll 13 = .ok (.ireturn, 1) := by decide +kernel
theorem dX6_labelAll_14 : decode cX6_labelAll 14 = .ok (.aload_n 0, 1) := by decide +kernel
theorem dX6_labelAll_15 : decode cX6_labelAll 15 = .ok (.invokevirtual 42, 3) := by decide +kernel
theorem dX6_labelAll_18 : decode cX6_labelAll 18 = .ok (.iconst 0, 1) := by decide +kernel
theorem dX6_labelAll_19 : decode cX6_labelAll 19 = .ok (.istore_n 2, 1) := by decide +kernel
theorem dX6_labelAll_20 : decode cX6_labelAll 20 = .ok (.iload_n 2, 1) := by decide +kernel
theorem dX6_labelAll_21 : decode cX6_labelAll 21 = .ok (.bipush 8, 2) := by decide +kernel
theorem dX6_labelAll_23 : decode cX6_labelAll 23 = .ok (.if_icmp .ge 83, 3) := by decide +kernel
theorem dX6_labelAll_26 : decode cX6_labelAll 26 = .ok (.iconst 0, 1) := by decide +kernel
theorem dX6_labelAll_27 : decode cX6_labelAll 27 = .ok (.istore_n 3, 1) := by decide +kernel
theorem dX6_labelAll_28 : decode cX6_labelAll 28 = .ok (.iconst 0, 1) := by decide +kernel
theorem dX6_labelAll_29 : decode cX6_labelAll 29 = .ok (.istore 4, 2) := by decide +kernel
theorem dX6_labelAll_31 : decode cX6_labelAll 31 = .ok (.iload 4, 2) := by decide +kernel
theorem dX6_labelAll_33 : decode cX6_labelAll 33 = .ok (.iload_n 2, 1) := by decide +kernel
theorem dX6_labelAll_34 : decode cX6_labelAll 34 = .ok (.if_icmp .ge 35, 3) := by decide +kernel
theorem dX6_labelAll_37 : decode cX6_labelAll 37 = .ok (.iload_n 3, 1) := by decide +kernel
theorem dX6_labelAll_38 : decode cX6_labelAll 38 = .ok (.aload_n 0, 1) := by decide +kernel
theorem dX6_labelAll_39 : decode cX6_labelAll 39 = .ok (.iload_n 1, 1) := by decide +kernel
theorem dX6_labelAll_40 : decode cX6_labelAll 40 = .ok (.iload_n 2, 1) := by decide +kernel
theorem dX6_labelAll_41 : decode cX6_labelAll 41 = .ok (.iload 4, 2) := by decide +kernel
theorem dX6_labelAll_43 : decode cX6_labelAll 43 = .ok (.invokevirtual 97, 3) := by decide +kernel
theorem dX6_labelAll_46 : decode cX6_labelAll 46 = .ok (.ifCond .eq 14, 3) := by decide +kernel
theorem dX6_labelAll_49 : decode cX6_labelAll 49 = .ok (.iconst 1, 1) := by decide +kernel
theorem dX6_labelAll_50 : decode cX6_labelAll 50 = .ok (.aload_n 0, 1) := by decide +kernel
theorem dX6_labelAll_51 : decode cX6_labelAll 51 = .ok (.iload 4, 2) := by decide +kernel
theorem dX6_labelAll_53 : decode cX6_labelAll 53 = .ok (.invokevirtual 94, 3) := by decide +kernel
theorem dX6_labelAll_56 : decode cX6_labelAll 56 = .ok (.ishl, 1) := by decide +kernel
theorem dX6_labelAll_57 : decode cX6_labelAll 57 = .ok (.goto 4, 3) := by decide +kernel
theorem dX6_labelAll_60 : decode cX6_labelAll 60 = .ok (.iconst 0, 1) := by decide +kernel
theorem dX6_labelAll_61 : decode cX6_labelAll 61 = .ok (.ior, 1) := by decide +kernel
theorem dX6_labelAll_62 : decode cX6_labelAll 62 = .ok (.istore_n 3, 1) := by decide +kernel
theorem dX6_labelAll_63 : decode cX6_labelAll 63 = .ok (.iinc 4 1, 3) := by decide +kernel
theorem dX6_labelAll_66 : decode cX6_labelAll 66 = .ok (.goto (-35), 3) := by decide +kernel
theorem dX6_labelAll_69 : decode cX6_labelAll 69 = .ok (.iconst 0, 1) := by decide +kernel
theorem dX6_labelAll_70 : decode cX6_labelAll 70 = .ok (.istore 4, 2) := by decide +kernel
theorem dX6_labelAll_72 : decode cX6_labelAll 72 = .ok (.iload_n 3, 1) := by decide +kernel
theorem dX6_labelAll_73 : decode cX6_labelAll 73 = .ok (.iload 4, 2) := by decide +kernel
theorem dX6_labelAll_75 : decode cX6_labelAll 75 = .ok (.ishr, 1) := by decide +kernel
theorem dX6_labelAll_76 : decode cX6_labelAll 76 = .ok (.iconst 1, 1) := by decide +kernel
theorem dX6_labelAll_77 : decode cX6_labelAll 77 = .ok (.iand, 1) := by decide +kernel
theorem dX6_labelAll_78 : decode cX6_labelAll 78 = .ok (.iconst 1, 1) := by decide +kernel
theorem dX6_labelAll_79 : decode cX6_labelAll 79 = .ok (.if_icmp .ne 9, 3) := by decide +kernel
theorem dX6_labelAll_82 : decode cX6_labelAll 82 = .ok (.iinc 4 1, 3) := by decide +kernel
theorem dX6_labelAll_85 : decode cX6_labelAll 85 = .ok (.goto (-13), 3) := by decide +kernel
theorem dX6_labelAll_88 : decode cX6_labelAll 88 = .ok (.aload_n 0, 1) := by decide +kernel
theorem dX6_labelAll_89 : decode cX6_labelAll 89 = .ok (.getfield 7, 3) := by decide +kernel
theorem dX6_labelAll_92 : decode cX6_labelAll 92 = .ok (.iconst 4, 1) := by decide +kernel
theorem dX6_labelAll_93 : decode cX6_labelAll 93 = .ok (.iload_n 2, 1) := by decide +kernel
theorem dX6_labelAll_94 : decode cX6_labelAll 94 = .ok (.imul, 1) := by decide +kernel
theorem dX6_labelAll_95 : decode cX6_labelAll 95 = .ok (.iconst 3, 1) := by decide +kernel
theorem dX6_labelAll_96 : decode cX6_labelAll 96 = .ok (.iadd, 1) := by decide +kernel
theorem dX6_labelAll_97 : decode cX6_labelAll 97 = .ok (.iload 4, 2) := by decide +kernel
theorem dX6_labelAll_99 : decode cX6_labelAll 99 = .ok (.iastore, 1) := by decide +kernel
theorem dX6_labelAll_100 : decode cX6_labelAll 100 = .ok (.iinc 2 1, 3) := by decide +kernel
theorem dX6_labelAll_103 : decode cX6_labelAll 103 = .ok (.goto (-83), 3) := by decide +kernel
theorem dX6_labelAll_106 : decode cX6_labelAll 106 = .ok (.aload_n 0, 1) := by decide +kernel
theorem dX6_labelAll_107 : decode cX6_labelAll 107 = .ok (.invokevirtual 100, 3) := by decide +kernel
theorem dX6_labelAll_110 : decode cX6_labelAll 110 = .ok (.ireturn, 1) := by decide +kernel
theorem dX6_figure_0 : decode cX6_figure 0 = .ok (.aload_n 0, 1) := by decide +kernel
theorem dX6_figure_1 : decode cX6_figure 1 = .ok (.getfield 7, 3) := by decide +kernel
theorem dX6_figure_4 : decode cX6_figure 4 = .ok (.bipush 45, 2) := by decide +kernel
theorem dX6_figure_6 : decode cX6_figure 6 = .ok (.iconst 2, 1) := by decide +kernel
theorem dX6_figure_7 : decode cX6_figure 7 = .ok (.iload_n 1, 1) := by decide +kernel
theorem dX6_figure_8 : decode cX6_figure 8 = .ok (.imul, 1) := by decide +kernel
theorem dX6_figure_9 : decode cX6_figure 9 = .ok (.iadd, 1) := by decide +kernel
theorem dX6_figure_10 : decode cX6_figure 10 = .ok (.iaload, 1) := by decide +kernel
theorem dX6_figure_11 : decode cX6_figure 11 = .ok (.ireturn, 1) := by decide +kernel
theorem dX6_ground_0 : decode cX6_ground 0 = .ok (.aload_n 0, 1) := by decide +kernel
theorem dX6_ground_1 : decode cX6_ground 1 = .ok (.getfield 7, 3) := by decide +kernel
theorem dX6_ground_4 : decode cX6_ground 4 = .ok (.bipush 45, 2) := by decide +kernel
theorem dX6_ground_6 : decode cX6_ground 6 = .ok (.iconst 2, 1) := by decide +kernel
theorem dX6_ground_7 : decode cX6_ground 7 = .ok (.iload_n 1, 1) := by decide +kernel
theorem dX6_ground_8 : decode cX6_ground 8 = .ok (.imul, 1) := by decide +kernel
theorem dX6_ground_9 : decode cX6_ground 9 = .ok (.iadd, 1) := by decide +kernel
theorem dX6_ground_10 : decode cX6_ground 10 = .ok (.iconst 1, 1) := by decide +kernel
theorem dX6_ground_11 : decode cX6_ground 11 = .ok (.iadd, 1) := by decide +kernel
theorem dX6_ground_12 : decode cX6_ground 12 = .ok (.iaload, 1) := by decide +kernel
theorem dX6_ground_13 : decode cX6_ground 13 = .ok (.ireturn, 1) := by decide +kernel
set_option maxRecDepth 20000 in
theorem ggX6_isChart_X6_in : GoodIn wsX6_isChart wsX6_in := goodIn_r _ [5] (by decide +kernel) (by decide +kernel)
set_option maxRecDepth 20000 in
theorem gX6_isChart_X6_in : GoodIn wsX6_isChart (va_wsS RX6 45 yX6_in wsX6_in) := goodIn_app (goodIn_of _ (by decide +kernel)) ggX6_isChart_X6_in
theorem dX6_isChart_0 : decode cX6_isChart 0 = .ok (.iload_n 1, 1) := by decide +kernel
theorem dX6_isChart_1 : decode cX6_isChart 1 = .ok (.iconst 0, 1) := by decide +kernel
theorem dX6_isChart_2 : decode cX6_isChart 2 = .ok (.aload_n 0, 1) := by decide +kernel
theorem dX6_isChart_3 : decode cX6_isChart 3 = .ok (.getfield 7, 3) := by decide +kernel
theorem dX6_isChart_6 : decode cX6_isChart 6 = .ok (.bipush 44, 2) := by decide +kernel
theorem dX6_isChart_8 : decode cX6_isChart 8 = .ok (.iaload, 1) := by decide +kernel
theorem dX6_isChart_9 : decode cX6_isChart 9 = .ok (.iconst 1, 1) := by decide +kernel
theorem dX6_isChart_10 : decode cX6_isChart 10 = .ok (.isub, 1) := by decide +kernel
theorem dX6_isChart_11 : decode cX6_isChart 11 = .ok (.invokestatic 45, 3) := by decide +kernel
theorem dX6_isChart_14 : decode cX6_isChart 14 = .ok (.ireturn, 1) := by decide +kernel
set_option maxRecDepth 20000 in
theorem ggX6_reads_X6_figure : GoodIn wsX6_reads wsX6_figure := goodIn_r _ [5, 6, 36, 37, 38, 39, 40, 41, 42, 43, 44, 45, 46, 47] (by decide +kernel) (by decide +kernel)
set_option maxRecDepth 20000 in
theorem gX6_reads_X6_figure : GoodIn wsX6_reads (wsV RX6 104 RX6 yX6_figure wsX6_figure) := goodIn_app (goodIn_of _ (by decide +kernel)) ggX6_reads_X6_figure
set_option maxRecDepth 20000 in
theorem ggX6_reads_X6_ground : GoodIn wsX6_reads wsX6_ground := goodIn_r _ [10, 6, 36, 37, 38, 39, 40, 41, 42, 43, 44, 45, 46, 47] (by decide +kernel) (by decide +kernel)
set_option maxRecDepth 20000 in
theorem gX6_reads_X6_ground : GoodIn wsX6_reads (wsV RX6 107 RX6 yX6_ground wsX6_ground) := goodIn_app (goodIn_of _ (by decide +kernel)) ggX6_reads_X6_ground
set_option maxRecDepth 20000 in
theorem ggX6_reads_X6_areApart : GoodIn wsX6_reads wsX6_areApart := goodIn_r _ [14, 6, 15, 16, 4, 17, 18, 19, 20, 21, 22, 23, 24, 25, 26, 27, 28, 29, 30, 31, 32, 33, 34, 35, 36, 37, 38, 39, 40, 41, 42, 43, 44, 45, 46, 47] (by decide +kernel) (by decide +kernel)
set_option maxRecDepth 20000 in
theorem gX6_reads_X6_areApart : GoodIn wsX6_reads (wsV RX6 97 RX6 yX6_areApart wsX6_areApart) := goodIn_app (goodIn_of _ (by decide +kernel)) ggX6_reads_X6_areApart
theorem dX6_reads_0 : decode cX6_reads 0 = .ok (.aload_n 0, 1) := by decide +kernel
theorem dX6_reads_1 : decode cX6_reads 1 = .ok (.iload_n 1, 1) := by decide +kernel
theorem dX6_reads_2 : decode cX6_reads 2 = .ok (.aload_n 0, 1) := by decide +kernel
theorem dX6_reads_3 : decode cX6_reads 3 = .ok (.iload_n 2, 1) := by decide +kernel
theorem dX6_reads_4 : decode cX6_reads 4 = .ok (.invokevirtual 104, 3) := by decide +kernel
theorem dX6_reads_7 : decode cX6_reads 7 = .ok (.aload_n 0, 1) := by decide +kernel
theorem dX6_reads_8 : decode cX6_reads 8 = .ok (.iload_n 2, 1) := by decide +kernel
theorem dX6_reads_9 : decode cX6_reads 9 = .ok (.invokevirtual 107, 3) := by decide +kernel
theorem dX6_reads_12 : decode cX6_reads 12 = .ok (.invokevirtual 97, 3) := by decide +kernel
theorem dX6_reads_15 : decode cX6_reads 15 = .ok (.ireturn, 1) := by decide +kernel
set_option maxRecDepth 20000 in
theorem ggX6_hang_X6_isPot : GoodIn wsX6_hang wsX6_isPot := goodIn_r _ [5, 6, 7, 4, 8] (by decide +kernel) (by decide +kernel)
set_option maxRecDepth 20000 in
theorem gX6_hang_X6_isPot : GoodIn wsX6_hang (va_wsS RX6 80 yX6_isPot wsX6_isPot) := goodIn_app (goodIn_of _ (by decide +kernel)) ggX6_hang_X6_isPot
set_option maxRecDepth 20000 in
theorem ggX6_hang_X6_goes : GoodIn wsX6_hang wsX6_goes := goodIn_r _ [12, 13, 23, 24, 25, 26, 27, 28, 29, 30, 31, 32, 33, 34] (by decide +kernel) (by decide +kernel)
set_option maxRecDepth 20000 in
theorem gX6_hang_X6_goes : GoodIn wsX6_hang (wsV RX6 84 RX6 yX6_goes wsX6_goes) := goodIn_app (goodIn_of _ (by decide +kernel)) ggX6_hang_X6_goes
set_option maxRecDepth 20000 in
theorem ggX6_hang_X6_saves : GoodIn wsX6_hang wsX6_saves := goodIn_r _ [17, 18, 19, 20, 21, 4, 22, 1, 23, 24, 25, 26, 27, 28, 29, 30, 31, 32, 33, 34] (by decide +kernel) (by decide +kernel)
set_option maxRecDepth 20000 in
theorem gX6_hang_X6_saves : GoodIn wsX6_hang (wsV RX6 42 RX6 yX6_saves wsX6_saves) := goodIn_app (goodIn_of _ (by decide +kernel)) ggX6_hang_X6_saves
theorem dX6_hang_0 : decode cX6_hang 0 = .ok (.aload_n 0, 1) := by decide +kernel
theorem dX6_hang_1 : decode cX6_hang 1 = .ok (.iload_n 1, 1) := by decide +kernel
theorem dX6_hang_2 : decode cX6_hang 2 = .ok (.invokestatic 80, 3) := by decide +kernel
theorem dX6_hang_5 : decode cX6_hang 5 = .ok (.ifCond .eq 14, 3) := by decide +kernel
theorem dX6_hang_8 : decode cX6_hang 8 = .ok (.iload_n 2, 1) := by decide +kernel
theorem dX6_hang_9 : decode cX6_hang 9 = .ok (.invokestatic 80, 3) := by decide +kernel
theorem dX6_hang_12 : decode cX6_hang 12 = .ok (.ifCond .eq 7, 3) := by decide +kernel
theorem dX6_hang_15 : decode cX6_hang 15 = .ok (.iconst 1, 1) := by decide +kernel
theorem dX6_hang_16 : decode cX6_hang 16 = .ok (.goto 4, 3) := by decide +kernel
theorem dX6_hang_19 : decode cX6_hang 19 = .ok (.iconst 0, 1) := by decide +kernel
theorem dX6_hang_20 : decode cX6_hang 20 = .ok (.iload_n 1, 1) := by decide +kernel
theorem dX6_hang_21 : decode cX6_hang 21 = .ok (.iload_n 2, 1) := by decide +kernel
theorem dX6_hang_22 : decode cX6_hang 22 = .ok (.if_icmp .eq 7, 3) := by decide +kernel
theorem dX6_hang_25 : decode cX6_hang 25 = .ok (.iconst 1, 1) := by decide +kernel
theorem dX6_hang_26 : decode cX6_hang 26 = .ok (.goto 4, 3) := by decide +kernel
theorem dX6_hang_29 : decode cX6_hang 29 = .ok (.iconst 0, 1) := by decide +kernel
theorem dX6_hang_30 : decode cX6_hang 30 = .ok (.invokevirtual 84, 3) := by decide +kernel
theorem dX6_hang_33 : decode cX6_hang 33 = .ok (.ifCond .ne 5, 3) := by decide +kernel
theorem dX6_hang_36 : decode cX6_hang 36 = .ok (.iconst 0, 1) := by decide +kernel
theorem dX6_hang_37 : decode cX6_hang 37 = .ok (.ireturn, 1) := by decide +kernel
theorem dX6_hang_38 : decode cX6_hang 38 = .ok (.aload_n 0, 1) := by decide +kernel
theorem dX6_hang_39 : decode cX6_hang 39 = .ok (.invokevirtual 42, 3) := by decide +kernel
theorem dX6_hang_42 : decode cX6_hang 42 = .ok (.aload_n 0, 1) := by decide +kernel
theorem dX6_hang_43 : decode cX6_hang 43 = .ok (.getfield 7, 3) := by decide +kernel
theorem dX6_hang_46 : decode cX6_hang 46 = .ok (.bipush 44, 2) := by decide +kernel
theorem dX6_hang_48 : decode cX6_hang 48 = .ok (.iaload, 1) := by decide +kernel
theorem dX6_hang_49 : decode cX6_hang 49 = .ok (.bipush 6, 2) := by decide +kernel
theorem dX6_hang_51 : decode cX6_hang 51 = .ok (.if_icmp .ne 16, 3) := by decide +kernel
theorem dX6_hang_54 : decode cX6_hang 54 = .ok (.aload_n 0, 1) := by decide +kernel
theorem dX6_hang_55 : decode cX6_hang 55 = .ok (.getfield 7, 3) := by decide +kernel
theorem dX6_hang_58 : decode cX6_hang 58 = .ok (.bipush 58, 2) := by decide +kernel
theorem dX6_hang_60 : decode cX6_hang 60 = .ok (.dup2, 1) := by decide +kernel
theorem dX6_hang_61 : decode cX6_hang 61 = .ok (.iaload, 1) := by decide +kernel
theorem dX6_hang_62 : decode cX6_hang 62 = .ok (.iconst 1, 1) := by decide +kernel
theorem dX6_hang_63 : decode cX6_hang 63 = .ok (.iadd, 1) := by decide +kernel
theorem dX6_hang_64 : decode cX6_hang 64 = .ok (.iastore, 1) := by decide +kernel
theorem dX6_hang_65 : decode cX6_hang 65 = .ok (.iconst (-1), 1) := by decide +kernel
theorem dX6_hang_66 : decode cX6_hang 66 = .ok (.ireturn, 1) := by decide +kernel
theorem dX6_hang_67 : decode cX6_hang 67 = .ok (.aload_n 0, 1) := by decide +kernel
theorem dX6_hang_68 : decode cX6_hang 68 = .ok (.getfield 7, 3) := by decide +kernel
theorem dX6_hang_71 : decode cX6_hang 71 = .ok (.bipush 45, 2) := by decide +kernel
theorem dX6_hang_73 : decode cX6_hang 73 = .ok (.iconst 2, 1) := by decide +kernel
theorem dX6_hang_74 : decode cX6_hang 74 = .ok (.aload_n 0, 1) := by decide +kernel
theorem dX6_hang_75 : decode cX6_hang 75 = .ok (.getfield 7, 3) := by decide +kernel
theorem dX6_hang_78 : decode cX6_hang 78 = .ok (.bipush 44, 2) := by decide +kernel
theorem dX6_hang_80 : decode cX6_hang 80 = .ok (.iaload, 1) := by decide +kernel
theorem dX6_hang_81 : decode cX6_hang 81 = .ok (.imul, 1) := by decide +kernel
theorem dX6_hang_82 : decode cX6_hang 82 = .ok (.iadd, 1) := by decide +kernel
theorem dX6_hang_83 : decode cX6_hang 83 = .ok (.iload_n 1, 1) := by decide +kernel
theorem dX6_hang_84 : decode cX6_hang 84 = .ok (.iastore, 1) := by decide +kernel
theorem dX6_hang_85 : decode cX6_hang 85 = .ok (.aload_n 0, 1) := by decide +kernel
theorem dX6_hang_86 : decode cX6_hang 86 = .ok (.getfield 7, 3) := by decide +kernel
theorem dX6_hang_89 : decode cX6_hang 89 = .ok (.bipush 45, 2) := by decide +kernel
theorem dX6_hang_91 : decode cX6_hang 91 = .ok (.iconst 2, 1) := by decide +kernel
theorem dX6_hang_92 : decode cX6_hang 92 = .ok (.aload_n 0, 1) := by decide +kernel
theorem dX6_hang_93 : decode cX6_hang 93 = .ok (.getfield 7, 3) := by decide +kernel
theorem dX6_hang_96 : decode cX6_hang 96 = .ok (.bipush 44, 2) := by decide +kernel
theorem dX6_hang_98 : decode cX6_hang 98 = .ok (.iaload, 1) := by decide +kernel
theorem dX6_hang_99 : decode cX6_hang 99 = .ok (.imul, 1) := by decide +kernel
theorem dX6_hang_100 : decode cX6_hang 100 = .ok (.iadd, 1) := by decide +kernel
theorem dX6_hang_101 : decode cX6_hang 101 = .ok (.iconst 1, 1) := by decide +kernel
theorem dX6_hang_102 : decode cX6_hang 102 = .ok (.iadd, 1) := by decide +kernel
theorem dX6_hang_103 : decode cX6_hang 103 = .ok (.iload_n 2, 1) := by decide +kernel
theorem dX6_hang_104 : decode cX6_hang 104 = .ok (.iastore, 1) := by decide +kernel
theorem dX6_hang_105 : decode cX6_hang 105 = .ok (.aload_n 0, 1) := by decide +kernel
theorem dX6_hang_106 : decode cX6_hang 106 = .ok (.getfield 7, 3) := by decide +kernel
theorem dX6_hang_109 : decode cX6_hang 109 = .ok (.bipush 44, 2) := by decide +kernel
theorem dX6_hang_111 : decode cX6_hang 111 = .ok (.dup2, 1) := by decide +kernel
theorem dX6_hang_112 : decode cX6_hang 112 = .ok (.iaload, 1) := by decide +kernel
theorem dX6_hang_113 : decode cX6_hang 113 = .ok (.iconst 1, 1) := by decide +kernel
theorem dX6_hang_114 : decode cX6_hang 114 = .ok (.iadd, 1) := by decide +kernel
theorem dX6_hang_115 : decode cX6_hang 115 = .ok (.iastore, 1) := by decide +kernel
theorem dX6_hang_116 : decode cX6_hang 116 = .ok (.aload_n 0, 1) := by decide +kernel
theorem dX6_hang_117 : decode cX6_hang 117 = .ok (.getfield 7, 3) := by decide +kernel
theorem dX6_hang_120 : decode cX6_hang 120 = .ok (.bipush 44, 2) := by decide +kernel
theorem dX6_hang_122 : decode cX6_hang 122 = .ok (.iaload, 1) := by decide +kernel
theorem dX6_hang_123 : decode cX6_hang 123 = .ok (.iconst 1, 1) := by decide +kernel
theorem dX6_hang_124 : decode cX6_hang 124 = .ok (.isub, 1) := by decide +kernel
theorem dX6_hang_125 : decode cX6_hang 125 = .ok (.ireturn, 1) := by decide +kernel
