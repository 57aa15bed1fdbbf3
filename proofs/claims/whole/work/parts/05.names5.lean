set_option maxRecDepth 20000 in
theorem ggX6_readers_X6_reads : GoodIn wsX6_readers wsX6_reads := goodIn_r _ [5, 6, 7, 8, 4, 9, 10, 11, 12, 13, 14, 15, 16, 17, 18, 19, 20, 21, 22, 23, 24, 25, 26, 27, 28, 29, 30, 31, 32, 33, 34, 35, 36, 37, 38, 39, 40, 41, 42, 43, 44, 45, 46, 47, 48, 49, 50, 51] (by decide +kernel) (by decide +kernel)
set_option maxRecDepth 20000 in
theorem gX6_readers_X6_reads : GoodIn wsX6_readers (wsV RX6 110 RX6 yX6_reads wsX6_reads) := goodIn_app (goodIn_of _ (by decide +kernel)) ggX6_readers_X6_reads
theorem dX6_readers_0 : decode cX6_readers 0 = .ok (.iconst 0, 1) := by decide +kernel
theorem dX6_readers_1 : decode cX6_readers 1 = .ok (.istore_n 2, 1) := by decide +kernel
theorem dX6_readers_2 : decode cX6_readers 2 = .ok (.iconst 0, 1) := by decide +kernel
theorem dX6_readers_3 : decode cX6_readers 3 = .ok (.istore_n 3, 1) := by decide +kernel
theorem dX6_readers_4 : decode cX6_readers 4 = .ok (.iload_n 3, 1) := by decide +kernel
theorem dX6_readers_5 : decode cX6_readers 5 = .ok (.iconst 4, 1) := by decide +kernel
theorem dX6_readers_6 : decode cX6_readers 6 = .ok (.if_icmp .ge 28, 3) := by decide +kernel
theorem dX6_readers_9 : decode cX6_readers 9 = .ok (.iload_n 2, 1) := by decide +kernel
theorem dX6_readers_10 : decode cX6_readers 10 = .ok (.aload_n 0, 1) := by decide +kernel
theorem dX6_readers_11 : decode cX6_readers 11 = .ok (.iload_n 3, 1) := by decide +kernel
theorem dX6_readers_12 : decode cX6_readers 12 = .ok (.iload_n 1, 1) := by decide +kernel
theorem dX6_readers_13 : decode cX6_readers 13 = .ok (.invokevirtual 110, 3) := by decide +kernel
theorem dX6_readers_16 : decode cX6_readers 16 = .ok (.ifCond .eq 9, 3) := by decide +kernel
theorem dX6_readers_19 : decode cX6_readers 19 = .ok (.iconst 1, 1) := by decide +kernel
theorem dX6_readers_20 : decode cX6_readers 20 = .ok (.iload_n 3, 1) := by decide +kernel
theorem dX6_readers_21 : decode cX6_readers 21 = .ok (.ishl, 1) := by decide +kernel
theorem dX6_readers_22 : decode cX6_readers 22 = .ok (.goto 4, 3) := by decide +kernel
theorem dX6_readers_25 : decode cX6_readers 25 = .ok (.iconst 0, 1) := by decide +kernel
theorem dX6_readers_26 : decode cX6_readers 26 = .ok (.ior, 1) := by decide +kernel
theorem dX6_readers_27 : decode cX6_readers 27 = .ok (.istore_n 2, 1) := by decide +kernel
theorem dX6_readers_28 : decode cX6_readers 28 = .ok (.iinc 3 1, 3) := by decide +kernel
theorem dX6_readers_31 : decode cX6_readers 31 = .ok (.goto (-27), 3) := by decide +kernel
theorem dX6_readers_34 : decode cX6_readers 34 = .ok (.iload_n 2, 1) := by decide +kernel
theorem dX6_readers_35 : decode cX6_readers 35 = .ok (.ireturn, 1) := by decide +kernel
theorem dX6_ones_0 : decode cX6_ones 0 = .ok (.iconst 0, 1) := by decide +kernel
theorem dX6_ones_1 : decode cX6_ones 1 = .ok (.istore_n 1, 1) := by decide +kernel
theorem dX6_ones_2 : decode cX6_ones 2 = .ok (.iconst 0, 1) := by decide +kernel
theorem dX6_ones_3 : decode cX6_ones 3 = .ok (.istore_n 2, 1) := by decide +kernel
theorem dX6_ones_4 : decode cX6_ones 4 = .ok (.iload_n 2, 1) := by decide +kernel
theorem dX6_ones_5 : decode cX6_ones 5 = .ok (.bipush 8, 2) := by decide +kernel
theorem dX6_ones_7 : decode cX6_ones 7 = .ok (.if_icmp .ge 17, 3) := by decide +kernel
theorem dX6_ones_10 : decode cX6_ones 10 = .ok (.iload_n 1, 1) := by decide +kernel
theorem dX6_ones_11 : decode cX6_ones 11 = .ok (.iload_n 0, 1) := by decide +kernel
theorem dX6_ones_12 : decode cX6_ones 12 = .ok (.iload_n 2, 1) := by decide +kernel
theorem dX6_ones_13 : decode cX6_ones 13 = .ok (.ishr, 1) := by decide +kernel
theorem dX6_ones_14 : decode cX6_ones 14 = .ok (.iconst 1, 1) := by decide +kernel
theorem dX6_ones_15 : decode cX6_ones 15 = .ok (.iand, 1) := by decide +kernel
theorem dX6_ones_16 : decode cX6_ones 16 = .ok (.iadd, 1) := by decide +kernel
theorem dX6_ones_17 : decode cX6_ones 17 = .ok (.istore_n 1, 1) := by decide +kernel
theorem dX6_ones_18 : decode cX6_ones 18 = .ok (.iinc 2 1, 3) := by decide +kernel
theorem dX6_ones_21 : decode cX6_ones 21 = .ok (.goto (-17), 3) := by decide +kernel
theorem dX6_ones_24 : decode cX6_ones 24 = .ok (.iload_n 1, 1) := by decide +kernel
theorem dX6_ones_25 : decode cX6_ones 25 = .ok (.ireturn, 1) := by decide +kernel
set_option maxRecDepth 20000 in
theorem ggX6_takeDown_X6_isChart : GoodIn wsX6_takeDown wsX6_isChart := goodIn_r _ [6, 1, 7, 8, 5, 9, 68, 69, 70, 71, 72, 73, 74, 75, 76, 77, 78, 79] (by decide +kernel) (by decide +kernel)
set_option maxRecDepth 20000 in
theorem gX6_takeDown_X6_isChart : GoodIn wsX6_takeDown (wsV RX6 114 RX6 yX6_isChart wsX6_isChart) := goodIn_app (goodIn_of _ (by decide +kernel)) ggX6_takeDown_X6_isChart
set_option maxRecDepth 20000 in
theorem ggX6_takeDown_X6_goes : GoodIn wsX6_takeDown wsX6_goes := goodIn_r _ [13, 14, 68, 69, 70, 71, 72, 73, 74, 75, 76, 77, 78, 79] (by decide +kernel) (by decide +kernel)
set_option maxRecDepth 20000 in
theorem gX6_takeDown_X6_goes : GoodIn wsX6_takeDown (wsV RX6 84 RX6 yX6_goes wsX6_goes) := goodIn_app (goodIn_of _ (by decide +kernel)) ggX6_takeDown_X6_goes
set_option maxRecDepth 20000 in
theorem ggX6_takeDown_X6_saves : GoodIn wsX6_takeDown wsX6_saves := goodIn_r _ [18, 19, 20, 21, 22, 5, 23, 1, 68, 69, 70, 71, 72, 73, 74, 75, 76, 77, 78, 79] (by decide +kernel) (by decide +kernel)
set_option maxRecDepth 20000 in
theorem gX6_takeDown_X6_saves : GoodIn wsX6_takeDown (wsV RX6 42 RX6 yX6_saves wsX6_saves) := goodIn_app (goodIn_of _ (by decide +kernel)) ggX6_takeDown_X6_saves
set_option maxRecDepth 20000 in
theorem ggX6_takeDown_X6_readers : GoodIn wsX6_takeDown wsX6_readers := goodIn_r _ [27, 28, 29, 30, 5, 31, 32, 33, 34, 35, 1, 36, 37, 38, 39, 40, 41, 42, 43, 44, 45, 46, 47, 48, 49, 50, 51, 52, 53, 54, 55, 56, 57, 58, 59, 60, 61, 62, 63, 64, 68, 69, 70, 71, 72, 73, 74, 75, 76, 77, 78, 79] (by decide +kernel) (by decide +kernel)
set_option maxRecDepth 20000 in
theorem gX6_takeDown_X6_readers : GoodIn wsX6_takeDown (wsV RX6 117 RX6 yX6_readers wsX6_readers) := goodIn_app (goodIn_of _ (by decide +kernel)) ggX6_takeDown_X6_readers
set_option maxRecDepth 20000 in
theorem ggX6_takeDown_X6_ones : GoodIn wsX6_takeDown wsX6_ones := goodIn_r _ [67] (by decide +kernel) (by decide +kernel)
set_option maxRecDepth 20000 in
theorem gX6_takeDown_X6_ones : GoodIn wsX6_takeDown (va_wsS RX6 120 yX6_ones wsX6_ones) := goodIn_app (goodIn_of _ (by decide +kernel)) ggX6_takeDown_X6_ones
theorem dX6_takeDown_0 : decode cX6_takeDown 0 = .ok (.aload_n 0, 1) := by decide +kernel
theorem dX6_takeDown_1 : decode cX6_takeDown 1 = .ok (.aload_n 0, 1) := by decide +kernel
theorem dX6_takeDown_2 : decode cX6_takeDown 2 = .ok (.iload_n 1, 1) := by decide +kernel
theorem dX6_takeDown_3 : decode cX6_takeDown 3 = .ok (.invokevirtual 114, 3) := by decide +kernel
theorem dX6_takeDown_6 : decode cX6_takeDown 6 = .ok (.iconst 1, 1) := by decide +kernel
theorem dX6_takeDown_7 : decode cX6_takeDown 7 = .ok (.invokevirtual 84, 3) := by decide +kernel
theorem dX6_takeDown_10 : decode cX6_takeDown 10 = .ok (.ifCond .ne 5, 3) := by decide +kernel
theorem dX6_takeDown_13 : decode cX6_takeDown 13 = .ok (.iconst 0, 1) := by decide +kernel
theorem dX6_takeDown_14 : decode cX6_takeDown 14 = .ok (.ireturn, 1) := by decide +kernel
theorem dX6_takeDown_15 : decode cX6_takeDown 15 = .ok (.aload_n 0, 1) := by decide +kernel
theorem dX6_takeDown_16 : decode cX6_takeDown 16 = .ok (.invokevirtual 42, 3) := by decide +kernel
theorem dX6_takeDown_19 : decode cX6_takeDown 19 = .ok (.aload_n 0, 1) := by decide +kernel
theorem dX6_takeDown_20 : decode cX6_takeDown 20 = .ok (.iload_n 1, 1) := by decide +kernel
theorem dX6_takeDown_21 : decode cX6_takeDown 21 = .ok (.invokevirtual 117, 3) := by decide +kernel
theorem dX6_takeDown_24 : decode cX6_takeDown 24 = .ok (.invokestatic 120, 3) := by decide +kernel
theorem dX6_takeDown_27 : decode cX6_takeDown 27 = .ok (.istore_n 2, 1) := by decide +kernel
theorem dX6_takeDown_28 : decode cX6_takeDown 28 = .ok (.aload_n 0, 1) := by decide +kernel
theorem dX6_takeDown_29 : decode cX6_takeDown 29 = .ok (.getfield 7, 3) := by decide +kernel
theorem dX6_takeDown_32 : decode cX6_takeDown 32 = .ok (.bipush 44, 2) := by decide +kernel
theorem dX6_takeDown_34 : decode cX6_takeDown 34 = .ok (.dup2, 1) := by decide +kernel
theorem dX6_takeDown_35 : decode cX6_takeDown 35 = .ok (.iaload, 1) := by decide +kernel
theorem dX6_takeDown_36 : decode cX6_takeDown 36 = .ok (.iconst 1, 1) := by decide +kernel
theorem dX6_takeDown_37 : decode cX6_takeDown 37 = .ok (.isub, 1) := by decide +kernel
theorem dX6_takeDown_38 : decode cX6_takeDown 38 = .ok (.iastore, 1) := by decide +kernel
theorem dX6_takeDown_39 : decode cX6_takeDown 39 = .ok (.iconst 2, 1) := by decide +kernel
theorem dX6_takeDown_40 : decode cX6_takeDown 40 = .ok (.iload_n 1, 1) := by decide +kernel
theorem dX6_takeDown_41 : decode cX6_takeDown 41 = .ok (.imul, 1) := by decide +kernel
theorem dX6_takeDown_42 : decode cX6_takeDown 42 = .ok (.istore_n 3, 1) := by decide +kernel
theorem dX6_takeDown_43 : decode cX6_takeDown 43 = .ok (.iload_n 3, 1) := by decide +kernel
theorem dX6_takeDown_44 : decode cX6_takeDown 44 = .ok (.iconst 2, 1) := by decide +kernel
theorem dX6_takeDown_45 : decode cX6_takeDown 45 = .ok (.aload_n 0, 1) := by decide +kernel
theorem dX6_takeDown_46 : decode cX6_takeDown 46 = .ok (.getfield 7, 3) := by decide +kernel
theorem dX6_takeDown_49 : decode cX6_takeDown 49 = .ok (.bipush 44, 2) := by decide +kernel
theorem dX6_takeDown_51 : decode cX6_takeDown 51 = .ok (.iaload, 1) := by decide +kernel
theorem dX6_takeDown_52 : decode cX6_takeDown 52 = .ok (.imul, 1) := by decide +kernel
theorem dX6_takeDown_53 : decode cX6_takeDown 53 = .ok (.if_icmp .ge 29, 3) := by decide +kernel
theorem dX6_takeDown_56 : decode cX6_takeDown 56 = .ok (.aload_n 0, 1) := by decide +kernel
theorem dX6_takeDown_57 : decode cX6_takeDown 57 = .ok (.getfield 7, 3) := by decide +kernel
theorem dX6_takeDown_60 : decode cX6_takeDown 60 = .ok (.bipush 45, 2) := by decide +kernel
theorem dX6_takeDown_62 : decode cX6_takeDown 62 = .ok (.iload_n 3, 1) := by decide +kernel
theorem dX6_takeDown_63 : decode cX6_takeDown 63 = .ok (.iadd, 1) := by decide +kernel
theorem dX6_takeDown_64 : decode cX6_takeDown 64 = .ok (.aload_n 0, 1) := by decide +kernel
theorem dX6_takeDown_65 : decode cX6_takeDown 65 = .ok (.getfield 7, 3) := by decide +kernel
theorem dX6_takeDown_68 : decode cX6_takeDown 68 = .ok (.bipush 45, 2) := by decide +kernel
theorem dX6_takeDown_70 : decode cX6_takeDown 70 = .ok (.iload_n 3, 1) := by decide +kernel
theorem dX6_takeDown_71 : decode cX6_takeDown 71 = .ok (.iadd, 1) := by decide +kernel
theorem dX6_takeDown_72 : decode cX6_takeDown 72 = .ok (.iconst 2, 1) := by decide +kernel
theorem dX6_takeDown_73 : decode cX6_takeDown 73 = .ok (.iadd, 1) := by decide +kernel
theorem dX6_takeDown_74 : decode cX6_takeDown 74 = .ok (.iaload, 1) := by decide +kernel
theorem dX6_takeDown_75 : decode cX6_takeDown 75 = .ok (.iastore, 1) := by decide +kernel
theorem dX6_takeDown_76 : decode cX6_takeDown 76 = .ok (.iinc 3 1, 3) := by decide +kernel
theorem dX6_takeDown_79 : decode cX6_takeDown 79 = .ok (.goto (-36), 3) := by decide +kernel
theorem dX6_takeDown_82 : decode cX6_takeDown 82 = .ok (.iload_n 2, 1) := by decide +kernel
theorem dX6_takeDown_83 : decode cX6_takeDown 83 = .ok (.ireturn, 1) := by decide +kernel
set_option maxRecDepth 20000 in
theorem ggX6_correct_X6_isChart : GoodIn wsX6_correct wsX6_isChart := goodIn_r _ [9, 1, 10, 11, 8, 12, 59, 60, 61, 62, 63, 64, 65, 66, 67, 68, 69, 70] (by decide +kernel) (by decide +kernel)
set_option maxRecDepth 20000 in
theorem gX6_correct_X6_isChart : GoodIn wsX6_correct (wsV RX6 114 RX6 yX6_isChart wsX6_isChart) := goodIn_app (goodIn_of _ (by decide +kernel)) ggX6_correct_X6_isChart
set_option maxRecDepth 20000 in
theorem ggX6_correct_X6_isPainter : GoodIn wsX6_correct wsX6_isPainter := goodIn_r _ [15, 10, 11, 8, 12] (by decide +kernel) (by decide +kernel)
set_option maxRecDepth 20000 in
theorem gX6_correct_X6_isPainter : GoodIn wsX6_correct (va_wsS RX6 91 yX6_isPainter wsX6_isPainter) := goodIn_app (goodIn_of _ (by decide +kernel)) ggX6_correct_X6_isPainter
set_option maxRecDepth 20000 in
theorem ggX6_correct_X6_goes : GoodIn wsX6_correct wsX6_goes := goodIn_r _ [19, 20, 59, 60, 61, 62, 63, 64, 65, 66, 67, 68, 69, 70] (by decide +kernel) (by decide +kernel)
set_option maxRecDepth 20000 in
theorem gX6_correct_X6_goes : GoodIn wsX6_correct (wsV RX6 84 RX6 yX6_goes wsX6_goes) := goodIn_app (goodIn_of _ (by decide +kernel)) ggX6_correct_X6_goes
set_option maxRecDepth 20000 in
theorem ggX6_correct_X6_saves : GoodIn wsX6_correct wsX6_saves := goodIn_r _ [24, 25, 26, 27, 28, 8, 29, 1, 59, 60, 61, 62, 63, 64, 65, 66, 67, 68, 69, 70] (by decide +kernel) (by decide +kernel)
set_option maxRecDepth 20000 in
theorem gX6_correct_X6_saves : GoodIn wsX6_correct (wsV RX6 42 RX6 yX6_saves wsX6_saves) := goodIn_app (goodIn_of _ (by decide +kernel)) ggX6_correct_X6_saves
set_option maxRecDepth 20000 in
theorem ggX6_correct_X6_figure : GoodIn wsX6_correct wsX6_figure := goodIn_r _ [33, 1, 59, 60, 61, 62, 63, 64, 65, 66, 67, 68, 69, 70] (by decide +kernel) (by decide +kernel)
set_option maxRecDepth 20000 in
theorem gX6_correct_X6_figure : GoodIn wsX6_correct (wsV RX6 104 RX6 yX6_figure wsX6_figure) := goodIn_app (goodIn_of _ (by decide +kernel)) ggX6_correct_X6_figure
set_option maxRecDepth 20000 in
theorem ggX6_correct_X6_ground : GoodIn wsX6_correct wsX6_ground := goodIn_r _ [37, 1, 59, 60, 61, 62, 63, 64, 65, 66, 67, 68, 69, 70] (by decide +kernel) (by decide +kernel)
set_option maxRecDepth 20000 in
theorem gX6_correct_X6_ground : GoodIn wsX6_correct (wsV RX6 107 RX6 yX6_ground wsX6_ground) := goodIn_app (goodIn_of _ (by decide +kernel)) ggX6_correct_X6_ground
set_option maxRecDepth 20000 in
theorem ggX6_correct_X6_least : GoodIn wsX6_correct wsX6_least := goodIn_r _ [41, 1, 2, 3, 4, 42, 43, 8, 44, 45, 46, 47, 48, 49, 50, 51, 52, 53, 54, 55, 56, 57, 58, 59, 60, 61, 62, 63, 64, 65, 66, 67, 68, 69, 70] (by decide +kernel) (by decide +kernel)
set_option maxRecDepth 20000 in
theorem gX6_correct_X6_least : GoodIn wsX6_correct (wsV RX6 123 RX6 yX6_least wsX6_least) := goodIn_app (goodIn_of _ (by decide +kernel)) ggX6_correct_X6_least
theorem dX6_correct_0 : decode cX6_correct 0 = .ok (.aload_n 0, 1) := by decide +kernel
theorem dX6_correct_1 : decode cX6_correct 1 = .ok (.aload_n 0, 1) := by decide +kernel
theorem dX6_correct_2 : decode cX6_correct 2 = .ok (.iload_n 1, 1) := by decide +kernel
theorem dX6_correct_3 : decode cX6_correct 3 = .ok (.invokevirtual 114, 3) := by decide +kernel
theorem dX6_correct_6 : decode cX6_correct 6 = .ok (.ifCond .eq 14, 3) := by decide +kernel
theorem dX6_correct_9 : decode cX6_correct 9 = .ok (.iload_n 2, 1) := by decide +kernel
theorem dX6_correct_10 : decode cX6_correct 10 = .ok (.invokestatic 91, 3) := by decide +kernel
theorem dX6_correct_13 : decode cX6_correct 13 = .ok (.ifCond .eq 7, 3) := by decide +kernel
theorem dX6_correct_16 : decode cX6_correct 16 = .ok (.iconst 1, 1) := by decide +kernel
theorem dX6_correct_17 : decode cX6_correct 17 = .ok (.goto 4, 3) := by decide +kernel
theorem dX6_correct_20 : decode cX6_correct 20 = .ok (.iconst 0, 1) := by decide +kernel
theorem dX6_correct_21 : decode cX6_correct 21 = .ok (.iconst 1, 1) := by decide +kernel
theorem dX6_correct_22 : decode cX6_correct 22 = .ok (.invokevirtual 84, 3) := by decide +kernel
theorem dX6_correct_25 : decode cX6_correct 25 = .ok (.ifCond .ne 5, 3) := by decide +kernel
theorem dX6_correct_28 : decode cX6_correct 28 = .ok (.iconst 0, 1) := by decide +kernel
theorem dX6_correct_29 : decode cX6_correct 29 = .ok (.ireturn, 1) := by decide +kernel
theorem dX6_correct_30 : decode cX6_correct 30 = .ok (.aload_n 0, 1) := by decide +kernel
theorem dX6_correct_31 : decode cX6_correct 31 = .ok (.invokevirtual 42, 3) := by decide +kernel
theorem dX6_correct_34 : decode cX6_correct 34 = .ok (.aload_n 0, 1) := by decide +kernel
theorem dX6_correct_35 : decode cX6_correct 35 = .ok (.iload_n 2, 1) := by decide +kernel
theorem dX6_correct_36 : decode cX6_correct 36 = .ok (.aload_n 0, 1) := by decide +kernel
theorem dX6_correct_37 : decode cX6_correct 37 = .ok (.iload_n 1, 1) := by decide +kernel
theorem dX6_correct_38 : decode cX6_correct 38 = .ok (.invokevirtual 104, 3) := by decide +kernel
theorem dX6_correct_41 : decode cX6_correct 41 = .ok (.aload_n 0, 1) := by decide +kernel
theorem dX6_correct_42 : decode cX6_correct 42 = .ok (.iload_n 1, 1) := by decide +kernel
theorem dX6_correct_43 : decode cX6_correct 43 = .ok (.invokevirtual 107, 3) := by decide +kernel
theorem dX6_correct_46 : decode cX6_correct 46 = .ok (.invokevirtual 123, 3) := by decide +kernel
theorem dX6_correct_49 : decode cX6_correct 49 = .ok (.istore_n 3, 1) := by decide +kernel
theorem dX6_correct_50 : decode cX6_correct 50 = .ok (.iload_n 3, 1) := by decide +kernel
theorem dX6_correct_51 : decode cX6_correct 51 = .ok (.iconst (-1), 1) := by decide +kernel
theorem dX6_correct_52 : decode cX6_correct 52 = .ok (.if_icmp .ne 16, 3) := by decide +kernel
theorem dX6_correct_55 : decode cX6_correct 55 = .ok (.aload_n 0, 1) := by decide +kernel
theorem dX6_correct_56 : decode cX6_correct 56 = .ok (.getfield 7, 3) := by decide +kernel
theorem dX6_correct_59 : decode cX6_correct 59 = .ok (.bipush 58, 2) := by decide +kernel
theorem dX6_correct_61 : decode cX6_correct 61 = .ok (.dup2, 1) := by decide +kernel
theorem dX6_correct_62 : decode cX6_correct 62 = .ok (.iaload, 1) := by decide +kernel
theorem dX6_correct_63 : decode cX6_correct 63 = .ok (.iconst 1, 1) := by decide +kernel
theorem dX6_correct_64 : decode cX6_correct 64 = .ok (.iadd, 1) := by decide +kernel
theorem dX6_correct_65 : decode cX6_correct 65 = .ok (.iastore, 1) := by decide +kernel
theorem dX6_correct_66 : decode cX6_correct 66 = .ok (.iconst (-1), 1) := by decide +kernel
theorem dX6_correct_67 : decode cX6_correct 67 = .ok (.ireturn, 1) := by decide +kernel
theorem dX6_correct_68 : decode cX6_correct 68 = .ok (.iconst 4, 1) := by decide +kernel
theorem dX6_correct_69 : decode cX6_correct 69 = .ok (.aload_n 0, 1) := by decide +kernel
theorem dX6_correct_70 : decode cX6_correct 70 = .ok (.iload_n 1, 1) := by decide +kernel
theorem dX6_correct_71 : decode cX6_correct 71 = .ok (.invokevirtual 104, 3) := by decide +kernel
theorem dX6_correct_74 : decode cX6_correct 74 = .ok (.imul, 1) := by decide +kernel
theorem dX6_correct_75 : decode cX6_correct 75 = .ok (.istore 4, 2) := by decide +kernel
theorem dX6_correct_77 : decode cX6_correct 77 = .ok (.aload_n 0, 1) := by decide +kernel
theorem dX6_correct_78 : decode cX6_correct 78 = .ok (.getfield 7, 3) := by decide +kernel
theorem dX6_correct_81 : decode cX6_correct 81 = .ok (.iload 4, 2) := by decide +kernel
theorem dX6_correct_83 : decode cX6_correct 83 = .ok (.aload_n 0, 1) := by decide +kernel
theorem dX6_correct_84 : decode cX6_correct 84 = .ok (.getfield 71, 3) := by decide +kernel
theorem dX6_correct_87 : decode cX6_correct 87 = .ok (.iastore, 1) := by decide +kernel
theorem dX6_correct_88 : decode cX6_correct 88 = .ok (.aload_n 0, 1) := by decide +kernel
theorem dX6_correct_89 : decode cX6_correct 89 = .ok (.getfield 7, 3) := by decide +kernel
theorem dX6_correct_92 : decode cX6_correct 92 = .ok (.iload 4, 2) := by decide +kernel
theorem dX6_correct_94 : decode cX6_correct 94 = .ok (.iconst 1, 1) := by decide +kernel
theorem dX6_correct_95 : decode cX6_correct 95 = .ok (.iadd, 1) := by decide +kernel
theorem dX6_correct_96 : decode cX6_correct 96 = .ok (.aload_n 0, 1) := by decide +kernel
theorem dX6_correct_97 : decode cX6_correct 97 = .ok (.getfield 74, 3) := by decide +kernel
theorem dX6_correct_100 : decode cX6_correct 100 = .ok (.iastore, 1) := by decide +kernel
theorem dX6_correct_101 : decode cX6_correct 101 = .ok (.aload_n 0, 1) := by decide +kernel
theorem dX6_correct_102 : decode cX6_correct 102 = .ok (.getfield 7, 3) := by decide +kernel
theorem dX6_correct_105 : decode cX6_correct 105 = .ok (.iload 4, 2) := by decide +kernel
theorem dX6_correct_107 : decode cX6_correct 107 = .ok (.iconst 2, 1) := by decide +kernel
theorem dX6_correct_108 : decode cX6_correct 108 = .ok (.iadd, 1) := by decide +kernel
theorem dX6_correct_109 : decode cX6_correct 109 = .ok (.aload_n 0, 1) := by decide +kernel
theorem dX6_correct_110 : decode cX6_correct 110 = .ok (.getfield 77, 3) := by decide +kernel
theorem dX6_correct_113 : decode cX6_correct 113 = .ok (.iastore, 1) := by decide +kernel
theorem dX6_correct_114 : decode cX6_correct 114 = .ok (.aload_n 0, 1) := by decide +kernel
theorem dX6_correct_115 : decode cX6_correct 115 = .ok (.getfield 7, 3) := by decide +kernel
theorem dX6_correct_118 : decode cX6_correct 118 = .ok (.bipush 57, 2) := by decide +kernel
theorem dX6_correct_120 : decode cX6_correct 120 = .ok (.dup2, 1) := by decide +kernel
theorem dX6_correct_121 : decode cX6_correct 121 = .ok (.iaload, 1) := by decide +kernel
theorem dX6_correct_122 : decode cX6_correct 122 = .ok (.iload_n 3, 1) := by decide +kernel
theorem dX6_correct_123 : decode cX6_correct 123 = .ok (.ifCond .le 7, 3) := by decide +kernel
theorem dX6_correct_126 : decode cX6_correct 126 = .ok (.iconst 1, 1) := by decide +kernel
theorem dX6_correct_127 : decode cX6_correct 127 = .ok (.goto 4, 3) := by decide +kernel
theorem dX6_correct_130 : decode cX6_correct 130 = .ok (.iconst 0, 1) := by decide +kernel
theorem dX6_correct_131 : decode cX6_correct 131 = .ok (.iadd, 1) := by decide +kernel
theorem dX6_correct_132 : decode cX6_correct 132 = .ok (.iastore, 1) := by decide +kernel
theorem dX6_correct_133 : decode cX6_correct 133 = .ok (.iload_n 3, 1) := by decide +kernel
theorem dX6_correct_134 : decode cX6_correct 134 = .ok (.ireturn, 1) := by decide +kernel
set_option maxRecDepth 20000 in
theorem ggX6_append_X6_in : GoodIn wsX6_append wsX6_in := goodIn_r _ [6] (by decide +kernel) (by decide +kernel)
set_option maxRecDepth 20000 in
theorem gX6_append_X6_in : GoodIn wsX6_append (va_wsS RX6 45 yX6_in wsX6_in) := goodIn_app (goodIn_of _ (by decide +kernel)) ggX6_append_X6_in
set_option maxRecDepth 20000 in
theorem ggX6_append_X6_goes : GoodIn wsX6_append wsX6_goes := goodIn_r _ [10, 11, 12, 13, 14, 15, 16, 17, 18, 19, 20, 21, 22, 23] (by decide +kernel) (by decide +kernel)
set_option maxRecDepth 20000 in
theorem gX6_append_X6_goes : GoodIn wsX6_append (wsV RX6 84 RX6 yX6_goes wsX6_goes) := goodIn_app (goodIn_of _ (by decide +kernel)) ggX6_append_X6_goes
theorem dX6_append_0 : decode cX6_append 0 = .ok (.aload_n 0, 1) := by decide +kernel
theorem dX6_append_1 : decode cX6_append 1 = .ok (.iload_n 1, 1) := by decide +kernel
theorem dX6_append_2 : decode cX6_append 2 = .ok (.bipush 33, 2) := by decide +kernel
theorem dX6_append_4 : decode cX6_append 4 = .ok (.bipush 126, 2) := by decide +kernel
theorem dX6_append_6 : decode cX6_append 6 = .ok (.invokestatic 45, 3) := by decide +kernel
theorem dX6_append_9 : decode cX6_append 9 = .ok (.aload_n 0, 1) := by decide +kernel
theorem dX6_append_10 : decode cX6_append 10 = .ok (.getfield 127, 3) := by decide +kernel
theorem dX6_append_13 : decode cX6_append 13 = .ok (.bipush 60, 2) := by decide +kernel
theorem dX6_append_15 : decode cX6_append 15 = .ok (.if_icmp .ge 7, 3) := by decide +kernel
theorem dX6_append_18 : decode cX6_append 18 = .ok (.iconst 1, 1) := by decide +kernel
theorem dX6_append_19 : decode cX6_append 19 = .ok (.goto 4, 3) := by decide +kernel
theorem dX6_append_22 : decode cX6_append 22 = .ok (.iconst 0, 1) := by decide +kernel
theorem dX6_append_23 : decode cX6_append 23 = .ok (.invokevirtual 84, 3) := by decide +kernel
theorem dX6_append_26 : decode cX6_append 26 = .ok (.ifCond .ne 5, 3) := by decide +kernel
theorem dX6_append_29 : decode cX6_append 29 = .ok (.iconst 0, 1) := by decide +kernel
theorem dX6_append_30 : decode cX6_append 30 = .ok (.ireturn, 1) := by decide +kernel
theorem dX6_append_31 : decode cX6_append 31 = .ok (.aload_n 0, 1) := by decide +kernel
theorem dX6_append_32 : decode cX6_append 32 = .ok (.getfield 17, 3) := by decide +kernel
theorem dX6_append_35 : decode cX6_append 35 = .ok (.aload_n 0, 1) := by decide +kernel
theorem dX6_append_36 : decode cX6_append 36 = .ok (.getfield 127, 3) := by decide +kernel
theorem dX6_append_39 : decode cX6_append 39 = .ok (.iload_n 1, 1) := by decide +kernel
theorem dX6_append_40 : decode cX6_append 40 = .ok (.i2c, 1) := by decide +kernel
theorem dX6_append_41 : decode cX6_append 41 = .ok (.castore, 1) := by decide +kernel
theorem dX6_append_42 : decode cX6_append 42 = .ok (.aload_n 0, 1) := by decide +kernel
theorem dX6_append_43 : decode cX6_append 43 = .ok (.dup, 1) := by decide +kernel
theorem dX6_append_44 : decode cX6_append 44 = .ok (.getfield 127, 3) := by decide +kernel
theorem dX6_append_47 : decode cX6_append 47 = .ok (.iconst 1, 1) := by decide +kernel
theorem dX6_append_48 : decode cX6_append 48 = .ok (.iadd, 1) := by decide +kernel
theorem dX6_append_49 : decode cX6_append 49 = .ok (.putfield 127, 3) := by decide +kernel
theorem dX6_append_52 : decode cX6_append 52 = .ok (.aload_n 0, 1) := by decide +kernel
theorem dX6_append_53 : decode cX6_append 53 = .ok (.getfield 127, 3) := by decide +kernel
theorem dX6_append_56 : decode cX6_append 56 = .ok (.ireturn, 1) := by decide +kernel
theorem dX6_clearBuffer_0 : decode cX6_clearBuffer 0 = .ok (.aload_n 0, 1) := by decide +kernel
theorem dX6_clearBuffer_1 : decode cX6_clearBuffer 1 = .ok (.iconst 0, 1) := by decide +kernel
theorem dX6_clearBuffer_2 : decode cX6_clearBuffer 2 = .ok (.putfield 31, 3) := by decide +kernel
theorem dX6_clearBuffer_5 : decode cX6_clearBuffer 5 = .ok (.aload_n 0, 1) := by decide +kernel
theorem dX6_clearBuffer_6 : decode cX6_clearBuffer 6 = .ok (.getfield 127, 3) := by decide +kernel
theorem dX6_clearBuffer_9 : decode cX6_clearBuffer 9 = .ok (.istore_n 1, 1) := by decide +kernel
theorem dX6_clearBuffer_10 : decode cX6_clearBuffer 10 = .ok (.aload_n 0, 1) := by decide +kernel
theorem dX6_clearBuffer_11 : decode cX6_clearBuffer 11 = .ok (.iconst 0, 1) := by decide +kernel
theorem dX6_clearBuffer_12 : decode cX6_clearBuffer 12 = .ok (.putfield 127, 3) := by decide +kernel
theorem dX6_clearBuffer_15 : decode cX6_clearBuffer 15 = .ok (.iload_n 1, 1) := by decide +kernel
theorem dX6_clearBuffer_16 : decode cX6_clearBuffer 16 = .ok (.ireturn, 1) := by decide +kernel
set_option maxRecDepth 20000 in
theorem ggX6_fits_X6_in : GoodIn wsX6_fits wsX6_in := goodIn_r _ [5] (by decide +kernel) (by decide +kernel)
set_option maxRecDepth 20000 in
theorem gX6_fits_X6_in : GoodIn wsX6_fits (va_wsS RX6 45 yX6_in wsX6_in) := goodIn_app (goodIn_of _ (by decide +kernel)) ggX6_fits_X6_in
theorem dX6_fits_0 : decode cX6_fits 0 = .ok (.iload_n 1, 1) := by decide +kernel
theorem dX6_fits_1 : decode cX6_fits 1 = .ok (.bipush 6, 2) := by decide +kernel
theorem dX6_fits_3 : decode cX6_fits 3 = .ok (.irem, 1) := by decide +kernel
theorem dX6_fits_4 : decode cX6_fits 4 = .ok (.lookupswitch 84 #[(0, 36), (1, 50), (5, 67)], 36) := by decide +kernel
theorem dX6_fits_40 : decode cX6_fits 40 = .ok (.aload_n 0, 1) := by decide +kernel
theorem dX6_fits_41 : decode cX6_fits 41 = .ok (.getfield 17, 3) := by decide +kernel
theorem dX6_fits_44 : decode cX6_fits 44 = .ok (.iload_n 1, 1) := by decide +kernel
theorem dX6_fits_45 : decode cX6_fits 45 = .ok (.caload, 1) := by decide +kernel
theorem dX6_fits_46 : decode cX6_fits 46 = .ok (.bipush 48, 2) := by decide +kernel
theorem dX6_fits_48 : decode cX6_fits 48 = .ok (.bipush 55, 2) := by decide +kernel
theorem dX6_fits_50 : decode cX6_fits 50 = .ok (.invokestatic 45, 3) := by decide +kernel
theorem dX6_fits_53 : decode cX6_fits 53 = .ok (.ireturn, 1) := by decide +kernel
theorem dX6_fits_54 : decode cX6_fits 54 = .ok (.aload_n 0, 1) := by decide +kernel
theorem dX6_fits_55 : decode cX6_fits 55 = .ok (.getfield 17, 3) := by decide +kernel
theorem dX6_fits_58 : decode cX6_fits 58 = .ok (.iload_n 1, 1) := by decide +kernel
theorem dX6_fits_59 : decode cX6_fits 59 = .ok (.caload, 1) := by decide +kernel
theorem dX6_fits_60 : decode cX6_fits 60 = .ok (.bipush 61, 2) := by decide +kernel
theorem dX6_fits_62 : decode cX6_fits 62 = .ok (.if_icmp .ne 7, 3) := by decide +kernel
theorem dX6_fits_65 : decode cX6_fits 65 = .ok (.iconst 1, 1) := by decide +kernel
theorem dX6_fits_66 : decode cX6_fits 66 = .ok (.goto 4, 3) := by decide +kernel
theorem dX6_fits_69 : decode cX6_fits 69 = .ok (.iconst 0, 1) := by decide +kernel
theorem dX6_fits_70 : decode cX6_fits 70 = .ok (.ireturn, 1) := by decide +kernel
theorem dX6_fits_71 : decode cX6_fits 71 = .ok (.aload_n 0, 1) := by decide +kernel
theorem dX6_fits_72 : decode cX6_fits 72 = .ok (.getfield 17, 3) := by decide +kernel
theorem dX6_fits_75 : decode cX6_fits 75 = .ok (.iload_n 1, 1) := by decide +kernel
theorem dX6_fits_76 : decode cX6_fits 76 = .ok (.caload, 1) := by decide +kernel
theorem dX6_fits_77 : decode cX6_fits 77 = .ok (.bipush 59, 2) := by decide +kernel
theorem dX6_fits_79 : decode cX6_fits 79 = .ok (.if_icmp .ne 7, 3) := by decide +kernel
theorem dX6_fits_82 : decode cX6_fits 82 = .ok (.iconst 1, 1) := by decide +kernel
theorem dX6_fits_83 : decode cX6_fits 83 = .ok (.goto 4, 3) := by decide +kernel
theorem dX6_fits_86 : decode cX6_fits 86 = .ok (.iconst 0, 1) := by decide +kernel
theorem dX6_fits_87 : decode cX6_fits 87 = .ok (.ireturn, 1) := by decide +kernel
theorem dX6_fits_88 : decode cX6_fits 88 = .ok (.aload_n 0, 1) := by decide +kernel
theorem dX6_fits_89 : decode cX6_fits 89 = .ok (.getfield 17, 3) := by decide +kernel
theorem dX6_fits_92 : decode cX6_fits 92 = .ok (.iload_n 1, 1) := by decide +kernel
theorem dX6_fits_93 : decode cX6_fits 93 = .ok (.caload, 1) := by decide +kernel
theorem dX6_fits_94 : decode cX6_fits 94 = .ok (.bipush 48, 2) := by decide +kernel
theorem dX6_fits_96 : decode cX6_fits 96 = .ok (.bipush 57, 2) := by decide +kernel
theorem dX6_fits_98 : decode cX6_fits 98 = .ok (.invokestatic 45, 3) := by decide +kernel
theorem dX6_fits_101 : decode cX6_fits 101 = .ok (.ireturn, 1) := by decide +kernel
set_option maxRecDepth 20000 in
theorem ggX6_error_X6_fits : GoodIn wsX6_error wsX6_fits := goodIn_r _ [6, 7, 8, 9, 5, 10, 11, 12, 13, 14, 15, 16, 17, 18, 19, 20, 21, 22] (by decide +kernel) (by decide +kernel)
set_option maxRecDepth 20000 in
theorem gX6_error_X6_fits : GoodIn wsX6_error (wsV RX6 130 RX6 yX6_fits wsX6_fits) := goodIn_app (goodIn_of _ (by decide +kernel)) ggX6_error_X6_fits
theorem dX6_error_0 : decode cX6_error 0 = .ok (.iconst 0, 1) := by decide +kernel
theorem dX6_error_1 : decode cX6_error 1 = .ok (.istore_n 1, 1) := by decide +kernel
theorem dX6_error_2 : decode cX6_error 2 = .ok (.iload_n 1, 1) := by decide +kernel
theorem dX6_error_3 : decode cX6_error 3 = .ok (.aload_n 0, 1) := by decide +kernel
theorem dX6_error_4 : decode cX6_error 4 = .ok (.getfield 127, 3) := by decide +kernel
theorem dX6_error_7 : decode cX6_error 7 = .ok (.if_icmp .ge 17, 3) := by decide +kernel
theorem dX6_error_10 : decode cX6_error 10 = .ok (.aload_n 0, 1) := by decide +kernel
theorem dX6_error_11 : decode cX6_error 11 = .ok (.iload_n 1, 1) := by decide +kernel
theorem dX6_error_12 : decode cX6_error 12 = .ok (.invokevirtual 130, 3) := by decide +kernel
theorem dX6_error_15 : decode cX6_error 15 = .ok (.ifCond .eq 9, 3) := by decide +kernel
theorem dX6_error_18 : decode cX6_error 18 = .ok (.iinc 1 1, 3) := by decide +kernel
theorem dX6_error_21 : decode cX6_error 21 = .ok (.goto (-19), 3) := by decide +kernel
theorem dX6_error_24 : decode cX6_error 24 = .ok (.iload_n 1, 1) := by decide +kernel
theorem dX6_error_25 : decode cX6_error 25 = .ok (.ireturn, 1) := by decide +kernel
set_option maxRecDepth 20000 in
theorem ggX6_firstError_X6_error : GoodIn wsX6_firstError wsX6_error := goodIn_r _ [6, 7, 8, 9, 10, 5, 11, 12, 13, 14, 15, 16, 17, 18, 19, 20, 21, 22, 23, 24, 25, 26, 27] (by decide +kernel) (by decide +kernel)
set_option maxRecDepth 20000 in
theorem gX6_firstError_X6_error : GoodIn wsX6_firstError (wsV RX6 133 RX6 yX6_error wsX6_error) := goodIn_app (goodIn_of _ (by decide +kernel)) ggX6_firstError_X6_error
theorem dX6_firstError_0 : decode cX6_firstError 0 = .ok (.aload_n 0, 1) := by decide +kernel
theorem dX6_firstError_1 : decode cX6_firstError 1 = .ok (.iconst 0, 1) := by decide +kernel
theorem dX6_firstError_2 : decode cX6_firstError 2 = .ok (.putfield 31, 3) := by decide +kernel
theorem dX6_firstError_5 : decode cX6_firstError 5 = .ok (.aload_n 0, 1) := by decide +kernel
theorem dX6_firstError_6 : decode cX6_firstError 6 = .ok (.invokevirtual 133, 3) := by decide +kernel
theorem dX6_firstError_9 : decode cX6_firstError 9 = .ok (.ireturn, 1) := by decide +kernel
set_option maxRecDepth 20000 in
theorem ggX6_load_X6_error : GoodIn wsX6_load wsX6_error := goodIn_r _ [8, 1, 9, 10, 11, 7, 12, 2, 13, 14, 15, 59, 60, 61, 62, 63, 64, 65, 66, 67, 68, 69, 70] (by decide +kernel) (by decide +kernel)
set_option maxRecDepth 20000 in
theorem gX6_load_X6_error : GoodIn wsX6_load (wsV RX6 133 RX6 yX6_error wsX6_error) := goodIn_app (goodIn_of _ (by decide +kernel)) ggX6_load_X6_error
set_option maxRecDepth 20000 in
theorem ggX6_load_X6_goes : GoodIn wsX6_load wsX6_goes := goodIn_r _ [19, 20, 59, 60, 61, 62, 63, 64, 65, 66, 67, 68, 69, 70] (by decide +kernel) (by decide +kernel)
set_option maxRecDepth 20000 in
theorem gX6_load_X6_goes : GoodIn wsX6_load (wsV RX6 84 RX6 yX6_goes wsX6_goes) := goodIn_app (goodIn_of _ (by decide +kernel)) ggX6_load_X6_goes
set_option maxRecDepth 20000 in
theorem ggX6_load_X6_saves : GoodIn wsX6_load wsX6_saves := goodIn_r _ [24, 25, 26, 27, 28, 7, 29, 3, 59, 60, 61, 62, 63, 64, 65, 66, 67, 68, 69, 70] (by decide +kernel) (by decide +kernel)
set_option maxRecDepth 20000 in
theorem gX6_load_X6_saves : GoodIn wsX6_load (wsV RX6 42 RX6 yX6_saves wsX6_saves) := goodIn_app (goodIn_of _ (by decide +kernel)) ggX6_load_X6_saves
set_option maxRecDepth 20000 in
theorem ggX6_load_X6_pairs : GoodIn wsX6_load wsX6_pairs := goodIn_r _ [33, 3, 34, 35, 7, 36, 37, 38, 39, 40, 41, 42, 43, 44, 45, 46, 47, 48, 49, 50, 51, 52, 53, 54, 55, 56, 57, 58, 59, 60, 61, 62, 63, 64, 65, 66, 67, 68, 69, 70] (by decide +kernel) (by decide +kernel)
set_option maxRecDepth 20000 in
theorem gX6_load_X6_pairs : GoodIn wsX6_load (wsV RX6 136 RX6 yX6_pairs wsX6_pairs) := goodIn_app (goodIn_of _ (by decide +kernel)) ggX6_load_X6_pairs
theorem dX6_load_0 : decode cX6_load 0 = .ok (.aload_n 0, 1) := by decide +kernel
theorem dX6_load_1 : decode cX6_load 1 = .ok (.aload_n 0, 1) := by decide +kernel
theorem dX6_load_2 : decode cX6_load 2 = .ok (.getfield 127, 3) := by decide +kernel
theorem dX6_load_5 : decode cX6_load 5 = .ok (.bipush 6, 2) := by decide +kernel
theorem dX6_load_7 : decode cX6_load 7 = .ok (.irem, 1) := by decide +kernel
theorem dX6_load_8 : decode cX6_load 8 = .ok (.iconst 5, 1) := by decide +kernel
theorem dX6_load_9 : decode cX6_load 9 = .ok (.if_icmp .ne 18, 3) := by decide +kernel
theorem dX6_load_12 : decode cX6_load 12 = .ok (.aload_n 0, 1) := by decide +kernel
theorem dX6_load_13 : decode cX6_load 13 = .ok (.invokevirtual 133, 3) := by decide +kernel
theorem dX6_load_16 : decode cX6_load 16 = .ok (.aload_n 0, 1) := by decide +kernel
theorem dX6_load_17 : decode cX6_load 17 = .ok (.getfield 127, 3) := by decide +kernel
theorem dX6_load_20 : decode cX6_load 20 = .ok (.if_icmp .ne 7, 3) := by decide +kernel
theorem dX6_load_23 : decode cX6_load 23 = .ok (.iconst 1, 1) := by decide +kernel
theorem dX6_load_24 : decode cX6_load 24 = .ok (.goto 4, 3) := by decide +kernel
theorem dX6_load_27 : decode cX6_load 27 = .ok (.iconst 0, 1) := by decide +kernel
theorem dX6_load_28 : decode cX6_load 28 = .ok (.iconst 1, 1) := by decide +kernel
theorem dX6_load_29 : decode cX6_load 29 = .ok (.invokevirtual 84, 3) := by decide +kernel
theorem dX6_load_32 : decode cX6_load 32 = .ok (.ifCond .ne 5, 3) := by decide +kernel
theorem dX6_load_35 : decode cX6_load 35 = .ok (.iconst 0, 1) := by decide +kernel
theorem dX6_load_36 : decode cX6_load 36 = .ok (.ireturn, 1) := by decide +kernel
theorem dX6_load_37 : decode cX6_load 37 = .ok (.aload_n 0, 1) := by decide +kernel
theorem dX6_load_38 : decode cX6_load 38 = .ok (.invokevirtual 42, 3) := by decide +kernel
theorem dX6_load_41 : decode cX6_load 41 = .ok (.iconst 0, 1) := by decide +kernel
theorem dX6_load_42 : decode cX6_load 42 = .ok (.istore_n 1, 1) := by decide +kernel
theorem dX6_load_43 : decode cX6_load 43 = .ok (.iload_n 1, 1) := by decide +kernel
theorem dX6_load_44 : decode cX6_load 44 = .ok (.aload_n 0, 1) := by decide +kernel
theorem dX6_load_45 : decode cX6_load 45 = .ok (.getfield 127, 3) := by decide +kernel
theorem dX6_load_48 : decode cX6_load 48 = .ok (.if_icmp .ge 55, 3) := by decide +kernel
theorem dX6_load_51 : decode cX6_load 51 = .ok (.iconst 4, 1) := by decide +kernel
theorem dX6_load_52 : decode cX6_load 52 = .ok (.aload_n 0, 1) := by decide +kernel
theorem dX6_load_53 : decode cX6_load 53 = .ok (.getfield 17, 3) := by decide +kernel
theorem dX6_load_56 : decode cX6_load 56 = .ok (.iload_n 1, 1) := by decide +kernel
theorem dX6_load_57 : decode cX6_load 57 = .ok (.caload, 1) := by decide +kernel
theorem dX6_load_58 : decode cX6_load 58 = .ok (.bipush 48, 2) := by decide +kernel
theorem dX6_load_60 : decode cX6_load 60 = .ok (.isub, 1) := by decide +kernel
theorem dX6_load_61 : decode cX6_load 61 = .ok (.imul, 1) := by decide +kernel
theorem dX6_load_62 : decode cX6_load 62 = .ok (.istore_n 2, 1) := by decide +kernel
theorem dX6_load_63 : decode cX6_load 63 = .ok (.iconst 0, 1) := by decide +kernel
theorem dX6_load_64 : decode cX6_load 64 = .ok (.istore_n 3, 1) := by decide +kernel
theorem dX6_load_65 : decode cX6_load 65 = .ok (.iload_n 3, 1) := by decide +kernel
theorem dX6_load_66 : decode cX6_load 66 = .ok (.iconst 3, 1) := by decide +kernel
theorem dX6_load_67 : decode cX6_load 67 = .ok (.if_icmp .ge 30, 3) := by decide +kernel
theorem dX6_load_70 : decode cX6_load 70 = .ok (.aload_n 0, 1) := by decide +kernel
theorem dX6_load_71 : decode cX6_load 71 = .ok (.getfield 7, 3) := by decide +kernel
theorem dX6_load_74 : decode cX6_load 74 = .ok (.iload_n 2, 1) := by decide +kernel
theorem dX6_load_75 : decode cX6_load 75 = .ok (.iload_n 3, 1) := by decide +kernel
theorem dX6_load_76 : decode cX6_load 76 = .ok (.iadd, 1) := by decide +kernel
theorem dX6_load_77 : decode cX6_load 77 = .ok (.aload_n 0, 1) := by decide +kernel
theorem dX6_load_78 : decode cX6_load 78 = .ok (.getfield 17, 3) := by decide +kernel
theorem dX6_load_81 : decode cX6_load 81 = .ok (.iload_n 1, 1) := by decide +kernel
theorem dX6_load_82 : decode cX6_load 82 = .ok (.iconst 2, 1) := by decide +kernel
theorem dX6_load_83 : decode cX6_load 83 = .ok (.iadd, 1) := by decide +kernel
theorem dX6_load_84 : decode cX6_load 84 = .ok (.iload_n 3, 1) := by decide +kernel
theorem dX6_load_85 : decode cX6_load 85 = .ok (.iadd, 1) := by decide +kernel
theorem dX6_load_86 : decode cX6_load 86 = .ok (.caload, 1) := by decide +kernel
theorem dX6_load_87 : decode cX6_load 87 = .ok (.bipush 48, 2) := by decide +kernel
theorem dX6_load_89 : decode cX6_load 89 = .ok (.isub, 1) := by decide +kernel
theorem dX6_load_90 : decode cX6_load 90 = .ok (.iastore, 1) := by decide +kernel
theorem dX6_load_91 : decode cX6_load 91 = .ok (.iinc 3 1, 3) := by decide +kernel
theorem dX6_load_94 : decode cX6_load 94 = .ok (.goto (-29), 3) := by decide +kernel
theorem dX6_load_97 : decode cX6_load 97 = .ok (.iinc 1 6, 3) := by decide +kernel
theorem dX6_load_100 : decode cX6_load 100 = .ok (.goto (-57), 3) := by decide +kernel
theorem dX6_load_103 : decode cX6_load 103 = .ok (.aload_n 0, 1) := by decide +kernel
theorem dX6_load_104 : decode cX6_load 104 = .ok (.iconst 0, 1) := by decide +kernel
theorem dX6_load_105 : decode cX6_load 105 = .ok (.putfield 127, 3) := by decide +kernel
theorem dX6_load_108 : decode cX6_load 108 = .ok (.aload_n 0, 1) := by decide +kernel
theorem dX6_load_109 : decode cX6_load 109 = .ok (.iconst 0, 1) := by decide +kernel
theorem dX6_load_110 : decode cX6_load 110 = .ok (.invokevirtual 136, 3) := by decide +kernel
theorem dX6_load_113 : decode cX6_load 113 = .ok (.ireturn, 1) := by decide +kernel
set_option maxRecDepth 20000 in
theorem ggX6_labelled_X6_labelOf : GoodIn wsX6_labelled wsX6_labelOf := goodIn_r _ [5, 6, 7, 8, 9, 10, 11, 12, 13, 14, 15, 16, 17, 18] (by decide +kernel) (by decide +kernel)
set_option maxRecDepth 20000 in
theorem gX6_labelled_X6_labelOf : GoodIn wsX6_labelled (wsV RX6 94 RX6 yX6_labelOf wsX6_labelOf) := goodIn_app (goodIn_of _ (by decide +kernel)) ggX6_labelled_X6_labelOf
theorem dX6_labelled_0 : decode cX6_labelled 0 = .ok (.iconst 0, 1) := by decide +kernel
theorem dX6_labelled_1 : decode cX6_labelled 1 = .ok (.istore_n 1, 1) := by decide +kernel
theorem dX6_labelled_2 : decode cX6_labelled 2 = .ok (.iconst 0, 1) := by decide +kernel
theorem dX6_labelled_3 : decode cX6_labelled 3 = .ok (.istore_n 2, 1) := by decide +kernel
theorem dX6_labelled_4 : decode cX6_labelled 4 = .ok (.iload_n 2, 1) := by decide +kernel
theorem dX6_labelled_5 : decode cX6_labelled 5 = .ok (.bipush 8, 2) := by decide +kernel
theorem dX6_labelled_7 : decode cX6_labelled 7 = .ok (.if_icmp .ge 26, 3) := by decide +kernel
theorem dX6_labelled_10 : decode cX6_labelled 10 = .ok (.iload_n 1, 1) := by decide +kernel
theorem dX6_labelled_11 : decode cX6_labelled 11 = .ok (.aload_n 0, 1) := by decide +kernel
theorem dX6_labelled_12 : decode cX6_labelled 12 = .ok (.iload_n 2, 1) := by decide +kernel
theorem dX6_labelled_13 : decode cX6_labelled 13 = .ok (.invokevirtual 94, 3) := by decide +kernel
theorem dX6_labelled_16 : decode cX6_labelled 16 = .ok (.iconst (-1), 1) := by decide +kernel
theorem dX6_labelled_17 : decode cX6_labelled 17 = .ok (.if_icmp .eq 7, 3) := by decide +kernel
theorem dX6_labelled_20 : decode cX6_labelled 20 = .ok (.iconst 1, 1) := by decide +kernel
theorem dX6_labelled_21 : decode cX6_labelled 21 = .ok (.goto 4, 3) := by decide +kernel
theorem dX6_labelled_24 : decode cX6_labelled 24 = .ok (.iconst 0, 1) := by decide +kernel
theorem dX6_labelled_25 : decode cX6_labelled 25 = .ok (.iadd, 1) := by decide +kernel
theorem dX6_labelled_26 : decode cX6_labelled 26 = .ok (.istore_n 1, 1) := by decide +kernel
theorem dX6_labelled_27 : decode cX6_labelled 27 = .ok (.iinc 2 1, 3) := by decide +kernel
theorem dX6_labelled_30 : decode cX6_labelled 30 = .ok (.goto (-26), 3) := by decide +kernel
theorem dX6_labelled_33 : decode cX6_labelled 33 = .ok (.iload_n 1, 1) := by decide +kernel
theorem dX6_labelled_34 : decode cX6_labelled 34 = .ok (.ireturn, 1) := by decide +kernel
theorem dX6_isSlot_0 : decode cX6_isSlot 0 = .ok (.iload_n 0, 1) := by decide +kernel
theorem dX6_isSlot_1 : decode cX6_isSlot 1 = .ok (.ifCond .eq 8, 3) := by decide +kernel
theorem dX6_isSlot_4 : decode cX6_isSlot 4 = .ok (.iload_n 0, 1) := by decide +kernel
theorem dX6_isSlot_5 : decode cX6_isSlot 5 = .ok (.iconst 1, 1) := by decide +kernel
theorem dX6_isSlot_6 : decode cX6_isSlot 6 = .ok (.if_icmp .ne 7, 3) := by decide +kernel
theorem dX6_isSlot_9 : decode cX6_isSlot 9 = .ok (.iconst 1, 1) := by decide +kernel
theorem dX6_isSlot_10 : decode cX6_isSlot 10 = .ok (.goto 4, 3) := by decide +kernel
theorem dX6_isSlot_13 : decode cX6_isSlot 13 = .ok (.iconst 0, 1) := by decide +kernel
theorem dX6_isSlot_14 : decode cX6_isSlot 14 = .ok (.ireturn, 1) := by decide +kernel
set_option maxRecDepth 20000 in
theorem ggX6_keep_X6_isSlot : GoodIn wsX6_keep wsX6_isSlot := goodIn_r _ [5] (by decide +kernel) (by decide +kernel)
set_option maxRecDepth 20000 in
theorem gX6_keep_X6_isSlot : GoodIn wsX6_keep (va_wsS RX6 139 yX6_isSlot wsX6_isSlot) := goodIn_app (goodIn_of _ (by decide +kernel)) ggX6_keep_X6_isSlot
set_option maxRecDepth 20000 in
theorem ggX6_keep_X6_goes : GoodIn wsX6_keep wsX6_goes := goodIn_r _ [9, 10, 24, 25, 26, 27, 28, 29, 30, 31, 32, 33, 34, 35] (by decide +kernel) (by decide +kernel)
set_option maxRecDepth 20000 in
theorem gX6_keep_X6_goes : GoodIn wsX6_keep (wsV RX6 84 RX6 yX6_goes wsX6_goes) := goodIn_app (goodIn_of _ (by decide +kernel)) ggX6_keep_X6_goes
set_option maxRecDepth 20000 in
theorem ggX6_keep_X6_copies : GoodIn wsX6_keep wsX6_copies := goodIn_r _ [14, 15, 24, 25, 26, 27, 28, 29, 30, 31, 32, 33, 34, 35] (by decide +kernel) (by decide +kernel)
set_option maxRecDepth 20000 in
theorem gX6_keep_X6_copies : GoodIn wsX6_keep (wsV RX6 38 RX6 yX6_copies wsX6_copies) := goodIn_app (goodIn_of _ (by decide +kernel)) ggX6_keep_X6_copies
set_option maxRecDepth 20000 in
theorem ggX6_keep_X6_labelled : GoodIn wsX6_keep wsX6_labelled := goodIn_r _ [19, 20, 21, 22, 4, 23, 15, 24, 25, 26, 27, 28, 29, 30, 31, 32, 33, 34, 35] (by decide +kernel) (by decide +kernel)
set_option maxRecDepth 20000 in
theorem gX6_keep_X6_labelled : GoodIn wsX6_keep (wsV RX6 142 RX6 yX6_labelled wsX6_labelled) := goodIn_app (goodIn_of _ (by decide +kernel)) ggX6_keep_X6_labelled
theorem dX6_keep_0 : decode cX6_keep 0 = .ok (.aload_n 0, 1) := by decide +kernel
theorem dX6_keep_1 : decode cX6_keep 1 = .ok (.iload_n 1, 1) := by decide +kernel
theorem dX6_keep_2 : decode cX6_keep 2 = .ok (.invokestatic 139, 3) := by decide +kernel
theorem dX6_keep_5 : decode cX6_keep 5 = .ok (.iconst 1, 1) := by decide +kernel
theorem dX6_keep_6 : decode cX6_keep 6 = .ok (.invokevirtual 84, 3) := by decide +kernel
theorem dX6_keep_9 : decode cX6_keep 9 = .ok (.ifCond .ne 5, 3) := by decide +kernel
theorem dX6_keep_12 : decode cX6_keep 12 = .ok (.iconst 0, 1) := by decide +kernel
theorem dX6_keep_13 : decode cX6_keep 13 = .ok (.ireturn, 1) := by decide +kernel
theorem dX6_keep_14 : decode cX6_keep 14 = .ok (.aload_n 0, 1) := by decide +kernel
theorem dX6_keep_15 : decode cX6_keep 15 = .ok (.iconst 0, 1) := by decide +kernel
theorem dX6_keep_16 : decode cX6_keep 16 = .ok (.bipush 7, 2) := by decide +kernel
theorem dX6_keep_18 : decode cX6_keep 18 = .ok (.iload_n 1, 1) := by decide +kernel
theorem dX6_keep_19 : decode cX6_keep 19 = .ok (.iadd, 1) := by decide +kernel
theorem dX6_keep_20 : decode cX6_keep 20 = .ok (.invokevirtual 38, 3) := by decide +kernel
theorem dX6_keep_23 : decode cX6_keep 23 = .ok (.aload_n 0, 1) := by decide +kernel
theorem dX6_keep_24 : decode cX6_keep 24 = .ok (.getfield 13, 3) := by decide +kernel
theorem dX6_keep_27 : decode cX6_keep 27 = .ok (.iload_n 1, 1) := by decide +kernel
theorem dX6_keep_28 : decode cX6_keep 28 = .ok (.iconst 1, 1) := by decide +kernel
theorem dX6_keep_29 : decode cX6_keep 29 = .ok (.bastore, 1) := by decide +kernel
theorem dX6_keep_30 : decode cX6_keep 30 = .ok (.aload_n 0, 1) := by decide +kernel
theorem dX6_keep_31 : decode cX6_keep 31 = .ok (.invokevirtual 142, 3) := by decide +kernel
theorem dX6_keep_34 : decode cX6_keep 34 = .ok (.ireturn, 1) := by decide +kernel
set_option maxRecDepth 20000 in
theorem ggX6_goBack_X6_isSlot : GoodIn wsX6_goBack wsX6_isSlot := goodIn_r _ [5] (by decide +kernel) (by decide +kernel)
set_option maxRecDepth 20000 in
theorem gX6_goBack_X6_isSlot : GoodIn wsX6_goBack (va_wsS RX6 139 yX6_isSlot wsX6_isSlot) := goodIn_app (goodIn_of _ (by decide +kernel)) ggX6_goBack_X6_isSlot
set_option maxRecDepth 20000 in
theorem ggX6_goBack_X6_goes : GoodIn wsX6_goBack wsX6_goes := goodIn_r _ [9, 10, 29, 30, 31, 32, 33, 34, 35, 36, 37, 38, 39, 40] (by decide +kernel) (by decide +kernel)
set_option maxRecDepth 20000 in
theorem gX6_goBack_X6_goes : GoodIn wsX6_goBack (wsV RX6 84 RX6 yX6_goes wsX6_goes) := goodIn_app (goodIn_of _ (by decide +kernel)) ggX6_goBack_X6_goes
set_option maxRecDepth 20000 in
theorem ggX6_goBack_X6_saves : GoodIn wsX6_goBack wsX6_saves := goodIn_r _ [14, 15, 16, 17, 18, 4, 19, 20, 29, 30, 31, 32, 33, 34, 35, 36, 37, 38, 39, 40] (by decide +kernel) (by decide +kernel)
set_option maxRecDepth 20000 in
theorem gX6_goBack_X6_saves : GoodIn wsX6_goBack (wsV RX6 42 RX6 yX6_saves wsX6_saves) := goodIn_app (goodIn_of _ (by decide +kernel)) ggX6_goBack_X6_saves
set_option maxRecDepth 20000 in
theorem ggX6_goBack_X6_copies : GoodIn wsX6_goBack wsX6_copies := goodIn_r _ [19, 20, 29, 30, 31, 32, 33, 34, 35, 36, 37, 38, 39, 40] (by decide +kernel) (by decide +kernel)
set_option maxRecDepth 20000 in
theorem gX6_goBack_X6_copies : GoodIn wsX6_goBack (wsV RX6 38 RX6 yX6_copies wsX6_copies) := goodIn_app (goodIn_of _ (by decide +kernel)) ggX6_goBack_X6_copies
set_option maxRecDepth 20000 in
theorem ggX6_goBack_X6_labelled : GoodIn wsX6_goBack wsX6_labelled := goodIn_r _ [24, 25, 26, 27, 4, 28, 20, 29, 30, 31, 32, 33, 34, 35, 36, 37, 38, 39, 40] (by decide +kernel) (by decide +kernel)
set_option maxRecDepth 20000 in
theorem gX6_goBack_X6_labelled : GoodIn wsX6_goBack (wsV RX6 142 RX6 yX6_labelled wsX6_labelled) := goodIn_app (goodIn_of _ (by decide +kernel)) ggX6_goBack_X6_labelled
theorem dX6_goBack_0 : decode cX6_goBack 0 = .ok (.aload_n 0, 1) := by decide +kernel
theorem dX6_goBack_1 : decode cX6_goBack 1 = .ok (.iload_n 1, 1) := by decide +kernel
theorem dX6_goBack_2 : decode cX6_goBack 2 = .ok (.invokestatic 139, 3) := by decide +kernel
theorem dX6_goBack_5 : decode cX6_goBack 5 = .ok (.iload_n 1, 1) := by decide +kernel
theorem dX6_goBack_6 : decode cX6_goBack 6 = .ok (.invokestatic 139, 3) := by decide +kernel
theorem dX6_goBack_9 : decode cX6_goBack 9 = .ok (.ifCond .eq 16, 3) := by decide +kernel
theorem dX6_goBack_12 : decode cX6_goBack 12 = .ok (.aload_n 0, 1) := by decide +kernel
theorem dX6_goBack_13 : decode cX6_goBack 13 = .ok (.getfield 13, 3) := by decide +kernel
theorem dX6_goBack_16 : decode cX6_goBack 16 = .ok (.iload_n 1, 1) := by decide +kernel
theorem dX6_goBack_17 : decode cX6_goBack 17 = .ok (.baload, 1) := by decide +kernel
theorem dX6_goBack_18 : decode cX6_goBack 18 = .ok (.ifCond .eq 7, 3) := by decide +kernel
theorem dX6_goBack_21 : decode cX6_goBack 21 = .ok (.iconst 1, 1) := by decide +kernel
theorem dX6_goBack_22 : decode cX6_goBack 22 = .ok (.goto 4, 3) := by decide +kernel
theorem dX6_goBack_25 : decode cX6_goBack 25 = .ok (.iconst 0, 1) := by decide +kernel
theorem dX6_goBack_26 : decode cX6_goBack 26 = .ok (.invokevirtual 84, 3) := by decide +kernel
theorem dX6_goBack_29 : decode cX6_goBack 29 = .ok (.ifCond .ne 5, 3) := by decide +kernel
theorem dX6_goBack_32 : decode cX6_goBack 32 = .ok (.iconst 0, 1) := by decide +kernel
theorem dX6_goBack_33 : decode cX6_goBack 33 = .ok (.ireturn, 1) := by decide +kernel
theorem dX6_goBack_34 : decode cX6_goBack 34 = .ok (.aload_n 0, 1) := by decide +kernel
theorem dX6_goBack_35 : decode cX6_goBack 35 = .ok (.invokevirtual 42, 3) := by decide +kernel
theorem dX6_goBack_38 : decode cX6_goBack 38 = .ok (.aload_n 0, 1) := by decide +kernel
theorem dX6_goBack_39 : decode cX6_goBack 39 = .ok (.bipush 7, 2) := by decide +kernel
theorem dX6_goBack_41 : decode cX6_goBack 41 = .ok (.iload_n 1, 1) := by decide +kernel
theorem dX6_goBack_42 : decode cX6_goBack 42 = .ok (.iadd, 1) := by decide +kernel
theorem dX6_goBack_43 : decode cX6_goBack 43 = .ok (.iconst 0, 1) := by decide +kernel
theorem dX6_goBack_44 : decode cX6_goBack 44 = .ok (.invokevirtual 38, 3) := by decide +kernel
theorem dX6_goBack_47 : decode cX6_goBack 47 = .ok (.aload_n 0, 1) := by decide +kernel
theorem dX6_goBack_48 : decode cX6_goBack 48 = .ok (.invokevirtual 142, 3) := by decide +kernel
theorem dX6_goBack_51 : decode cX6_goBack 51 = .ok (.ireturn, 1) := by decide +kernel
set_option maxRecDepth 20000 in
theorem ggX6_undo_X6_goes : GoodIn wsX6_undo wsX6_goes := goodIn_r _ [6, 7, 13, 14, 15, 16, 17, 18, 19, 20, 21, 22, 23, 24] (by decide +kernel) (by decide +kernel)
set_option maxRecDepth 20000 in
theorem gX6_undo_X6_goes : GoodIn wsX6_undo (wsV RX6 84 RX6 yX6_goes wsX6_goes) := goodIn_app (goodIn_of _ (by decide +kernel)) ggX6_undo_X6_goes
set_option maxRecDepth 20000 in
theorem ggX6_undo_X6_copies : GoodIn wsX6_undo wsX6_copies := goodIn_r _ [11, 12, 13, 14, 15, 16, 17, 18, 19, 20, 21, 22, 23, 24] (by decide +kernel) (by decide +kernel)
set_option maxRecDepth 20000 in
theorem gX6_undo_X6_copies : GoodIn wsX6_undo (wsV RX6 38 RX6 yX6_copies wsX6_copies) := goodIn_app (goodIn_of _ (by decide +kernel)) ggX6_undo_X6_copies
theorem dX6_undo_0 : decode cX6_undo 0 = .ok (.aload_n 0, 1) := by decide +kernel
theorem dX6_undo_1 : decode cX6_undo 1 = .ok (.aload_n 0, 1) := by decide +kernel
theorem dX6_undo_2 : decode cX6_undo 2 = .ok (.getfield 35, 3) := by decide +kernel
theorem dX6_undo_5 : decode cX6_undo 5 = .ok (.ifCond .le 7, 3) := by decide +kernel
theorem dX6_undo_8 : decode cX6_undo 8 = .ok (.iconst 1, 1) := by decide +kernel
theorem dX6_undo_9 : decode cX6_undo 9 = .ok (.goto 4, 3) := by decide +kernel
theorem dX6_undo_12 : decode cX6_undo 12 = .ok (.iconst 0, 1) := by decide +kernel
theorem dX6_undo_13 : decode cX6_undo 13 = .ok (.iconst 1, 1) := by decide +kernel
theorem dX6_undo_14 : decode cX6_undo 14 = .ok (.invokevirtual 84, 3) := by decide +kernel
theorem dX6_undo_17 : decode cX6_undo 17 = .ok (.ifCond .ne 5, 3) := by decide +kernel
theorem dX6_undo_20 : decode cX6_undo 20 = .ok (.iconst 0, 1) := by decide +kernel
theorem dX6_undo_21 : decode cX6_undo 21 = .ok (.ireturn, 1) := by decide +kernel
theorem dX6_undo_22 : decode cX6_undo 22 = .ok (.aload_n 0, 1) := by decide +kernel
theorem dX6_undo_23 : decode cX6_undo 23 = .ok (.aload_n 0, 1) := by decide +kernel
theorem dX6_undo_24 : decode cX6_undo 24 = .ok (.getfield 35, 3) := by decide +kernel
theorem dX6_undo_27 : decode cX6_undo 27 = .ok (.iconst 0, 1) := by decide +kernel
theorem dX6_undo_28 : decode cX6_undo 28 = .ok (.invokevirtual 38, 3) := by decide +kernel
theorem dX6_undo_31 : decode cX6_undo 31 = .ok (.aload_n 0, 1) := by decide +kernel
theorem dX6_undo_32 : decode cX6_undo 32 = .ok (.dup, 1) := by decide +kernel
theorem dX6_undo_33 : decode cX6_undo 33 = .ok (.getfield 35, 3) := by decide +kernel
theorem dX6_undo_36 : decode cX6_undo 36 = .ok (.iconst 1, 1) := by decide +kernel
theorem dX6_undo_37 : decode cX6_undo 37 = .ok (.isub, 1) := by decide +kernel
theorem dX6_undo_38 : decode cX6_undo 38 = .ok (.putfield 35, 3) := by decide +kernel
theorem dX6_undo_41 : decode cX6_undo 41 = .ok (.aload_n 0, 1) := by decide +kernel
theorem dX6_undo_42 : decode cX6_undo 42 = .ok (.getfield 35, 3) := by decide +kernel
theorem dX6_undo_45 : decode cX6_undo 45 = .ok (.ireturn, 1) := by decide +kernel
set_option maxRecDepth 20000 in
theorem ggX6_tellers_X6_areApart : GoodIn wsX6_tellers wsX6_areApart := goodIn_r _ [5, 6, 7, 8, 4, 9, 10, 11, 12, 13, 14, 15, 16, 17, 18, 19, 20, 21, 22, 23, 24, 25, 26, 27, 28, 29, 30, 31, 32, 33, 34, 35, 36, 37, 38, 39] (by decide +kernel) (by decide +kernel)
set_option maxRecDepth 20000 in
theorem gX6_tellers_X6_areApart : GoodIn wsX6_tellers (wsV RX6 97 RX6 yX6_areApart wsX6_areApart) := goodIn_app (goodIn_of _ (by decide +kernel)) ggX6_tellers_X6_areApart
theorem dX6_tellers_0 : decode cX6_tellers 0 = .ok (.iconst 0, 1) := by decide +kernel
theorem dX6_tellers_1 : decode cX6_tellers 1 = .ok (.istore_n 2, 1) := by decide +kernel
theorem dX6_tellers_2 : decode cX6_tellers 2 = .ok (.iconst 0, 1) := by decide +kernel
theorem dX6_tellers_3 : decode cX6_tellers 3 = .ok (.istore_n 3, 1) := by decide +kernel
theorem dX6_tellers_4 : decode cX6_tellers 4 = .ok (.iload_n 3, 1) := by decide +kernel
theorem dX6_tellers_5 : decode cX6_tellers 5 = .ok (.bipush 32, 2) := by decide +kernel
theorem dX6_tellers_7 : decode cX6_tellers 7 = .ok (.if_icmp .ge 38, 3) := by decide +kernel
theorem dX6_tellers_10 : decode cX6_tellers 10 = .ok (.iload_n 2, 1) := by decide +kernel
theorem dX6_tellers_11 : decode cX6_tellers 11 = .ok (.aload_n 0, 1) := by decide +kernel
theorem dX6_tellers_12 : decode cX6_tellers 12 = .ok (.iload_n 3, 1) := by decide +kernel
theorem dX6_tellers_13 : decode cX6_tellers 13 = .ok (.bipush 8, 2) := by decide +kernel
theorem dX6_tellers_15 : decode cX6_tellers 15 = .ok (.idiv, 1) := by decide +kernel
theorem dX6_tellers_16 : decode cX6_tellers 16 = .ok (.iload_n 1, 1) := by decide +kernel
theorem dX6_tellers_17 : decode cX6_tellers 17 = .ok (.iload_n 3, 1) := by decide +kernel
theorem dX6_tellers_18 : decode cX6_tellers 18 = .ok (.bipush 8, 2) := by decide +kernel
theorem dX6_tellers_20 : decode cX6_tellers 20 = .ok (.irem, 1) := by decide +kernel
theorem dX6_tellers_21 : decode cX6_tellers 21 = .ok (.invokevirtual 97, 3) := by decide +kernel
theorem dX6_tellers_24 : decode cX6_tellers 24 = .ok (.ifCond .eq 12, 3) := by decide +kernel
theorem dX6_tellers_27 : decode cX6_tellers 27 = .ok (.iconst 1, 1) := by decide +kernel
theorem dX6_tellers_28 : decode cX6_tellers 28 = .ok (.iload_n 3, 1) := by decide +kernel
theorem dX6_tellers_29 : decode cX6_tellers 29 = .ok (.bipush 8, 2) := by decide +kernel
theorem dX6_tellers_31 : decode cX6_tellers 31 = .ok (.idiv, 1) := by decide +kernel
theorem dX6_tellers_32 : decode cX6_tellers 32 = .ok (.ishl, 1) := by decide +kernel
theorem dX6_tellers_33 : decode cX6_tellers 33 = .ok (.goto 4, 3) := by decide +kernel
theorem dX6_tellers_36 : decode cX6_tellers 36 = .ok (.iconst 0, 1) := by decide +kernel
theorem dX6_tellers_37 : decode cX6_tellers 37 = .ok (.ior, 1) := by decide +kernel
theorem dX6_tellers_38 : decode cX6_tellers 38 = .ok (.istore_n 2, 1) := by decide +kernel
theorem dX6_tellers_39 : decode cX6_tellers 39 = .ok (.iinc 3 1, 3) := by decide +kernel
theorem dX6_tellers_42 : decode cX6_tellers 42 = .ok (.goto (-38), 3) := by decide +kernel
theorem dX6_tellers_45 : decode cX6_tellers 45 = .ok (.iload_n 2, 1) := by decide +kernel
theorem dX6_tellers_46 : decode cX6_tellers 46 = .ok (.ireturn, 1) := by decide +kernel
set_option maxRecDepth 20000 in
theorem ggX6_ofPot_X6_tellers : GoodIn wsX6_ofPot wsX6_tellers := goodIn_r _ [6, 7, 8, 9, 5, 10, 1, 11, 12, 13, 14, 15, 16, 17, 18, 19, 20, 21, 22, 23, 24, 25, 26, 27, 28, 29, 30, 31, 32, 33, 34, 35, 36, 37, 38, 39, 40, 41, 42, 43] (by decide +kernel) (by decide +kernel)
set_option maxRecDepth 20000 in
theorem gX6_ofPot_X6_tellers : GoodIn wsX6_ofPot (wsV RX6 145 RX6 yX6_tellers wsX6_tellers) := goodIn_app (goodIn_of _ (by decide +kernel)) ggX6_ofPot_X6_tellers
theorem dX6_ofPot_0 : decode cX6_ofPot 0 = .ok (.iload_n 2, 1) := by decide +kernel
theorem dX6_ofPot_1 : decode cX6_ofPot 1 = .ok (.iconst 4, 1) := by decide +kernel
theorem dX6_ofPot_2 : decode cX6_ofPot 2 = .ok (.if_icmp .ge 16, 3) := by decide +kernel
theorem dX6_ofPot_5 : decode cX6_ofPot 5 = .ok (.aload_n 0, 1) := by decide +kernel
theorem dX6_ofPot_6 : decode cX6_ofPot 6 = .ok (.getfield 7, 3) := by decide +kernel
theorem dX6_ofPot_9 : decode cX6_ofPot 9 = .ok (.iconst 4, 1) := by decide +kernel
theorem dX6_ofPot_10 : decode cX6_ofPot 10 = .ok (.iload_n 1, 1) := by decide +kernel
theorem dX6_ofPot_11 : decode cX6_ofPot 11 = .ok (.imul, 1) := by decide +kernel
theorem dX6_ofPot_12 : decode cX6_ofPot 12 = .ok (.iload_n 2, 1) := by decide +kernel
theorem dX6_ofPot_13 : decode cX6_ofPot 13 = .ok (.iadd, 1) := by decide +kernel
theorem dX6_ofPot_14 : decode cX6_ofPot 14 = .ok (.iaload, 1) := by decide +kernel
theorem dX6_ofPot_15 : decode cX6_ofPot 15 = .ok (.goto 8, 3) := by decide +kernel
theorem dX6_ofPot_18 : decode cX6_ofPot 18 = .ok (.aload_n 0, 1) := by decide +kernel
theorem dX6_ofPot_19 : decode cX6_ofPot 19 = .ok (.iload_n 1, 1) := by decide +kernel
theorem dX6_ofPot_20 : decode cX6_ofPot 20 = .ok (.invokevirtual 145, 3) := by decide +kernel
theorem dX6_ofPot_23 : decode cX6_ofPot 23 = .ok (.ireturn, 1) := by decide +kernel
set_option maxRecDepth 20000 in
theorem ggX6_potOf_X6_isPot : GoodIn wsX6_potOf wsX6_isPot := goodIn_r _ [4, 5, 6, 3, 7] (by decide +kernel) (by decide +kernel)
set_option maxRecDepth 20000 in
theorem gX6_potOf_X6_isPot : GoodIn wsX6_potOf (va_wsS RX6 80 yX6_isPot wsX6_isPot) := goodIn_app (goodIn_of _ (by decide +kernel)) ggX6_potOf_X6_isPot
set_option maxRecDepth 20000 in
theorem ggX6_potOf_X6_in : GoodIn wsX6_potOf wsX6_in := goodIn_r _ [7] (by decide +kernel) (by decide +kernel)
set_option maxRecDepth 20000 in
theorem gX6_potOf_X6_in : GoodIn wsX6_potOf (va_wsS RX6 45 yX6_in wsX6_in) := goodIn_app (goodIn_of _ (by decide +kernel)) ggX6_potOf_X6_in
set_option maxRecDepth 20000 in
theorem ggX6_potOf_X6_goes : GoodIn wsX6_potOf wsX6_goes := goodIn_r _ [11, 12, 47, 48, 49, 50, 51, 52, 53, 54, 55, 56, 57, 58] (by decide +kernel) (by decide +kernel)
set_option maxRecDepth 20000 in
theorem gX6_potOf_X6_goes : GoodIn wsX6_potOf (wsV RX6 84 RX6 yX6_goes wsX6_goes) := goodIn_app (goodIn_of _ (by decide +kernel)) ggX6_potOf_X6_goes
set_option maxRecDepth 20000 in
theorem ggX6_potOf_X6_ofPot : GoodIn wsX6_potOf wsX6_ofPot := goodIn_r _ [16, 17, 18, 19, 20, 3, 21, 22, 23, 24, 25, 26, 27, 28, 29, 30, 31, 32, 33, 34, 35, 36, 37, 38, 39, 40, 41, 42, 43, 44, 45, 46, 47, 48, 49, 50, 51, 52, 53, 54, 55, 56, 57, 58] (by decide +kernel) (by decide +kernel)
set_option maxRecDepth 20000 in
theorem gX6_potOf_X6_ofPot : GoodIn wsX6_potOf (wsV RX6 148 RX6 yX6_ofPot wsX6_ofPot) := goodIn_app (goodIn_of _ (by decide +kernel)) ggX6_potOf_X6_ofPot
theorem dX6_potOf_0 : decode cX6_potOf 0 = .ok (.aload_n 0, 1) := by decide +kernel
theorem dX6_potOf_1 : decode cX6_potOf 1 = .ok (.iload_n 1, 1) := by decide +kernel
theorem dX6_potOf_2 : decode cX6_potOf 2 = .ok (.invokestatic 80, 3) := by decide +kernel
theorem dX6_potOf_5 : decode cX6_potOf 5 = .ok (.iload_n 2, 1) := by decide +kernel
theorem dX6_potOf_6 : decode cX6_potOf 6 = .ok (.iconst 0, 1) := by decide +kernel
theorem dX6_potOf_7 : decode cX6_potOf 7 = .ok (.iconst 4, 1) := by decide +kernel
theorem dX6_potOf_8 : decode cX6_potOf 8 = .ok (.invokestatic 45, 3) := by decide +kernel
theorem dX6_potOf_11 : decode cX6_potOf 11 = .ok (.invokevirtual 84, 3) := by decide +kernel
theorem dX6_potOf_14 : decode cX6_potOf 14 = .ok (.ifCond .eq 12, 3) := by decide +kernel
theorem dX6_potOf_17 : decode cX6_potOf 17 = .ok (.aload_n 0, 1) := by decide +kernel
theorem dX6_potOf_18 : decode cX6_potOf 18 = .ok (.iload_n 1, 1) := by decide +kernel
theorem dX6_potOf_19 : decode cX6_potOf 19 = .ok (.iload_n 2, 1) := by decide +kernel
theorem dX6_potOf_20 : decode cX6_potOf 20 = .ok (.invokevirtual 148, 3) := by decide +kernel
theorem dX6_potOf_23 : decode cX6_potOf 23 = .ok (.goto 4, 3) := by decide +kernel
theorem dX6_potOf_26 : decode cX6_potOf 26 = .ok (.iconst 0, 1) := by decide +kernel
theorem dX6_potOf_27 : decode cX6_potOf 27 = .ok (.ireturn, 1) := by decide +kernel
set_option maxRecDepth 20000 in
theorem ggX6_seenBy_X6_at : GoodIn wsX6_seenBy wsX6_at := goodIn_r _ [5] (by decide +kernel) (by decide +kernel)
set_option maxRecDepth 20000 in
theorem gX6_seenBy_X6_at : GoodIn wsX6_seenBy (va_wsS RX6 27 yX6_at wsX6_at) := goodIn_app (goodIn_of _ (by decide +kernel)) ggX6_seenBy_X6_at
set_option maxRecDepth 20000 in
theorem ggX6_seenBy_X6_part : GoodIn wsX6_seenBy wsX6_part := goodIn_r _ [8] (by decide +kernel) (by decide +kernel)
set_option maxRecDepth 20000 in
theorem gX6_seenBy_X6_part : GoodIn wsX6_seenBy (va_wsS RX6 49 yX6_part wsX6_part) := goodIn_app (goodIn_of _ (by decide +kernel)) ggX6_seenBy_X6_part
theorem dX6_seenBy_0 : decode cX6_seenBy 0 = .ok (.iconst 0, 1) := by decide +kernel
theorem dX6_seenBy_1 : decode cX6_seenBy 1 = .ok (.istore_n 3, 1) := by decide +kernel
theorem dX6_seenBy_2 : decode cX6_seenBy 2 = .ok (.iconst 0, 1) := by decide +kernel
theorem dX6_seenBy_3 : decode cX6_seenBy 3 = .ok (.istore 4, 2) := by decide +kernel
theorem dX6_seenBy_5 : decode cX6_seenBy 5 = .ok (.iload 4, 2) := by decide +kernel
theorem dX6_seenBy_7 : decode cX6_seenBy 7 = .ok (.iconst 3, 1) := by decide +kernel
theorem dX6_seenBy_8 : decode cX6_seenBy 8 = .ok (.if_icmp .ge 57, 3) := by decide +kernel
theorem dX6_seenBy_11 : decode cX6_seenBy 11 = .ok (.bipush 10, 2) := by decide +kernel
theorem dX6_seenBy_13 : decode cX6_seenBy 13 = .ok (.iload_n 3, 1) := by decide +kernel
theorem dX6_seenBy_14 : decode cX6_seenBy 14 = .ok (.imul, 1) := by decide +kernel
theorem dX6_seenBy_15 : decode cX6_seenBy 15 = .ok (.aload_n 0, 1) := by decide +kernel
theorem dX6_seenBy_16 : decode cX6_seenBy 16 = .ok (.getfield 7, 3) := by decide +kernel
theorem dX6_seenBy_19 : decode cX6_seenBy 19 = .ok (.iload_n 1, 1) := by decide +kernel
theorem dX6_seenBy_20 : decode cX6_seenBy 20 = .ok (.invokestatic 27, 3) := by decide +kernel
theorem dX6_seenBy_23 : decode cX6_seenBy 23 = .ok (.iaload, 1) := by decide +kernel
theorem dX6_seenBy_24 : decode cX6_seenBy 24 = .ok (.iload 4, 2) := by decide +kernel
theorem dX6_seenBy_26 : decode cX6_seenBy 26 = .ok (.aload_n 0, 1) := by decide +kernel
theorem dX6_seenBy_27 : decode cX6_seenBy 27 = .ok (.getfield 7, 3) := by decide +kernel
theorem dX6_seenBy_30 : decode cX6_seenBy 30 = .ok (.iconst 4, 1) := by decide +kernel
theorem dX6_seenBy_31 : decode cX6_seenBy 31 = .ok (.iload_n 2, 1) := by decide +kernel
theorem dX6_seenBy_32 : decode cX6_seenBy 32 = .ok (.imul, 1) := by decide +kernel
theorem dX6_seenBy_33 : decode cX6_seenBy 33 = .ok (.iaload, 1) := by decide +kernel
theorem dX6_seenBy_34 : decode cX6_seenBy 34 = .ok (.aload_n 0, 1) := by decide +kernel
theorem dX6_seenBy_35 : decode cX6_seenBy 35 = .ok (.getfield 7, 3) := by decide +kernel
theorem dX6_seenBy_38 : decode cX6_seenBy 38 = .ok (.iconst 4, 1) := by decide +kernel
theorem dX6_seenBy_39 : decode cX6_seenBy 39 = .ok (.iload_n 2, 1) := by decide +kernel
theorem dX6_seenBy_40 : decode cX6_seenBy 40 = .ok (.imul, 1) := by decide +kernel
theorem dX6_seenBy_41 : decode cX6_seenBy 41 = .ok (.iconst 1, 1) := by decide +kernel
theorem dX6_seenBy_42 : decode cX6_seenBy 42 = .ok (.iadd, 1) := by decide +kernel
theorem dX6_seenBy_43 : decode cX6_seenBy 43 = .ok (.iaload, 1) := by decide +kernel
theorem dX6_seenBy_44 : decode cX6_seenBy 44 = .ok (.aload_n 0, 1) := by decide +kernel
theorem dX6_seenBy_45 : decode cX6_seenBy 45 = .ok (.getfield 7, 3) := by decide +kernel
theorem dX6_seenBy_48 : decode cX6_seenBy 48 = .ok (.iconst 4, 1) := by decide +kernel
theorem dX6_seenBy_49 : decode cX6_seenBy 49 = .ok (.iload_n 2, 1) := by decide +kernel
theorem dX6_seenBy_50 : decode cX6_seenBy 50 = .ok (.imul, 1) := by decide +kernel
theorem dX6_seenBy_51 : decode cX6_seenBy 51 = .ok (.iconst 2, 1) := by decide +kernel
theorem dX6_seenBy_52 : decode cX6_seenBy 52 = .ok (.iadd, 1) := by decide +kernel
theorem dX6_seenBy_53 : decode cX6_seenBy 53 = .ok (.iaload, 1) := by decide +kernel
theorem dX6_seenBy_54 : decode cX6_seenBy 54 = .ok (.invokestatic 49, 3) := by decide +kernel
theorem dX6_seenBy_57 : decode cX6_seenBy 57 = .ok (.iadd, 1) := by decide +kernel
theorem dX6_seenBy_58 : decode cX6_seenBy 58 = .ok (.istore_n 3, 1) := by decide +kernel
theorem dX6_seenBy_59 : decode cX6_seenBy 59 = .ok (.iinc 4 1, 3) := by decide +kernel
theorem dX6_seenBy_62 : decode cX6_seenBy 62 = .ok (.goto (-57), 3) := by decide +kernel
theorem dX6_seenBy_65 : decode cX6_seenBy 65 = .ok (.iload_n 3, 1) := by decide +kernel
theorem dX6_seenBy_66 : decode cX6_seenBy 66 = .ok (.ireturn, 1) := by decide +kernel
set_option maxRecDepth 20000 in
theorem ggX6_seen_X6_isPainter : GoodIn wsX6_seen wsX6_isPainter := goodIn_r _ [4, 5, 6, 3, 7] (by decide +kernel) (by decide +kernel)
set_option maxRecDepth 20000 in
theorem gX6_seen_X6_isPainter : GoodIn wsX6_seen (va_wsS RX6 91 yX6_isPainter wsX6_isPainter) := goodIn_app (goodIn_of _ (by decide +kernel)) ggX6_seen_X6_isPainter
set_option maxRecDepth 20000 in
theorem ggX6_seen_X6_isPot : GoodIn wsX6_seen wsX6_isPot := goodIn_r _ [10, 5, 6, 3, 7] (by decide +kernel) (by decide +kernel)
set_option maxRecDepth 20000 in
theorem gX6_seen_X6_isPot : GoodIn wsX6_seen (va_wsS RX6 80 yX6_isPot wsX6_isPot) := goodIn_app (goodIn_of _ (by decide +kernel)) ggX6_seen_X6_isPot
set_option maxRecDepth 20000 in
theorem ggX6_seen_X6_goes : GoodIn wsX6_seen wsX6_goes := goodIn_r _ [14, 15, 27, 28, 29, 30, 31, 32, 33, 34, 35, 36, 37, 38] (by decide +kernel) (by decide +kernel)
set_option maxRecDepth 20000 in
theorem gX6_seen_X6_goes : GoodIn wsX6_seen (wsV RX6 84 RX6 yX6_goes wsX6_goes) := goodIn_app (goodIn_of _ (by decide +kernel)) ggX6_seen_X6_goes
set_option maxRecDepth 20000 in
theorem ggX6_seen_X6_seenBy : GoodIn wsX6_seen wsX6_seenBy := goodIn_r _ [19, 20, 21, 22, 3, 23, 24, 25, 26, 27, 28, 29, 30, 31, 32, 33, 34, 35, 36, 37, 38] (by decide +kernel) (by decide +kernel)
set_option maxRecDepth 20000 in
theorem gX6_seen_X6_seenBy : GoodIn wsX6_seen (wsV RX6 151 RX6 yX6_seenBy wsX6_seenBy) := goodIn_app (goodIn_of _ (by decide +kernel)) ggX6_seen_X6_seenBy
theorem dX6_seen_0 : decode cX6_seen 0 = .ok (.aload_n 0, 1) := by decide +kernel
theorem dX6_seen_1 : decode cX6_seen 1 = .ok (.iload_n 1, 1) := by decide +kernel
theorem dX6_seen_2 : decode cX6_seen 2 = .ok (.invokestatic 91, 3) := by decide +kernel
theorem dX6_seen_5 : decode cX6_seen 5 = .ok (.ifCond .eq 14, 3) := by decide +kernel
theorem dX6_seen_8 : decode cX6_seen 8 = .ok (.iload_n 2, 1) := by decide +kernel
theorem dX6_seen_9 : decode cX6_seen 9 = .ok (.invokestatic 80, 3) := by decide +kernel
theorem dX6_seen_12 : decode cX6_seen 12 = .ok (.ifCond .eq 7, 3) := by decide +kernel
theorem dX6_seen_15 : decode cX6_seen 15 = .ok (.iconst 1, 1) := by decide +kernel
theorem dX6_seen_16 : decode cX6_seen 16 = .ok (.goto 4, 3) := by decide +kernel
theorem dX6_seen_19 : decode cX6_seen 19 = .ok (.iconst 0, 1) := by decide +kernel
theorem dX6_seen_20 : decode cX6_seen 20 = .ok (.iconst 1, 1) := by decide +kernel
theorem dX6_seen_21 : decode cX6_seen 21 = .ok (.invokevirtual 84, 3) := by decide +kernel
theorem dX6_seen_24 : decode cX6_seen 24 = .ok (.ifCond .eq 12, 3) := by decide +kernel
theorem dX6_seen_27 : decode cX6_seen 27 = .ok (.aload_n 0, 1) := by decide +kernel
theorem dX6_seen_28 : decode cX6_seen 28 = .ok (.iload_n 1, 1) := by decide +kernel
theorem dX6_seen_29 : decode cX6_seen 29 = .ok (.iload_n 2, 1) := by decide +kernel
theorem dX6_seen_30 : decode cX6_seen 30 = .ok (.invokevirtual 151, 3) := by decide +kernel
theorem dX6_seen_33 : decode cX6_seen 33 = .ok (.goto 4, 3) := by decide +kernel
theorem dX6_seen_36 : decode cX6_seen 36 = .ok (.iconst 0, 1) := by decide +kernel
theorem dX6_seen_37 : decode cX6_seen 37 = .ok (.ireturn, 1) := by decide +kernel
set_option maxRecDepth 20000 in
theorem ggX6_wrong_X6_labelOf : GoodIn wsX6_wrong wsX6_labelOf := goodIn_r _ [5, 6, 32, 33, 34, 35, 36, 37, 38, 39, 40, 41, 42, 43] (by decide +kernel) (by decide +kernel)
set_option maxRecDepth 20000 in
theorem gX6_wrong_X6_labelOf : GoodIn wsX6_wrong (wsV RX6 94 RX6 yX6_labelOf wsX6_labelOf) := goodIn_app (goodIn_of _ (by decide +kernel)) ggX6_wrong_X6_labelOf
set_option maxRecDepth 20000 in
theorem ggX6_wrong_X6_areApart : GoodIn wsX6_wrong wsX6_areApart := goodIn_r _ [10, 6, 11, 12, 4, 13, 14, 15, 16, 17, 18, 19, 20, 21, 22, 23, 24, 25, 26, 27, 28, 29, 30, 31, 32, 33, 34, 35, 36, 37, 38, 39, 40, 41, 42, 43] (by decide +kernel) (by decide +kernel)
set_option maxRecDepth 20000 in
theorem gX6_wrong_X6_areApart : GoodIn wsX6_wrong (wsV RX6 97 RX6 yX6_areApart wsX6_areApart) := goodIn_app (goodIn_of _ (by decide +kernel)) ggX6_wrong_X6_areApart
theorem dX6_wrong_0 : decode cX6_wrong 0 = .ok (.iconst 0, 1) := by decide +kernel
theorem dX6_wrong_1 : decode cX6_wrong 1 = .ok (.istore_n 2, 1) := by decide +kernel
theorem dX6_wrong_2 : decode cX6_wrong 2 = .ok (.iconst 0, 1) := by decide +kernel
theorem dX6_wrong_3 : decode cX6_wrong 3 = .ok (.istore_n 3, 1) := by decide +kernel
theorem dX6_wrong_4 : decode cX6_wrong 4 = .ok (.iload_n 3, 1) := by decide +kernel
theorem dX6_wrong_5 : decode cX6_wrong 5 = .ok (.bipush 64, 2) := by decide +kernel
theorem dX6_wrong_7 : decode cX6_wrong 7 = .ok (.if_icmp .ge 87, 3) := by decide +kernel
theorem dX6_wrong_10 : decode cX6_wrong 10 = .ok (.iload_n 3, 1) := by decide +kernel
theorem dX6_wrong_11 : decode cX6_wrong 11 = .ok (.bipush 8, 2) := by decide +kernel
theorem dX6_wrong_13 : decode cX6_wrong 13 = .ok (.idiv, 1) := by decide +kernel
theorem dX6_wrong_14 : decode cX6_wrong 14 = .ok (.iload_n 3, 1) := by decide +kernel
theorem dX6_wrong_15 : decode cX6_wrong 15 = .ok (.bipush 8, 2) := by decide +kernel
theorem dX6_wrong_17 : decode cX6_wrong 17 = .ok (.irem, 1) := by decide +kernel
theorem dX6_wrong_18 : decode cX6_wrong 18 = .ok (.if_icmp .ge 38, 3) := by decide +kernel
theorem dX6_wrong_21 : decode cX6_wrong 21 = .ok (.aload_n 0, 1) := by decide +kernel
theorem dX6_wrong_22 : decode cX6_wrong 22 = .ok (.iload_n 3, 1) := by decide +kernel
theorem dX6_wrong_23 : decode cX6_wrong 23 = .ok (.bipush 8, 2) := by decide +kernel
theorem dX6_wrong_25 : decode cX6_wrong 25 = .ok (.idiv, 1) := by decide +kernel
theorem dX6_wrong_26 : decode cX6_wrong 26 = .ok (.invokevirtual 94, 3) := by decide +kernel
theorem dX6_wrong_29 : decode cX6_wrong 29 = .ok (.iconst (-1), 1) := by decide +kernel
theorem dX6_wrong_30 : decode cX6_wrong 30 = .ok (.if_icmp .eq 26, 3) := by decide +kernel
theorem dX6_wrong_33 : decode cX6_wrong 33 = .ok (.aload_n 0, 1) := by decide +kernel
theorem dX6_wrong_34 : decode cX6_wrong 34 = .ok (.iload_n 3, 1) := by decide +kernel
theorem dX6_wrong_35 : decode cX6_wrong 35 = .ok (.bipush 8, 2) := by decide +kernel
theorem dX6_wrong_37 : decode cX6_wrong 37 = .ok (.idiv, 1) := by decide +kernel
theorem dX6_wrong_38 : decode cX6_wrong 38 = .ok (.invokevirtual 94, 3) := by decide +kernel
theorem dX6_wrong_41 : decode cX6_wrong 41 = .ok (.aload_n 0, 1) := by decide +kernel
theorem dX6_wrong_42 : decode cX6_wrong 42 = .ok (.iload_n 3, 1) := by decide +kernel
theorem dX6_wrong_43 : decode cX6_wrong 43 = .ok (.bipush 8, 2) := by decide +kernel
theorem dX6_wrong_45 : decode cX6_wrong 45 = .ok (.irem, 1) := by decide +kernel
theorem dX6_wrong_46 : decode cX6_wrong 46 = .ok (.invokevirtual 94, 3) := by decide +kernel
theorem dX6_wrong_49 : decode cX6_wrong 49 = .ok (.if_icmp .ne 7, 3) := by decide +kernel
theorem dX6_wrong_52 : decode cX6_wrong 52 = .ok (.iconst 1, 1) := by decide +kernel
theorem dX6_wrong_53 : decode cX6_wrong 53 = .ok (.goto 4, 3) := by decide +kernel
theorem dX6_wrong_56 : decode cX6_wrong 56 = .ok (.iconst 0, 1) := by decide +kernel
theorem dX6_wrong_57 : decode cX6_wrong 57 = .ok (.istore 4, 2) := by decide +kernel
theorem dX6_wrong_59 : decode cX6_wrong 59 = .ok (.iload_n 2, 1) := by decide +kernel
theorem dX6_wrong_60 : decode cX6_wrong 60 = .ok (.iload 4, 2) := by decide +kernel
theorem dX6_wrong_62 : decode cX6_wrong 62 = .ok (.ifCond .eq 23, 3) := by decide +kernel
theorem dX6_wrong_65 : decode cX6_wrong 65 = .ok (.aload_n 0, 1) := by decide +kernel
theorem dX6_wrong_66 : decode cX6_wrong 66 = .ok (.iload_n 1, 1) := by decide +kernel
theorem dX6_wrong_67 : decode cX6_wrong 67 = .ok (.iload_n 3, 1) := by decide +kernel
theorem dX6_wrong_68 : decode cX6_wrong 68 = .ok (.bipush 8, 2) := by decide +kernel
theorem dX6_wrong_70 : decode cX6_wrong 70 = .ok (.idiv, 1) := by decide +kernel
theorem dX6_wrong_71 : decode cX6_wrong 71 = .ok (.iload_n 3, 1) := by decide +kernel
theorem dX6_wrong_72 : decode cX6_wrong 72 = .ok (.bipush 8, 2) := by decide +kernel
theorem dX6_wrong_74 : decode cX6_wrong 74 = .ok (.irem, 1) := by decide +kernel
theorem dX6_wrong_75 : decode cX6_wrong 75 = .ok (.invokevirtual 97, 3) := by decide +kernel
theorem dX6_wrong_78 : decode cX6_wrong 78 = .ok (.ifCond .eq 7, 3) := by decide +kernel
theorem dX6_wrong_81 : decode cX6_wrong 81 = .ok (.iconst 1, 1) := by decide +kernel
theorem dX6_wrong_82 : decode cX6_wrong 82 = .ok (.goto 4, 3) := by decide +kernel
theorem dX6_wrong_85 : decode cX6_wrong 85 = .ok (.iconst 0, 1) := by decide +kernel
theorem dX6_wrong_86 : decode cX6_wrong 86 = .ok (.iadd, 1) := by decide +kernel
theorem dX6_wrong_87 : decode cX6_wrong 87 = .ok (.istore_n 2, 1) := by decide +kernel
theorem dX6_wrong_88 : decode cX6_wrong 88 = .ok (.iinc 3 1, 3) := by decide +kernel
theorem dX6_wrong_91 : decode cX6_wrong 91 = .ok (.goto (-87), 3) := by decide +kernel
theorem dX6_wrong_94 : decode cX6_wrong 94 = .ok (.iload_n 2, 1) := by decide +kernel
theorem dX6_wrong_95 : decode cX6_wrong 95 = .ok (.ireturn, 1) := by decide +kernel
set_option maxRecDepth 20000 in
theorem ggX6_chartsRead_X6_reads : GoodIn wsX6_chartsRead wsX6_reads := goodIn_r _ [6, 7, 8, 9, 5, 10, 1, 11, 12, 13, 14, 15, 16, 17, 18, 19, 20, 21, 22, 23, 24, 25, 26, 27, 28, 29, 30, 31, 32, 33, 34, 35, 36, 37, 38, 39, 40, 41, 42, 43, 44, 45, 46, 47, 48, 49, 50, 51] (by decide +kernel) (by decide +kernel)
set_option maxRecDepth 20000 in
theorem gX6_chartsRead_X6_reads : GoodIn wsX6_chartsRead (wsV RX6 110 RX6 yX6_reads wsX6_reads) := goodIn_app (goodIn_of _ (by decide +kernel)) ggX6_chartsRead_X6_reads
theorem dX6_chartsRead_0 : decode cX6_chartsRead 0 = .ok (.iconst 0, 1) := by decide +kernel
theorem dX6_chartsRead_1 : decode cX6_chartsRead 1 = .ok (.istore_n 2, 1) := by decide +kernel
theorem dX6_chartsRead_2 : decode cX6_chartsRead 2 = .ok (.iconst 0, 1) := by decide +kernel
theorem dX6_chartsRead_3 : decode cX6_chartsRead 3 = .ok (.istore_n 3, 1) := by decide +kernel
theorem dX6_chartsRead_4 : decode cX6_chartsRead 4 = .ok (.iload_n 3, 1) := by decide +kernel
theorem dX6_chartsRead_5 : decode cX6_chartsRead 5 = .ok (.aload_n 0, 1) := by decide +kernel
theorem dX6_chartsRead_6 : decode cX6_chartsRead 6 = .ok (.getfield 7, 3) := by decide +kernel
theorem dX6_chartsRead_9 : decode cX6_chartsRead 9 = .ok (.bipush 44, 2) := by decide +kernel
theorem dX6_chartsRead_11 : decode cX6_chartsRead 11 = .ok (.iaload, 1) := by decide +kernel
theorem dX6_chartsRead_12 : decode cX6_chartsRead 12 = .ok (.if_icmp .ge 26, 3) := by decide +kernel
theorem dX6_chartsRead_15 : decode cX6_chartsRead 15 = .ok (.iload_n 2, 1) := by decide +kernel
theorem dX6_chartsRead_16 : decode cX6_chartsRead 16 = .ok (.aload_n 0, 1) := by decide +kernel
theorem dX6_chartsRead_17 : decode cX6_chartsRead 17 = .ok (.iload_n 1, 1) := by decide +kernel
theorem dX6_chartsRead_18 : decode cX6_chartsRead 18 = .ok (.iload_n 3, 1) := by decide +kernel
theorem dX6_chartsRead_19 : decode cX6_chartsRead 19 = .ok (.invokevirtual 110, 3) := by decide +kernel
theorem dX6_chartsRead_22 : decode cX6_chartsRead 22 = .ok (.ifCond .eq 7, 3) := by decide +kernel
theorem dX6_chartsRead_25 : decode cX6_chartsRead 25 = .ok (.iconst 1, 1) := by decide +kernel
theorem dX6_chartsRead_26 : decode cX6_chartsRead 26 = .ok (.goto 4, 3) := by decide +kernel
theorem dX6_chartsRead_29 : decode cX6_chartsRead 29 = .ok (.iconst 0, 1) := by decide +kernel
theorem dX6_chartsRead_30 : decode cX6_chartsRead 30 = .ok (.iadd, 1) := by decide +kernel
theorem dX6_chartsRead_31 : decode cX6_chartsRead 31 = .ok (.istore_n 2, 1) := by decide +kernel
theorem dX6_chartsRead_32 : decode cX6_chartsRead 32 = .ok (.iinc 3 1, 3) := by decide +kernel
theorem dX6_chartsRead_35 : decode cX6_chartsRead 35 = .ok (.goto (-31), 3) := by decide +kernel
theorem dX6_chartsRead_38 : decode cX6_chartsRead 38 = .ok (.iload_n 2, 1) := by decide +kernel
theorem dX6_chartsRead_39 : decode cX6_chartsRead 39 = .ok (.ireturn, 1) := by decide +kernel
set_option maxRecDepth 20000 in
theorem ggX6_ofPainter_X6_at : GoodIn wsX6_ofPainter wsX6_at := goodIn_r _ [5] (by decide +kernel) (by decide +kernel)
set_option maxRecDepth 20000 in
theorem gX6_ofPainter_X6_at : GoodIn wsX6_ofPainter (va_wsS RX6 27 yX6_at wsX6_at) := goodIn_app (goodIn_of _ (by decide +kernel)) ggX6_ofPainter_X6_at
set_option maxRecDepth 20000 in
theorem ggX6_ofPainter_X6_pairs : GoodIn wsX6_ofPainter wsX6_pairs := goodIn_r _ [9, 1, 2, 3, 4, 5, 10, 11, 12, 13, 14, 15, 16, 17, 18, 19, 20, 21, 22, 23, 24, 25, 26, 27, 28, 29, 30, 31, 60, 61, 62, 63, 64, 65, 66, 67, 68, 69, 70, 71] (by decide +kernel) (by decide +kernel)
set_option maxRecDepth 20000 in
theorem gX6_ofPainter_X6_pairs : GoodIn wsX6_ofPainter (wsV RX6 136 RX6 yX6_pairs wsX6_pairs) := goodIn_app (goodIn_of _ (by decide +kernel)) ggX6_ofPainter_X6_pairs
set_option maxRecDepth 20000 in
theorem ggX6_ofPainter_X6_wrong : GoodIn wsX6_ofPainter wsX6_wrong := goodIn_r _ [35, 36, 37, 38, 4, 39, 1, 40, 41, 42, 43, 2, 3, 5, 14, 15, 16, 17, 18, 19, 20, 21, 22, 23, 24, 25, 26, 27, 28, 29, 30, 31, 60, 61, 62, 63, 64, 65, 66, 67, 68, 69, 70, 71] (by decide +kernel) (by decide +kernel)
set_option maxRecDepth 20000 in
theorem gX6_ofPainter_X6_wrong : GoodIn wsX6_ofPainter (wsV RX6 154 RX6 yX6_wrong wsX6_wrong) := goodIn_app (goodIn_of _ (by decide +kernel)) ggX6_ofPainter_X6_wrong
set_option maxRecDepth 20000 in
theorem ggX6_ofPainter_X6_chartsRead : GoodIn wsX6_ofPainter wsX6_chartsRead := goodIn_r _ [47, 1, 48, 49, 50, 4, 51, 52, 53, 54, 55, 56, 57, 58, 59, 40, 41, 42, 43, 2, 3, 5, 14, 15, 16, 17, 18, 19, 20, 21, 22, 23, 24, 25, 26, 27, 28, 29, 30, 31, 60, 61, 62, 63, 64, 65, 66, 67, 68, 69, 70, 71] (by decide +kernel) (by decide +kernel)
set_option maxRecDepth 20000 in
theorem gX6_ofPainter_X6_chartsRead : GoodIn wsX6_ofPainter (wsV RX6 157 RX6 yX6_chartsRead wsX6_chartsRead) := goodIn_app (goodIn_of _ (by decide +kernel)) ggX6_ofPainter_X6_chartsRead
theorem dX6_ofPainter_0 : decode cX6_ofPainter 0 = .ok (.iload_n 2, 1) := by decide +kernel
theorem dX6_ofPainter_1 : decode cX6_ofPainter 1 = .ok (.tableswitch 77 0 5 #[39, 39, 39, 51, 57, 63], 39) := by decide +kernel
theorem dX6_ofPainter_40 : decode cX6_ofPainter 40 = .ok (.aload_n 0, 1) := by decide +kernel
theorem dX6_ofPainter_41 : decode cX6_ofPainter 41 = .ok (.getfield 7, 3) := by decide +kernel
theorem dX6_ofPainter_44 : decode cX6_ofPainter 44 = .ok (.iload_n 1, 1) := by decide +kernel
theorem dX6_ofPainter_45 : decode cX6_ofPainter 45 = .ok (.invokestatic 27, 3) := by decide +kernel
theorem dX6_ofPainter_48 : decode cX6_ofPainter 48 = .ok (.iload_n 2, 1) := by decide +kernel
theorem dX6_ofPainter_49 : decode cX6_ofPainter 49 = .ok (.iadd, 1) := by decide +kernel
theorem dX6_ofPainter_50 : decode cX6_ofPainter 50 = .ok (.iaload, 1) := by decide +kernel
theorem dX6_ofPainter_51 : decode cX6_ofPainter 51 = .ok (.ireturn, 1) := by decide +kernel
theorem dX6_ofPainter_52 : decode cX6_ofPainter 52 = .ok (.aload_n 0, 1) := by decide +kernel
theorem dX6_ofPainter_53 : decode cX6_ofPainter 53 = .ok (.iload_n 1, 1) := by decide +kernel
theorem dX6_ofPainter_54 : decode cX6_ofPainter 54 = .ok (.invokevirtual 136, 3) := by decide +kernel
theorem dX6_ofPainter_57 : decode cX6_ofPainter 57 = .ok (.ireturn, 1) := by decide +kernel
theorem dX6_ofPainter_58 : decode cX6_ofPainter 58 = .ok (.aload_n 0, 1) := by decide +kernel
theorem dX6_ofPainter_59 : decode cX6_ofPainter 59 = .ok (.iload_n 1, 1) := by decide +kernel
theorem dX6_ofPainter_60 : decode cX6_ofPainter 60 = .ok (.invokevirtual 154, 3) := by decide +kernel
theorem dX6_ofPainter_63 : decode cX6_ofPainter 63 = .ok (.ireturn, 1) := by decide +kernel
theorem dX6_ofPainter_64 : decode cX6_ofPainter 64 = .ok (.aload_n 0, 1) := by decide +kernel
theorem dX6_ofPainter_65 : decode cX6_ofPainter 65 = .ok (.iload_n 1, 1) := by decide +kernel
theorem dX6_ofPainter_66 : decode cX6_ofPainter 66 = .ok (.invokevirtual 154, 3) := by decide +kernel
theorem dX6_ofPainter_69 : decode cX6_ofPainter 69 = .ok (.ifCond .ne 7, 3) := by decide +kernel
theorem dX6_ofPainter_72 : decode cX6_ofPainter 72 = .ok (.iconst 1, 1) := by decide +kernel
theorem dX6_ofPainter_73 : decode cX6_ofPainter 73 = .ok (.goto 4, 3) := by decide +kernel
theorem dX6_ofPainter_76 : decode cX6_ofPainter 76 = .ok (.iconst 0, 1) := by decide +kernel
theorem dX6_ofPainter_77 : decode cX6_ofPainter 77 = .ok (.ireturn, 1) := by decide +kernel
theorem dX6_ofPainter_78 : decode cX6_ofPainter 78 = .ok (.aload_n 0, 1) := by decide +kernel
theorem dX6_ofPainter_79 : decode cX6_ofPainter 79 = .ok (.iload_n 1, 1) := by decide +kernel
theorem dX6_ofPainter_80 : decode cX6_ofPainter 80 = .ok (.invokevirtual 157, 3) := by decide +kernel
theorem dX6_ofPainter_83 : decode cX6_ofPainter 83 = .ok (.ireturn, 1) := by decide +kernel
set_option maxRecDepth 20000 in
theorem ggX6_painterOf_X6_isPainter : GoodIn wsX6_painterOf wsX6_isPainter := goodIn_r _ [4, 5, 6, 3, 7] (by decide +kernel) (by decide +kernel)
set_option maxRecDepth 20000 in
theorem gX6_painterOf_X6_isPainter : GoodIn wsX6_painterOf (va_wsS RX6 91 yX6_isPainter wsX6_isPainter) := goodIn_app (goodIn_of _ (by decide +kernel)) ggX6_painterOf_X6_isPainter
set_option maxRecDepth 20000 in
theorem ggX6_painterOf_X6_in : GoodIn wsX6_painterOf wsX6_in := goodIn_r _ [7] (by decide +kernel) (by decide +kernel)
set_option maxRecDepth 20000 in
theorem gX6_painterOf_X6_in : GoodIn wsX6_painterOf (va_wsS RX6 45 yX6_in wsX6_in) := goodIn_app (goodIn_of _ (by decide +kernel)) ggX6_painterOf_X6_in
set_option maxRecDepth 20000 in
theorem ggX6_painterOf_X6_goes : GoodIn wsX6_painterOf wsX6_goes := goodIn_r _ [11, 12, 75, 76, 77, 78, 79, 80, 81, 82, 83, 84, 85, 86] (by decide +kernel) (by decide +kernel)
set_option maxRecDepth 20000 in
theorem gX6_painterOf_X6_goes : GoodIn wsX6_painterOf (wsV RX6 84 RX6 yX6_goes wsX6_goes) := goodIn_app (goodIn_of _ (by decide +kernel)) ggX6_painterOf_X6_goes
set_option maxRecDepth 20000 in
theorem ggX6_painterOf_X6_ofPainter : GoodIn wsX6_painterOf wsX6_ofPainter := goodIn_r _ [16, 17, 18, 19, 3, 20, 21, 22, 23, 24, 25, 26, 27, 28, 29, 30, 31, 32, 33, 34, 35, 36, 37, 38, 39, 40, 41, 42, 43, 44, 45, 46, 47, 48, 49, 50, 51, 52, 53, 54, 55, 56, 57, 58, 59, 60, 61, 62, 63, 64, 65, 66, 67, 68, 69, 70, 71, 72, 73, 74, 75, 76, 77, 78, 79, 80, 81, 82, 83, 84, 85, 86] (by decide +kernel) (by decide +kernel)
set_option maxRecDepth 20000 in
theorem gX6_painterOf_X6_ofPainter : GoodIn wsX6_painterOf (wsV RX6 160 RX6 yX6_ofPainter wsX6_ofPainter) := goodIn_app (goodIn_of _ (by decide +kernel)) ggX6_painterOf_X6_ofPainter
theorem dX6_painterOf_0 : decode cX6_painterOf 0 = .ok (.aload_n 0, 1) := by decide +kernel
theorem dX6_painterOf_1 : decode cX6_painterOf 1 = .ok (.iload_n 1, 1) := by decide +kernel
theorem dX6_painterOf_2 : decode cX6_painterOf 2 = .ok (.invokestatic 91, 3) := by decide +kernel
theorem dX6_painterOf_5 : decode cX6_painterOf 5 = .ok (.iload_n 2, 1) := by decide +kernel
theorem dX6_painterOf_6 : decode cX6_painterOf 6 = .ok (.iconst 0, 1) := by decide +kernel
theorem dX6_painterOf_7 : decode cX6_painterOf 7 = .ok (.bipush 6, 2) := by decide +kernel
theorem dX6_painterOf_9 : decode cX6_painterOf 9 = .ok (.invokestatic 45, 3) := by decide +kernel
theorem dX6_painterOf_12 : decode cX6_painterOf 12 = .ok (.invokevirtual 84, 3) := by decide +kernel
theorem dX6_painterOf_15 : decode cX6_painterOf 15 = .ok (.ifCond .eq 12, 3) := by decide +kernel
theorem dX6_painterOf_18 : decode cX6_painterOf 18 = .ok (.aload_n 0, 1) := by decide +kernel
theorem dX6_painterOf_19 : decode cX6_painterOf 19 = .ok (.iload_n 1, 1) := by decide +kernel
theorem dX6_painterOf_20 : decode cX6_painterOf 20 = .ok (.iload_n 2, 1) := by decide +kernel
theorem dX6_painterOf_21 : decode cX6_painterOf 21 = .ok (.invokevirtual 160, 3) := by decide +kernel
theorem dX6_painterOf_24 : decode cX6_painterOf 24 = .ok (.goto 4, 3) := by decide +kernel
theorem dX6_painterOf_27 : decode cX6_painterOf 27 = .ok (.iconst 0, 1) := by decide +kernel
theorem dX6_painterOf_28 : decode cX6_painterOf 28 = .ok (.ireturn, 1) := by decide +kernel
set_option maxRecDepth 20000 in
theorem ggX6_apart_X6_isPainter : GoodIn wsX6_apart wsX6_isPainter := goodIn_r _ [4, 5, 6, 3, 7] (by decide +kernel) (by decide +kernel)
set_option maxRecDepth 20000 in
theorem gX6_apart_X6_isPainter : GoodIn wsX6_apart (va_wsS RX6 91 yX6_isPainter wsX6_isPainter) := goodIn_app (goodIn_of _ (by decide +kernel)) ggX6_apart_X6_isPainter
set_option maxRecDepth 20000 in
theorem ggX6_apart_X6_isPot : GoodIn wsX6_apart wsX6_isPot := goodIn_r _ [10, 5, 6, 3, 7] (by decide +kernel) (by decide +kernel)
set_option maxRecDepth 20000 in
theorem gX6_apart_X6_isPot : GoodIn wsX6_apart (va_wsS RX6 80 yX6_isPot wsX6_isPot) := goodIn_app (goodIn_of _ (by decide +kernel)) ggX6_apart_X6_isPot
set_option maxRecDepth 20000 in
theorem ggX6_apart_X6_goes : GoodIn wsX6_apart wsX6_goes := goodIn_r _ [14, 15, 42, 43, 44, 45, 46, 47, 48, 49, 50, 51, 52, 53] (by decide +kernel) (by decide +kernel)
set_option maxRecDepth 20000 in
theorem gX6_apart_X6_goes : GoodIn wsX6_apart (wsV RX6 84 RX6 yX6_goes wsX6_goes) := goodIn_app (goodIn_of _ (by decide +kernel)) ggX6_apart_X6_goes
set_option maxRecDepth 20000 in
theorem ggX6_apart_X6_areApart : GoodIn wsX6_apart wsX6_areApart := goodIn_r _ [19, 20, 21, 22, 3, 23, 24, 25, 26, 27, 28, 29, 30, 31, 32, 33, 34, 35, 36, 37, 38, 39, 40, 41, 42, 43, 44, 45, 46, 47, 48, 49, 50, 51, 52, 53] (by decide +kernel) (by decide +kernel)
set_option maxRecDepth 20000 in
theorem gX6_apart_X6_areApart : GoodIn wsX6_apart (wsV RX6 97 RX6 yX6_areApart wsX6_areApart) := goodIn_app (goodIn_of _ (by decide +kernel)) ggX6_apart_X6_areApart
theorem dX6_apart_0 : decode cX6_apart 0 = .ok (.aload_n 0, 1) := by decide +kernel
theorem dX6_apart_1 : decode cX6_apart 1 = .ok (.iload_n 1, 1) := by decide +kernel
theorem dX6_apart_2 : decode cX6_apart 2 = .ok (.invokestatic 91, 3) := by decide +kernel
theorem dX6_apart_5 : decode cX6_apart 5 = .ok (.ifCond .eq 21, 3) := by decide +kernel
theorem dX6_apart_8 : decode cX6_apart 8 = .ok (.iload_n 2, 1) := by decide +kernel
theorem dX6_apart_9 : decode cX6_apart 9 = .ok (.invokestatic 80, 3) := by decide +kernel
theorem dX6_apart_12 : decode cX6_apart 12 = .ok (.ifCond .eq 14, 3) := by decide +kernel
theorem dX6_apart_15 : decode cX6_apart 15 = .ok (.iload_n 3, 1) := by decide +kernel
theorem dX6_apart_16 : decode cX6_apart 16 = .ok (.invokestatic 80, 3) := by decide +kernel
theorem dX6_apart_19 : decode cX6_apart 19 = .ok (.ifCond .eq 7, 3) := by decide +kernel
theorem dX6_apart_22 : decode cX6_apart 22 = .ok (.iconst 1, 1) := by decide +kernel
theorem dX6_apart_23 : decode cX6_apart 23 = .ok (.goto 4, 3) := by decide +kernel
theorem dX6_apart_26 : decode cX6_apart 26 = .ok (.iconst 0, 1) := by decide +kernel
theorem dX6_apart_27 : decode cX6_apart 27 = .ok (.iconst 1, 1) := by decide +kernel
theorem dX6_apart_28 : decode cX6_apart 28 = .ok (.invokevirtual 84, 3) := by decide +kernel
theorem dX6_apart_31 : decode cX6_apart 31 = .ok (.ifCond .eq 17, 3) := by decide +kernel
theorem dX6_apart_34 : decode cX6_apart 34 = .ok (.aload_n 0, 1) := by decide +kernel
theorem dX6_apart_35 : decode cX6_apart 35 = .ok (.iload_n 1, 1) := by decide +kernel
theorem dX6_apart_36 : decode cX6_apart 36 = .ok (.iload_n 2, 1) := by decide +kernel
theorem dX6_apart_37 : decode cX6_apart 37 = .ok (.iload_n 3, 1) := by decide +kernel
theorem dX6_apart_38 : decode cX6_apart 38 = .ok (.invokevirtual 97, 3) := by decide +kernel
theorem dX6_apart_41 : decode cX6_apart 41 = .ok (.ifCond .eq 7, 3) := by decide +kernel
theorem dX6_apart_44 : decode cX6_apart 44 = .ok (.iconst 1, 1) := by decide +kernel
theorem dX6_apart_45 : decode cX6_apart 45 = .ok (.goto 4, 3) := by decide +kernel
theorem dX6_apart_48 : decode cX6_apart 48 = .ok (.iconst 0, 1) := by decide +kernel
theorem dX6_apart_49 : decode cX6_apart 49 = .ok (.ireturn, 1) := by decide +kernel
set_option maxRecDepth 20000 in
theorem ggX6_ofChart_X6_figure : GoodIn wsX6_ofChart wsX6_figure := goodIn_r _ [5, 6, 44, 45, 46, 47, 48, 49, 50, 51, 52, 53, 54, 55] (by decide +kernel) (by decide +kernel)
set_option maxRecDepth 20000 in
theorem gX6_ofChart_X6_figure : GoodIn wsX6_ofChart (wsV RX6 104 RX6 yX6_figure wsX6_figure) := goodIn_app (goodIn_of _ (by decide +kernel)) ggX6_ofChart_X6_figure
set_option maxRecDepth 20000 in
theorem ggX6_ofChart_X6_ground : GoodIn wsX6_ofChart wsX6_ground := goodIn_r _ [10, 6, 44, 45, 46, 47, 48, 49, 50, 51, 52, 53, 54, 55] (by decide +kernel) (by decide +kernel)
set_option maxRecDepth 20000 in
theorem gX6_ofChart_X6_ground : GoodIn wsX6_ofChart (wsV RX6 107 RX6 yX6_ground wsX6_ground) := goodIn_app (goodIn_of _ (by decide +kernel)) ggX6_ofChart_X6_ground
set_option maxRecDepth 20000 in
theorem ggX6_ofChart_X6_readers : GoodIn wsX6_ofChart wsX6_readers := goodIn_r _ [14, 15, 16, 17, 4, 18, 1, 2, 3, 5, 6, 7, 8, 9, 10, 19, 20, 21, 22, 23, 24, 25, 26, 27, 28, 29, 30, 31, 32, 33, 34, 35, 36, 37, 38, 39, 40, 41, 42, 43, 44, 45, 46, 47, 48, 49, 50, 51, 52, 53, 54, 55] (by decide +kernel) (by decide +kernel)
set_option maxRecDepth 20000 in
theorem gX6_ofChart_X6_readers : GoodIn wsX6_ofChart (wsV RX6 117 RX6 yX6_readers wsX6_readers) := goodIn_app (goodIn_of _ (by decide +kernel)) ggX6_ofChart_X6_readers
theorem dX6_ofChart_0 : decode cX6_ofChart 0 = .ok (.iload_n 2, 1) := by decide +kernel
theorem dX6_ofChart_1 : decode cX6_ofChart 1 = .ok (.ifCond .ne 11, 3) := by decide +kernel
theorem dX6_ofChart_4 : decode cX6_ofChart 4 = .ok (.aload_n 0, 1) := by decide +kernel
theorem dX6_ofChart_5 : decode cX6_ofChart 5 = .ok (.iload_n 1, 1) := by decide +kernel
theorem dX6_ofChart_6 : decode cX6_ofChart 6 = .ok (.invokevirtual 104, 3) := by decide +kernel
theorem dX6_ofChart_9 : decode cX6_ofChart 9 = .ok (.goto 21, 3) := by decide +kernel
theorem dX6_ofChart_12 : decode cX6_ofChart 12 = .ok (.iload_n 2, 1) := by decide +kernel
theorem dX6_ofChart_13 : decode cX6_ofChart 13 = .ok (.iconst 1, 1) := by decide +kernel
theorem dX6_ofChart_14 : decode cX6_ofChart 14 = .ok (.if_icmp .ne 11, 3) := by decide +kernel
theorem dX6_ofChart_17 : decode cX6_ofChart 17 = .ok (.aload_n 0, 1) := by decide +kernel
theorem dX6_ofChart_18 : decode cX6_ofChart 18 = .ok (.iload_n 1, 1) := by decide +kernel
theorem dX6_ofChart_19 : decode cX6_ofChart 19 = .ok (.invokevirtual 107, 3) := by decide +kernel
theorem dX6_ofChart_22 : decode cX6_ofChart 22 = .ok (.goto 8, 3) := by decide +kernel
theorem dX6_ofChart_25 : decode cX6_ofChart 25 = .ok (.aload_n 0, 1) := by decide +kernel
theorem dX6_ofChart_26 : decode cX6_ofChart 26 = .ok (.iload_n 1, 1) := by decide +kernel
theorem dX6_ofChart_27 : decode cX6_ofChart 27 = .ok (.invokevirtual 117, 3) := by decide +kernel
theorem dX6_ofChart_30 : decode cX6_ofChart 30 = .ok (.ireturn, 1) := by decide +kernel
set_option maxRecDepth 20000 in
theorem ggX6_chartOf_X6_isChart : GoodIn wsX6_chartOf wsX6_isChart := goodIn_r _ [5, 6, 7, 8, 4, 9, 60, 61, 62, 63, 64, 65, 66, 67, 68, 69, 70, 71] (by decide +kernel) (by decide +kernel)
set_option maxRecDepth 20000 in
theorem gX6_chartOf_X6_isChart : GoodIn wsX6_chartOf (wsV RX6 114 RX6 yX6_isChart wsX6_isChart) := goodIn_app (goodIn_of _ (by decide +kernel)) ggX6_chartOf_X6_isChart
set_option maxRecDepth 20000 in
theorem ggX6_chartOf_X6_in : GoodIn wsX6_chartOf wsX6_in := goodIn_r _ [9] (by decide +kernel) (by decide +kernel)
set_option maxRecDepth 20000 in
theorem gX6_chartOf_X6_in : GoodIn wsX6_chartOf (va_wsS RX6 45 yX6_in wsX6_in) := goodIn_app (goodIn_of _ (by decide +kernel)) ggX6_chartOf_X6_in
set_option maxRecDepth 20000 in
theorem ggX6_chartOf_X6_goes : GoodIn wsX6_chartOf wsX6_goes := goodIn_r _ [13, 14, 60, 61, 62, 63, 64, 65, 66, 67, 68, 69, 70, 71] (by decide +kernel) (by decide +kernel)
set_option maxRecDepth 20000 in
theorem gX6_chartOf_X6_goes : GoodIn wsX6_chartOf (wsV RX6 84 RX6 yX6_goes wsX6_goes) := goodIn_app (goodIn_of _ (by decide +kernel)) ggX6_chartOf_X6_goes
set_option maxRecDepth 20000 in
theorem ggX6_chartOf_X6_ofChart : GoodIn wsX6_chartOf wsX6_ofChart := goodIn_r _ [18, 19, 20, 21, 4, 22, 6, 23, 24, 25, 26, 27, 28, 29, 30, 31, 32, 33, 34, 35, 36, 37, 38, 39, 40, 41, 42, 43, 44, 45, 46, 47, 48, 49, 50, 51, 52, 53, 54, 55, 56, 57, 58, 59, 60, 61, 62, 63, 64, 65, 66, 67, 68, 69, 70, 71] (by decide +kernel) (by decide +kernel)
set_option maxRecDepth 20000 in
theorem gX6_chartOf_X6_ofChart : GoodIn wsX6_chartOf (wsV RX6 163 RX6 yX6_ofChart wsX6_ofChart) := goodIn_app (goodIn_of _ (by decide +kernel)) ggX6_chartOf_X6_ofChart
theorem dX6_chartOf_0 : decode cX6_chartOf 0 = .ok (.aload_n 0, 1) := by decide +kernel
theorem dX6_chartOf_1 : decode cX6_chartOf 1 = .ok (.aload_n 0, 1) := by decide +kernel
theorem dX6_chartOf_2 : decode cX6_chartOf 2 = .ok (.iload_n 1, 1) := by decide +kernel
theorem dX6_chartOf_3 : decode cX6_chartOf 3 = .ok (.invokevirtual 114, 3) := by decide +kernel
theorem dX6_chartOf_6 : decode cX6_chartOf 6 = .ok (.iload_n 2, 1) := by decide +kernel
theorem dX6_chartOf_7 : decode cX6_chartOf 7 = .ok (.iconst 0, 1) := by decide +kernel
theorem dX6_chartOf_8 : decode cX6_chartOf 8 = .ok (.iconst 2, 1) := by decide +kernel
theorem dX6_chartOf_9 : decode cX6_chartOf 9 = .ok (.invokestatic 45, 3) := by decide +kernel
theorem dX6_chartOf_12 : decode cX6_chartOf 12 = .ok (.invokevirtual 84, 3) := by decide +kernel
theorem dX6_chartOf_15 : decode cX6_chartOf 15 = .ok (.ifCond .eq 12, 3) := by decide +kernel
theorem dX6_chartOf_18 : decode cX6_chartOf 18 = .ok (.aload_n 0, 1) := by decide +kernel
theorem dX6_chartOf_19 : decode cX6_chartOf 19 = .ok (.iload_n 1, 1) := by decide +kernel
theorem dX6_chartOf_20 : decode cX6_chartOf 20 = .ok (.iload_n 2, 1) := by decide +kernel
theorem dX6_chartOf_21 : decode cX6_chartOf 21 = .ok (.invokevirtual 163, 3) := by decide +kernel
theorem dX6_chartOf_24 : decode cX6_chartOf 24 = .ok (.goto 4, 3) := by decide +kernel
theorem dX6_chartOf_27 : decode cX6_chartOf 27 = .ok (.iconst 0, 1) := by decide +kernel
theorem dX6_chartOf_28 : decode cX6_chartOf 28 = .ok (.ireturn, 1) := by decide +kernel
set_option maxRecDepth 20000 in
theorem ggX6_alikeToAll_X6_areApart : GoodIn wsX6_alikeToAll wsX6_areApart := goodIn_r _ [5, 6, 7, 8, 4, 9, 10, 11, 12, 13, 14, 15, 16, 17, 18, 19, 20, 21, 22, 23, 24, 25, 26, 27, 28, 29, 30, 31, 32, 33, 34, 35, 36, 37, 38, 39] (by decide +kernel) (by decide +kernel)
set_option maxRecDepth 20000 in
theorem gX6_alikeToAll_X6_areApart : GoodIn wsX6_alikeToAll (wsV RX6 97 RX6 yX6_areApart wsX6_areApart) := goodIn_app (goodIn_of _ (by decide +kernel)) ggX6_alikeToAll_X6_areApart
theorem dX6_alikeToAll_0 : decode cX6_alikeToAll 0 = .ok (.iconst 0, 1) := by decide +kernel
theorem dX6_alikeToAll_1 : decode cX6_alikeToAll 1 = .ok (.istore_n 1, 1) := by decide +kernel
theorem dX6_alikeToAll_2 : decode cX6_alikeToAll 2 = .ok (.iconst 0, 1) := by decide +kernel
theorem dX6_alikeToAll_3 : decode cX6_alikeToAll 3 = .ok (.istore_n 2, 1) := by decide +kernel
theorem dX6_alikeToAll_4 : decode cX6_alikeToAll 4 = .ok (.iload_n 2, 1) := by decide +kernel
theorem dX6_alikeToAll_5 : decode cX6_alikeToAll 5 = .ok (.bipush 64, 2) := by decide +kernel
theorem dX6_alikeToAll_7 : decode cX6_alikeToAll 7 = .ok (.if_icmp .ge 80, 3) := by decide +kernel
theorem dX6_alikeToAll_10 : decode cX6_alikeToAll 10 = .ok (.iload_n 2, 1) := by decide +kernel
theorem dX6_alikeToAll_11 : decode cX6_alikeToAll 11 = .ok (.bipush 8, 2) := by decide +kernel
theorem dX6_alikeToAll_13 : decode cX6_alikeToAll 13 = .ok (.idiv, 1) := by decide +kernel
theorem dX6_alikeToAll_14 : decode cX6_alikeToAll 14 = .ok (.iload_n 2, 1) := by decide +kernel
theorem dX6_alikeToAll_15 : decode cX6_alikeToAll 15 = .ok (.bipush 8, 2) := by decide +kernel
theorem dX6_alikeToAll_17 : decode cX6_alikeToAll 17 = .ok (.irem, 1) := by decide +kernel
theorem dX6_alikeToAll_18 : decode cX6_alikeToAll 18 = .ok (.if_icmp .lt 7, 3) := by decide +kernel
theorem dX6_alikeToAll_21 : decode cX6_alikeToAll 21 = .ok (.iconst 1, 1) := by decide +kernel
theorem dX6_alikeToAll_22 : decode cX6_alikeToAll 22 = .ok (.goto 4, 3) := by decide +kernel
theorem dX6_alikeToAll_25 : decode cX6_alikeToAll 25 = .ok (.iconst 0, 1) := by decide +kernel
theorem dX6_alikeToAll_26 : decode cX6_alikeToAll 26 = .ok (.istore_n 3, 1) := by decide +kernel
theorem dX6_alikeToAll_27 : decode cX6_alikeToAll 27 = .ok (.iconst 0, 1) := by decide +kernel
theorem dX6_alikeToAll_28 : decode cX6_alikeToAll 28 = .ok (.istore 4, 2) := by decide +kernel
theorem dX6_alikeToAll_30 : decode cX6_alikeToAll 30 = .ok (.iload 4, 2) := by decide +kernel
theorem dX6_alikeToAll_32 : decode cX6_alikeToAll 32 = .ok (.iconst 4, 1) := by decide +kernel
theorem dX6_alikeToAll_33 : decode cX6_alikeToAll 33 = .ok (.if_icmp .ge 36, 3) := by decide +kernel
theorem dX6_alikeToAll_36 : decode cX6_alikeToAll 36 = .ok (.iload_n 3, 1) := by decide +kernel
theorem dX6_alikeToAll_37 : decode cX6_alikeToAll 37 = .ok (.ifCond .ne 20, 3) := by decide +kernel
theorem dX6_alikeToAll_40 : decode cX6_alikeToAll 40 = .ok (.aload_n 0, 1) := by decide +kernel
theorem dX6_alikeToAll_41 : decode cX6_alikeToAll 41 = .ok (.iload 4, 2) := by decide +kernel
theorem dX6_alikeToAll_43 : decode cX6_alikeToAll 43 = .ok (.iload_n 2, 1) := by decide +kernel
theorem dX6_alikeToAll_44 : decode cX6_alikeToAll 44 = .ok (.bipush 8, 2) := by decide +kernel
theorem dX6_alikeToAll_46 : decode cX6_alikeToAll 46 = .ok (.idiv, 1) := by decide +kernel
theorem dX6_alikeToAll_47 : decode cX6_alikeToAll 47 = .ok (.iload_n 2, 1) := by decide +kernel
theorem dX6_alikeToAll_48 : decode cX6_alikeToAll 48 = .ok (.bipush 8, 2) := by decide +kernel
theorem dX6_alikeToAll_50 : decode cX6_alikeToAll 50 = .ok (.irem, 1) := by decide +kernel
theorem dX6_alikeToAll_51 : decode cX6_alikeToAll 51 = .ok (.invokevirtual 97, 3) := by decide +kernel
theorem dX6_alikeToAll_54 : decode cX6_alikeToAll 54 = .ok (.ifCond .eq 7, 3) := by decide +kernel
theorem dX6_alikeToAll_57 : decode cX6_alikeToAll 57 = .ok (.iconst 1, 1) := by decide +kernel
theorem dX6_alikeToAll_58 : decode cX6_alikeToAll 58 = .ok (.goto 4, 3) := by decide +kernel
theorem dX6_alikeToAll_61 : decode cX6_alikeToAll 61 = .ok (.iconst 0, 1) := by decide +kernel
theorem dX6_alikeToAll_62 : decode cX6_alikeToAll 62 = .ok (.istore_n 3, 1) := by decide +kernel
theorem dX6_alikeToAll_63 : decode cX6_alikeToAll 63 = .ok (.iinc 4 1, 3) := by decide +kernel
theorem dX6_alikeToAll_66 : decode cX6_alikeToAll 66 = .ok (.goto (-36), 3) := by decide +kernel
theorem dX6_alikeToAll_69 : decode cX6_alikeToAll 69 = .ok (.iload_n 1, 1) := by decide +kernel
theorem dX6_alikeToAll_70 : decode cX6_alikeToAll 70 = .ok (.iload_n 3, 1) := by decide +kernel
theorem dX6_alikeToAll_71 : decode cX6_alikeToAll 71 = .ok (.ifCond .eq 7, 3) := by decide +kernel
theorem dX6_alikeToAll_74 : decode cX6_alikeToAll 74 = .ok (.iconst 0, 1) := by decide +kernel
theorem dX6_alikeToAll_75 : decode cX6_alikeToAll 75 = .ok (.goto 4, 3) := by decide +kernel
theorem dX6_alikeToAll_78 : decode cX6_alikeToAll 78 = .ok (.iconst 1, 1) := by decide +kernel
theorem dX6_alikeToAll_79 : decode cX6_alikeToAll 79 = .ok (.iadd, 1) := by decide +kernel
theorem dX6_alikeToAll_80 : decode cX6_alikeToAll 80 = .ok (.istore_n 1, 1) := by decide +kernel
theorem dX6_alikeToAll_81 : decode cX6_alikeToAll 81 = .ok (.iinc 2 1, 3) := by decide +kernel
theorem dX6_alikeToAll_84 : decode cX6_alikeToAll 84 = .ok (.goto (-80), 3) := by decide +kernel
theorem dX6_alikeToAll_87 : decode cX6_alikeToAll 87 = .ok (.iload_n 1, 1) := by decide +kernel
theorem dX6_alikeToAll_88 : decode cX6_alikeToAll 88 = .ok (.ireturn, 1) := by decide +kernel
set_option maxRecDepth 20000 in
theorem ggX6_counted_X6_labelled : GoodIn wsX6_counted wsX6_labelled := goodIn_r _ [7, 8, 9, 10, 6, 11, 1, 77, 78, 79, 80, 81, 82, 83, 84, 85, 86, 87, 88] (by decide +kernel) (by decide +kernel)
set_option maxRecDepth 20000 in
theorem gX6_counted_X6_labelled : GoodIn wsX6_counted (wsV RX6 142 RX6 yX6_labelled wsX6_labelled) := goodIn_app (goodIn_of _ (by decide +kernel)) ggX6_counted_X6_labelled
set_option maxRecDepth 20000 in
theorem ggX6_counted_X6_unlike : GoodIn wsX6_counted wsX6_unlike := goodIn_r _ [15, 8, 9, 10, 6, 11, 1, 77, 78, 79, 80, 81, 82, 83, 84, 85, 86, 87, 88] (by decide +kernel) (by decide +kernel)
set_option maxRecDepth 20000 in
theorem gX6_counted_X6_unlike : GoodIn wsX6_counted (wsV RX6 100 RX6 yX6_unlike wsX6_unlike) := goodIn_app (goodIn_of _ (by decide +kernel)) ggX6_counted_X6_unlike
set_option maxRecDepth 20000 in
theorem ggX6_counted_X6_alikeToAll : GoodIn wsX6_counted wsX6_alikeToAll := goodIn_r _ [19, 20, 21, 22, 6, 23, 1, 24, 25, 26, 27, 28, 29, 30, 31, 32, 33, 34, 35, 36, 37, 38, 39, 40, 41, 42, 43, 44, 77, 78, 79, 80, 81, 82, 83, 84, 85, 86, 87, 88] (by decide +kernel) (by decide +kernel)
set_option maxRecDepth 20000 in
theorem gX6_counted_X6_alikeToAll : GoodIn wsX6_counted (wsV RX6 166 RX6 yX6_alikeToAll wsX6_alikeToAll) := goodIn_app (goodIn_of _ (by decide +kernel)) ggX6_counted_X6_alikeToAll
set_option maxRecDepth 20000 in
theorem ggX6_counted_X6_ofPainter : GoodIn wsX6_counted wsX6_ofPainter := goodIn_r _ [48, 1, 24, 25, 6, 26, 49, 50, 51, 52, 53, 54, 55, 56, 27, 28, 29, 30, 31, 32, 33, 34, 35, 36, 37, 38, 39, 40, 41, 42, 43, 44, 57, 58, 59, 60, 8, 9, 10, 11, 20, 21, 22, 23, 61, 62, 63, 64, 65, 66, 67, 68, 69, 70, 71, 72, 73, 74, 75, 76, 77, 78, 79, 80, 81, 82, 83, 84, 85, 86, 87, 88] (by decide +kernel) (by decide +kernel)
set_option maxRecDepth 20000 in
theorem gX6_counted_X6_ofPainter : GoodIn wsX6_counted (wsV RX6 160 RX6 yX6_ofPainter wsX6_ofPainter) := goodIn_app (goodIn_of _ (by decide +kernel)) ggX6_counted_X6_ofPainter
theorem dX6_counted_0 : decode cX6_counted 0 = .ok (.iload_n 1, 1) := by decide +kernel
theorem dX6_counted_1 : decode cX6_counted 1 = .ok (.tableswitch 106 0 6 #[43, 48, 53, 61, 66, 94, 94], 43) := by decide +kernel
theorem dX6_counted_44 : decode cX6_counted 44 = .ok (.aload_n 0, 1) := by decide +kernel
theorem dX6_counted_45 : decode cX6_counted 45 = .ok (.invokevirtual 142, 3) := by decide +kernel
theorem dX6_counted_48 : decode cX6_counted 48 = .ok (.ireturn, 1) := by decide +kernel
theorem dX6_counted_49 : decode cX6_counted 49 = .ok (.aload_n 0, 1) := by decide +kernel
theorem dX6_counted_50 : decode cX6_counted 50 = .ok (.invokevirtual 100, 3) := by decide +kernel
theorem dX6_counted_53 : decode cX6_counted 53 = .ok (.ireturn, 1) := by decide +kernel
theorem dX6_counted_54 : decode cX6_counted 54 = .ok (.aload_n 0, 1) := by decide +kernel
theorem dX6_counted_55 : decode cX6_counted 55 = .ok (.getfield 7, 3) := by decide +kernel
theorem dX6_counted_58 : decode cX6_counted 58 = .ok (.bipush 44, 2) := by decide +kernel
theorem dX6_counted_60 : decode cX6_counted 60 = .ok (.iaload, 1) := by decide +kernel
theorem dX6_counted_61 : decode cX6_counted 61 = .ok (.ireturn, 1) := by decide +kernel
theorem dX6_counted_62 : decode cX6_counted 62 = .ok (.aload_n 0, 1) := by decide +kernel
theorem dX6_counted_63 : decode cX6_counted 63 = .ok (.invokevirtual 166, 3) := by decide +kernel
theorem dX6_counted_66 : decode cX6_counted 66 = .ok (.ireturn, 1) := by decide +kernel
theorem dX6_counted_67 : decode cX6_counted 67 = .ok (.aload_n 0, 1) := by decide +kernel
theorem dX6_counted_68 : decode cX6_counted 68 = .ok (.iconst 0, 1) := by decide +kernel
theorem dX6_counted_69 : decode cX6_counted 69 = .ok (.iconst 5, 1) := by decide +kernel
theorem dX6_counted_70 : decode cX6_counted 70 = .ok (.invokevirtual 160, 3) := by decide +kernel
theorem dX6_counted_73 : decode cX6_counted 73 = .ok (.aload_n 0, 1) := by decide +kernel
theorem dX6_counted_74 : decode cX6_counted 74 = .ok (.iconst 1, 1) := by decide +kernel
theorem dX6_counted_75 : decode cX6_counted 75 = .ok (.iconst 5, 1) := by decide +kernel
theorem dX6_counted_76 : decode cX6_counted 76 = .ok (.invokevirtual 160, 3) := by decide +kernel
theorem dX6_counted_79 : decode cX6_counted 79 = .ok (.iadd, 1) := by decide +kernel
theorem dX6_counted_80 : decode cX6_counted 80 = .ok (.aload_n 0, 1) := by decide +kernel
theorem dX6_counted_81 : decode cX6_counted 81 = .ok (.iconst 2, 1) := by decide +kernel
theorem dX6_counted_82 : decode cX6_counted 82 = .ok (.iconst 5, 1) := by decide +kernel
theorem dX6_counted_83 : decode cX6_counted 83 = .ok (.invokevirtual 160, 3) := by decide +kernel
theorem dX6_counted_86 : decode cX6_counted 86 = .ok (.iadd, 1) := by decide +kernel
theorem dX6_counted_87 : decode cX6_counted 87 = .ok (.aload_n 0, 1) := by decide +kernel
theorem dX6_counted_88 : decode cX6_counted 88 = .ok (.iconst 3, 1) := by decide +kernel
theorem dX6_counted_89 : decode cX6_counted 89 = .ok (.iconst 5, 1) := by decide +kernel
theorem dX6_counted_90 : decode cX6_counted 90 = .ok (.invokevirtual 160, 3) := by decide +kernel
theorem dX6_counted_93 : decode cX6_counted 93 = .ok (.iadd, 1) := by decide +kernel
theorem dX6_counted_94 : decode cX6_counted 94 = .ok (.ireturn, 1) := by decide +kernel
theorem dX6_counted_95 : decode cX6_counted 95 = .ok (.aload_n 0, 1) := by decide +kernel
theorem dX6_counted_96 : decode cX6_counted 96 = .ok (.getfield 7, 3) := by decide +kernel
theorem dX6_counted_99 : decode cX6_counted 99 = .ok (.bipush 57, 2) := by decide +kernel
theorem dX6_counted_101 : decode cX6_counted 101 = .ok (.iload_n 1, 1) := by decide +kernel
theorem dX6_counted_102 : decode cX6_counted 102 = .ok (.iadd, 1) := by decide +kernel
theorem dX6_counted_103 : decode cX6_counted 103 = .ok (.iconst 5, 1) := by decide +kernel
theorem dX6_counted_104 : decode cX6_counted 104 = .ok (.isub, 1) := by decide +kernel
theorem dX6_counted_105 : decode cX6_counted 105 = .ok (.iaload, 1) := by decide +kernel
theorem dX6_counted_106 : decode cX6_counted 106 = .ok (.ireturn, 1) := by decide +kernel
theorem dX6_counted_107 : decode cX6_counted 107 = .ok (.aload_n 0, 1) := by decide +kernel
theorem dX6_counted_108 : decode cX6_counted 108 = .ok (.getfield 35, 3) := by decide +kernel
theorem dX6_counted_111 : decode cX6_counted 111 = .ok (.ireturn, 1) := by decide +kernel
set_option maxRecDepth 20000 in
theorem ggX6_count_X6_in : GoodIn wsX6_count wsX6_in := goodIn_r _ [4] (by decide +kernel) (by decide +kernel)
set_option maxRecDepth 20000 in
theorem gX6_count_X6_in : GoodIn wsX6_count (va_wsS RX6 45 yX6_in wsX6_in) := goodIn_app (goodIn_of _ (by decide +kernel)) ggX6_count_X6_in
set_option maxRecDepth 20000 in
theorem ggX6_count_X6_goes : GoodIn wsX6_count wsX6_goes := goodIn_r _ [8, 9, 89, 90, 91, 92, 93, 94, 95, 96, 97, 98, 99, 100] (by decide +kernel) (by decide +kernel)
set_option maxRecDepth 20000 in
theorem gX6_count_X6_goes : GoodIn wsX6_count (wsV RX6 84 RX6 yX6_goes wsX6_goes) := goodIn_app (goodIn_of _ (by decide +kernel)) ggX6_count_X6_goes
set_option maxRecDepth 20000 in
theorem ggX6_count_X6_counted : GoodIn wsX6_count wsX6_counted := goodIn_r _ [13, 14, 15, 16, 17, 18, 3, 19, 20, 21, 22, 23, 24, 25, 26, 27, 28, 29, 30, 31, 32, 33, 34, 35, 36, 37, 38, 39, 40, 41, 42, 43, 44, 45, 46, 47, 48, 49, 50, 51, 52, 53, 54, 55, 56, 57, 58, 59, 60, 61, 62, 63, 64, 65, 66, 67, 68, 69, 70, 71, 72, 73, 74, 75, 76, 77, 78, 79, 80, 81, 82, 83, 84, 85, 86, 87, 88, 89, 90, 91, 92, 93, 94, 95, 96, 97, 98, 99, 100] (by decide +kernel) (by decide +kernel)
set_option maxRecDepth 20000 in
theorem gX6_count_X6_counted : GoodIn wsX6_count (wsV RX6 169 RX6 yX6_counted wsX6_counted) := goodIn_app (goodIn_of _ (by decide +kernel)) ggX6_count_X6_counted
theorem dX6_count_0 : decode cX6_count 0 = .ok (.aload_n 0, 1) := by decide +kernel
theorem dX6_count_1 : decode cX6_count 1 = .ok (.iload_n 1, 1) := by decide +kernel
theorem dX6_count_2 : decode cX6_count 2 = .ok (.iconst 0, 1) := by decide +kernel
theorem dX6_count_3 : decode cX6_count 3 = .ok (.bipush 7, 2) := by decide +kernel
theorem dX6_count_5 : decode cX6_count 5 = .ok (.invokestatic 45, 3) := by decide +kernel
theorem dX6_count_8 : decode cX6_count 8 = .ok (.iconst 1, 1) := by decide +kernel
theorem dX6_count_9 : decode cX6_count 9 = .ok (.invokevirtual 84, 3) := by decide +kernel
theorem dX6_count_12 : decode cX6_count 12 = .ok (.ifCond .eq 11, 3) := by decide +kernel
theorem dX6_count_15 : decode cX6_count 15 = .ok (.aload_n 0, 1) := by decide +kernel
theorem dX6_count_16 : decode cX6_count 16 = .ok (.iload_n 1, 1) := by decide +kernel
theorem dX6_count_17 : decode cX6_count 17 = .ok (.invokevirtual 169, 3) := by decide +kernel
theorem dX6_count_20 : decode cX6_count 20 = .ok (.goto 4, 3) := by decide +kernel
theorem dX6_count_23 : decode cX6_count 23 = .ok (.iconst 0, 1) := by decide +kernel
theorem dX6_count_24 : decode cX6_count 24 = .ok (.ireturn, 1) := by decide +kernel
set_option maxRecDepth 20000 in
theorem ggX6_isPlain_X6_areApart : GoodIn wsX6_isPlain wsX6_areApart := goodIn_r _ [5, 6, 7, 8, 4, 9, 10, 11, 12, 13, 14, 15, 16, 17, 18, 19, 20, 21, 22, 23, 24, 25, 26, 27, 28, 29, 30, 31, 32, 33, 34, 35, 36, 37, 38, 39] (by decide +kernel) (by decide +kernel)
set_option maxRecDepth 20000 in
theorem gX6_isPlain_X6_areApart : GoodIn wsX6_isPlain (wsV RX6 97 RX6 yX6_areApart wsX6_areApart) := goodIn_app (goodIn_of _ (by decide +kernel)) ggX6_isPlain_X6_areApart
theorem dX6_isPlain_0 : decode cX6_isPlain 0 = .ok (.iconst 1, 1) := by decide +kernel
theorem dX6_isPlain_1 : decode cX6_isPlain 1 = .ok (.istore_n 3, 1) := by decide +kernel
theorem dX6_isPlain_2 : decode cX6_isPlain 2 = .ok (.iconst 0, 1) := by decide +kernel
theorem dX6_isPlain_3 : decode cX6_isPlain 3 = .ok (.istore 4, 2) := by decide +kernel
theorem dX6_isPlain_5 : decode cX6_isPlain 5 = .ok (.iload 4, 2) := by decide +kernel
theorem dX6_isPlain_7 : decode cX6_isPlain 7 = .ok (.bipush 64, 2) := by decide +kernel
theorem dX6_isPlain_9 : decode cX6_isPlain 9 = .ok (.if_icmp .ge 70, 3) := by decide +kernel
theorem dX6_isPlain_12 : decode cX6_isPlain 12 = .ok (.iload_n 2, 1) := by decide +kernel
theorem dX6_isPlain_13 : decode cX6_isPlain 13 = .ok (.iload 4, 2) := by decide +kernel
theorem dX6_isPlain_15 : decode cX6_isPlain 15 = .ok (.bipush 8, 2) := by decide +kernel
theorem dX6_isPlain_17 : decode cX6_isPlain 17 = .ok (.idiv, 1) := by decide +kernel
theorem dX6_isPlain_18 : decode cX6_isPlain 18 = .ok (.ishr, 1) := by decide +kernel
theorem dX6_isPlain_19 : decode cX6_isPlain 19 = .ok (.iload_n 2, 1) := by decide +kernel
theorem dX6_isPlain_20 : decode cX6_isPlain 20 = .ok (.iload 4, 2) := by decide +kernel
theorem dX6_isPlain_22 : decode cX6_isPlain 22 = .ok (.bipush 8, 2) := by decide +kernel
theorem dX6_isPlain_24 : decode cX6_isPlain 24 = .ok (.irem, 1) := by decide +kernel
theorem dX6_isPlain_25 : decode cX6_isPlain 25 = .ok (.ishr, 1) := by decide +kernel
theorem dX6_isPlain_26 : decode cX6_isPlain 26 = .ok (.iand, 1) := by decide +kernel
theorem dX6_isPlain_27 : decode cX6_isPlain 27 = .ok (.iconst 1, 1) := by decide +kernel
theorem dX6_isPlain_28 : decode cX6_isPlain 28 = .ok (.iand, 1) := by decide +kernel
theorem dX6_isPlain_29 : decode cX6_isPlain 29 = .ok (.iconst 1, 1) := by decide +kernel
theorem dX6_isPlain_30 : decode cX6_isPlain 30 = .ok (.if_icmp .ne 7, 3) := by decide +kernel
theorem dX6_isPlain_33 : decode cX6_isPlain 33 = .ok (.iconst 1, 1) := by decide +kernel
theorem dX6_isPlain_34 : decode cX6_isPlain 34 = .ok (.goto 4, 3) := by decide +kernel
theorem dX6_isPlain_37 : decode cX6_isPlain 37 = .ok (.iconst 0, 1) := by decide +kernel
theorem dX6_isPlain_38 : decode cX6_isPlain 38 = .ok (.istore 5, 2) := by decide +kernel
theorem dX6_isPlain_40 : decode cX6_isPlain 40 = .ok (.iload_n 3, 1) := by decide +kernel
theorem dX6_isPlain_41 : decode cX6_isPlain 41 = .ok (.ifCond .eq 30, 3) := by decide +kernel
theorem dX6_isPlain_44 : decode cX6_isPlain 44 = .ok (.iload 5, 2) := by decide +kernel
theorem dX6_isPlain_46 : decode cX6_isPlain 46 = .ok (.ifCond .eq 21, 3) := by decide +kernel
theorem dX6_isPlain_49 : decode cX6_isPlain 49 = .ok (.aload_n 0, 1) := by decide +kernel
theorem dX6_isPlain_50 : decode cX6_isPlain 50 = .ok (.iload_n 1, 1) := by decide +kernel
theorem dX6_isPlain_51 : decode cX6_isPlain 51 = .ok (.iload 4, 2) := by decide +kernel
theorem dX6_isPlain_53 : decode cX6_isPlain 53 = .ok (.bipush 8, 2) := by decide +kernel
theorem dX6_isPlain_55 : decode cX6_isPlain 55 = .ok (.idiv, 1) := by decide +kernel
theorem dX6_isPlain_56 : decode cX6_isPlain 56 = .ok (.iload 4, 2) := by decide +kernel
theorem dX6_isPlain_58 : decode cX6_isPlain 58 = .ok (.bipush 8, 2) := by decide +kernel
theorem dX6_isPlain_60 : decode cX6_isPlain 60 = .ok (.irem, 1) := by decide +kernel
theorem dX6_isPlain_61 : decode cX6_isPlain 61 = .ok (.invokevirtual 97, 3) := by decide +kernel
theorem dX6_isPlain_64 : decode cX6_isPlain 64 = .ok (.ifCond .ne 7, 3) := by decide +kernel
theorem dX6_isPlain_67 : decode cX6_isPlain 67 = .ok (.iconst 1, 1) := by decide +kernel
theorem dX6_isPlain_68 : decode cX6_isPlain 68 = .ok (.goto 4, 3) := by decide +kernel
theorem dX6_isPlain_71 : decode cX6_isPlain 71 = .ok (.iconst 0, 1) := by decide +kernel
theorem dX6_isPlain_72 : decode cX6_isPlain 72 = .ok (.istore_n 3, 1) := by decide +kernel
theorem dX6_isPlain_73 : decode cX6_isPlain 73 = .ok (.iinc 4 1, 3) := by decide +kernel
theorem dX6_isPlain_76 : decode cX6_isPlain 76 = .ok (.goto (-71), 3) := by decide +kernel
theorem dX6_isPlain_79 : decode cX6_isPlain 79 = .ok (.iload_n 3, 1) := by decide +kernel
theorem dX6_isPlain_80 : decode cX6_isPlain 80 = .ok (.ireturn, 1) := by decide +kernel
set_option maxRecDepth 20000 in
theorem ggX6_bySets_X6_isPlain : GoodIn wsX6_bySets wsX6_isPlain := goodIn_r _ [6, 7, 8, 9, 5, 10, 11, 12, 13, 14, 15, 16, 17, 18, 19, 20, 21, 22, 23, 24, 25, 26, 27, 28, 29, 30, 31, 32, 33, 34, 35, 36, 37, 38, 39, 40, 41, 42, 43, 44] (by decide +kernel) (by decide +kernel)
set_option maxRecDepth 20000 in
theorem gX6_bySets_X6_isPlain : GoodIn wsX6_bySets (wsV RX6 172 RX6 yX6_isPlain wsX6_isPlain) := goodIn_app (goodIn_of _ (by decide +kernel)) ggX6_bySets_X6_isPlain
theorem dX6_bySets_0 : decode cX6_bySets 0 = .ok (.aload_n 0, 1) := by decide +kernel
theorem dX6_bySets_1 : decode cX6_bySets 1 = .ok (.getfield 21, 3) := by decide +kernel
theorem dX6_bySets_4 : decode cX6_bySets 4 = .ok (.iconst 0, 1) := by decide +kernel
theorem dX6_bySets_5 : decode cX6_bySets 5 = .ok (.iconst 0, 1) := by decide +kernel
theorem dX6_bySets_6 : decode cX6_bySets 6 = .ok (.iastore, 1) := by decide +kernel
theorem dX6_bySets_7 : decode cX6_bySets 7 = .ok (.iconst 1, 1) := by decide +kernel
theorem dX6_bySets_8 : decode cX6_bySets 8 = .ok (.istore_n 2, 1) := by decide +kernel
theorem dX6_bySets_9 : decode cX6_bySets 9 = .ok (.iload_n 2, 1) := by decide +kernel
theorem dX6_bySets_10 : decode cX6_bySets 10 = .ok (.sipush 256, 3) := by decide +kernel
theorem dX6_bySets_13 : decode cX6_bySets 13 = .ok (.if_icmp .ge 17, 3) := by decide +kernel
theorem dX6_bySets_16 : decode cX6_bySets 16 = .ok (.aload_n 0, 1) := by decide +kernel
theorem dX6_bySets_17 : decode cX6_bySets 17 = .ok (.getfield 21, 3) := by decide +kernel
theorem dX6_bySets_20 : decode cX6_bySets 20 = .ok (.iload_n 2, 1) := by decide +kernel
theorem dX6_bySets_21 : decode cX6_bySets 21 = .ok (.bipush 8, 2) := by decide +kernel
theorem dX6_bySets_23 : decode cX6_bySets 23 = .ok (.iastore, 1) := by decide +kernel
theorem dX6_bySets_24 : decode cX6_bySets 24 = .ok (.iinc 2 1, 3) := by decide +kernel
theorem dX6_bySets_27 : decode cX6_bySets 27 = .ok (.goto (-18), 3) := by decide +kernel
theorem dX6_bySets_30 : decode cX6_bySets 30 = .ok (.iconst 1, 1) := by decide +kernel
theorem dX6_bySets_31 : decode cX6_bySets 31 = .ok (.istore_n 2, 1) := by decide +kernel
theorem dX6_bySets_32 : decode cX6_bySets 32 = .ok (.iload_n 2, 1) := by decide +kernel
theorem dX6_bySets_33 : decode cX6_bySets 33 = .ok (.sipush 256, 3) := by decide +kernel
theorem dX6_bySets_36 : decode cX6_bySets 36 = .ok (.if_icmp .ge 25, 3) := by decide +kernel
theorem dX6_bySets_39 : decode cX6_bySets 39 = .ok (.aload_n 0, 1) := by decide +kernel
theorem dX6_bySets_40 : decode cX6_bySets 40 = .ok (.iload_n 1, 1) := by decide +kernel
theorem dX6_bySets_41 : decode cX6_bySets 41 = .ok (.iload_n 2, 1) := by decide +kernel
theorem dX6_bySets_42 : decode cX6_bySets 42 = .ok (.invokevirtual 172, 3) := by decide +kernel
theorem dX6_bySets_45 : decode cX6_bySets 45 = .ok (.ifCond .eq 10, 3) := by decide +kernel
theorem dX6_bySets_48 : decode cX6_bySets 48 = .ok (.aload_n 0, 1) := by decide +kernel
theorem dX6_bySets_49 : decode cX6_bySets 49 = .ok (.getfield 21, 3) := by decide +kernel
theorem dX6_bySets_52 : decode cX6_bySets 52 = .ok (.iload_n 2, 1) := by decide +kernel
theorem dX6_bySets_53 : decode cX6_bySets 53 = .ok (.iconst 1, 1) := by decide +kernel
theorem dX6_bySets_54 : decode cX6_bySets 54 = .ok (.iastore, 1) := by decide +kernel
theorem dX6_bySets_55 : decode cX6_bySets 55 = .ok (.iinc 2 1, 3) := by decide +kernel
theorem dX6_bySets_58 : decode cX6_bySets 58 = .ok (.goto (-26), 3) := by decide +kernel
theorem dX6_bySets_61 : decode cX6_bySets 61 = .ok (.iconst 1, 1) := by decide +kernel
theorem dX6_bySets_62 : decode cX6_bySets 62 = .ok (.istore_n 2, 1) := by decide +kernel
theorem dX6_bySets_63 : decode cX6_bySets 63 = .ok (.iload_n 2, 1) := by decide +kernel
theorem dX6_bySets_64 : decode cX6_bySets 64 = .ok (.sipush 256, 3) := by decide +kernel
theorem dX6_bySets_67 : decode cX6_bySets 67 = .ok (.if_icmp .ge 97, 3) := by decide +kernel
theorem dX6_bySets_70 : decode cX6_bySets 70 = .ok (.iload_n 2, 1) := by decide +kernel
theorem dX6_bySets_71 : decode cX6_bySets 71 = .ok (.istore_n 3, 1) := by decide +kernel
theorem dX6_bySets_72 : decode cX6_bySets 72 = .ok (.iload_n 3, 1) := by decide +kernel
theorem dX6_bySets_73 : decode cX6_bySets 73 = .ok (.ifCond .le 85, 3) := by decide +kernel
theorem dX6_bySets_76 : decode cX6_bySets 76 = .ok (.aload_n 0, 1) := by decide +kernel
theorem dX6_bySets_77 : decode cX6_bySets 77 = .ok (.getfield 21, 3) := by decide +kernel
theorem dX6_bySets_80 : decode cX6_bySets 80 = .ok (.iload_n 3, 1) := by decide +kernel
theorem dX6_bySets_81 : decode cX6_bySets 81 = .ok (.iaload, 1) := by decide +kernel
theorem dX6_bySets_82 : decode cX6_bySets 82 = .ok (.iconst 1, 1) := by decide +kernel
theorem dX6_bySets_83 : decode cX6_bySets 83 = .ok (.if_icmp .ne 16, 3) := by decide +kernel
theorem dX6_bySets_86 : decode cX6_bySets 86 = .ok (.iload_n 3, 1) := by decide +kernel
theorem dX6_bySets_87 : decode cX6_bySets 87 = .ok (.iload_n 2, 1) := by decide +kernel
theorem dX6_bySets_88 : decode cX6_bySets 88 = .ok (.iand, 1) := by decide +kernel
theorem dX6_bySets_89 : decode cX6_bySets 89 = .ok (.iload_n 2, 1) := by decide +kernel
theorem dX6_bySets_90 : decode cX6_bySets 90 = .ok (.ineg, 1) := by decide +kernel
theorem dX6_bySets_91 : decode cX6_bySets 91 = .ok (.iand, 1) := by decide +kernel
theorem dX6_bySets_92 : decode cX6_bySets 92 = .ok (.ifCond .eq 7, 3) := by decide +kernel
theorem dX6_bySets_95 : decode cX6_bySets 95 = .ok (.iconst 1, 1) := by decide +kernel
theorem dX6_bySets_96 : decode cX6_bySets 96 = .ok (.goto 4, 3) := by decide +kernel
theorem dX6_bySets_99 : decode cX6_bySets 99 = .ok (.iconst 0, 1) := by decide +kernel
theorem dX6_bySets_100 : decode cX6_bySets 100 = .ok (.istore 4, 2) := by decide +kernel
theorem dX6_bySets_102 : decode cX6_bySets 102 = .ok (.aload_n 0, 1) := by decide +kernel
theorem dX6_bySets_103 : decode cX6_bySets 103 = .ok (.getfield 21, 3) := by decide +kernel
theorem dX6_bySets_106 : decode cX6_bySets 106 = .ok (.iload_n 2, 1) := by decide +kernel
theorem dX6_bySets_107 : decode cX6_bySets 107 = .ok (.iload_n 3, 1) := by decide +kernel
theorem dX6_bySets_108 : decode cX6_bySets 108 = .ok (.iconst (-1), 1) := by decide +kernel
theorem dX6_bySets_109 : decode cX6_bySets 109 = .ok (.ixor, 1) := by decide +kernel
theorem dX6_bySets_110 : decode cX6_bySets 110 = .ok (.iand, 1) := by decide +kernel
theorem dX6_bySets_111 : decode cX6_bySets 111 = .ok (.iaload, 1) := by decide +kernel
theorem dX6_bySets_112 : decode cX6_bySets 112 = .ok (.iconst 1, 1) := by decide +kernel
theorem dX6_bySets_113 : decode cX6_bySets 113 = .ok (.iadd, 1) := by decide +kernel
theorem dX6_bySets_114 : decode cX6_bySets 114 = .ok (.istore 5, 2) := by decide +kernel
theorem dX6_bySets_116 : decode cX6_bySets 116 = .ok (.aload_n 0, 1) := by decide +kernel
theorem dX6_bySets_117 : decode cX6_bySets 117 = .ok (.getfield 21, 3) := by decide +kernel
theorem dX6_bySets_120 : decode cX6_bySets 120 = .ok (.iload_n 2, 1) := by decide +kernel
theorem dX6_bySets_121 : decode cX6_bySets 121 = .ok (.iload 4, 2) := by decide +kernel
theorem dX6_bySets_123 : decode cX6_bySets 123 = .ok (.ifCond .eq 19, 3) := by decide +kernel
theorem dX6_bySets_126 : decode cX6_bySets 126 = .ok (.iload 5, 2) := by decide +kernel
theorem dX6_bySets_128 : decode cX6_bySets 128 = .ok (.aload_n 0, 1) := by decide +kernel
theorem dX6_bySets_129 : decode cX6_bySets 129 = .ok (.getfield 21, 3) := by decide +kernel
theorem dX6_bySets_132 : decode cX6_bySets 132 = .ok (.iload_n 2, 1) := by decide +kernel
theorem dX6_bySets_133 : decode cX6_bySets 133 = .ok (.iaload, 1) := by decide +kernel
theorem dX6_bySets_134 : decode cX6_bySets 134 = .ok (.if_icmp .ge 8, 3) := by decide +kernel
theorem dX6_bySets_137 : decode cX6_bySets 137 = .ok (.iload 5, 2) := by decide +kernel
theorem dX6_bySets_139 : decode cX6_bySets 139 = .ok (.goto 9, 3) := by decide +kernel
theorem dX6_bySets_142 : decode cX6_bySets 142 = .ok (.aload_n 0, 1) := by decide +kernel
theorem dX6_bySets_143 : decode cX6_bySets 143 = .ok (.getfield 21, 3) := by decide +kernel
theorem dX6_bySets_146 : decode cX6_bySets 146 = .ok (.iload_n 2, 1) := by decide +kernel
theorem dX6_bySets_147 : decode cX6_bySets 147 = .ok (.iaload, 1) := by decide +kernel
theorem dX6_bySets_148 : decode cX6_bySets 148 = .ok (.iastore, 1) := by decide +kernel
theorem dX6_bySets_149 : decode cX6_bySets 149 = .ok (.iload_n 3, 1) := by decide +kernel
theorem dX6_bySets_150 : decode cX6_bySets 150 = .ok (.iconst 1, 1) := by decide +kernel
theorem dX6_bySets_151 : decode cX6_bySets 151 = .ok (.isub, 1) := by decide +kernel
theorem dX6_bySets_152 : decode cX6_bySets 152 = .ok (.iload_n 2, 1) := by decide +kernel
theorem dX6_bySets_153 : decode cX6_bySets 153 = .ok (.iand, 1) := by decide +kernel
theorem dX6_bySets_154 : decode cX6_bySets 154 = .ok (.istore_n 3, 1) := by decide +kernel
theorem dX6_bySets_155 : decode cX6_bySets 155 = .ok (.goto (-83), 3) := by decide +kernel
theorem dX6_bySets_158 : decode cX6_bySets 158 = .ok (.iinc 2 1, 3) := by decide +kernel
theorem dX6_bySets_161 : decode cX6_bySets 161 = .ok (.goto (-98), 3) := by decide +kernel
theorem dX6_bySets_164 : decode cX6_bySets 164 = .ok (.aload_n 0, 1) := by decide +kernel
theorem dX6_bySets_165 : decode cX6_bySets 165 = .ok (.getfield 21, 3) := by decide +kernel
theorem dX6_bySets_168 : decode cX6_bySets 168 = .ok (.sipush 255, 3) := by decide +kernel
theorem dX6_bySets_171 : decode cX6_bySets 171 = .ok (.iaload, 1) := by decide +kernel
theorem dX6_bySets_172 : decode cX6_bySets 172 = .ok (.ireturn, 1) := by decide +kernel
set_option maxRecDepth 20000 in
theorem ggX6_canDo_X6_areApart : GoodIn wsX6_canDo wsX6_areApart := goodIn_r _ [6, 7, 8, 9, 5, 10, 11, 12, 13, 14, 15, 16, 17, 18, 19, 20, 21, 22, 23, 24, 25, 26, 27, 28, 29, 30, 31, 32, 33, 34, 35, 36, 37, 38, 39, 40] (by decide +kernel) (by decide +kernel)
set_option maxRecDepth 20000 in
theorem gX6_canDo_X6_areApart : GoodIn wsX6_canDo (wsV RX6 97 RX6 yX6_areApart wsX6_areApart) := goodIn_app (goodIn_of _ (by decide +kernel)) ggX6_canDo_X6_areApart
theorem dX6_canDo_0 : decode cX6_canDo 0 = .ok (.iconst 0, 1) := by decide +kernel
theorem dX6_canDo_1 : decode cX6_canDo 1 = .ok (.istore_n 3, 1) := by decide +kernel
theorem dX6_canDo_2 : decode cX6_canDo 2 = .ok (.iload_n 3, 1) := by decide +kernel
theorem dX6_canDo_3 : decode cX6_canDo 3 = .ok (.bipush 8, 2) := by decide +kernel
theorem dX6_canDo_5 : decode cX6_canDo 5 = .ok (.if_icmp .gt 16, 3) := by decide +kernel
theorem dX6_canDo_8 : decode cX6_canDo 8 = .ok (.aload_n 0, 1) := by decide +kernel
theorem dX6_canDo_9 : decode cX6_canDo 9 = .ok (.getfield 24, 3) := by decide +kernel
theorem dX6_canDo_12 : decode cX6_canDo 12 = .ok (.iload_n 3, 1) := by decide +kernel
theorem dX6_canDo_13 : decode cX6_canDo 13 = .ok (.iconst 0, 1) := by decide +kernel
theorem dX6_canDo_14 : decode cX6_canDo 14 = .ok (.iastore, 1) := by decide +kernel
theorem dX6_canDo_15 : decode cX6_canDo 15 = .ok (.iinc 3 1, 3) := by decide +kernel
theorem dX6_canDo_18 : decode cX6_canDo 18 = .ok (.goto (-16), 3) := by decide +kernel
theorem dX6_canDo_21 : decode cX6_canDo 21 = .ok (.iconst 0, 1) := by decide +kernel
theorem dX6_canDo_22 : decode cX6_canDo 22 = .ok (.istore_n 3, 1) := by decide +kernel
theorem dX6_canDo_23 : decode cX6_canDo 23 = .ok (.iload_n 3, 1) := by decide +kernel
theorem dX6_canDo_24 : decode cX6_canDo 24 = .ok (.ifCond .lt 141, 3) := by decide +kernel
theorem dX6_canDo_27 : decode cX6_canDo 27 = .ok (.iload_n 3, 1) := by decide +kernel
theorem dX6_canDo_28 : decode cX6_canDo 28 = .ok (.bipush 8, 2) := by decide +kernel
theorem dX6_canDo_30 : decode cX6_canDo 30 = .ok (.if_icmp .ge 135, 3) := by decide +kernel
theorem dX6_canDo_33 : decode cX6_canDo 33 = .ok (.aload_n 0, 1) := by decide +kernel
theorem dX6_canDo_34 : decode cX6_canDo 34 = .ok (.getfield 24, 3) := by decide +kernel
theorem dX6_canDo_37 : decode cX6_canDo 37 = .ok (.iload_n 3, 1) := by decide +kernel
theorem dX6_canDo_38 : decode cX6_canDo 38 = .ok (.iaload, 1) := by decide +kernel
theorem dX6_canDo_39 : decode cX6_canDo 39 = .ok (.iload_n 2, 1) := by decide +kernel
theorem dX6_canDo_40 : decode cX6_canDo 40 = .ok (.if_icmp .ge 7, 3) := by decide +kernel
theorem dX6_canDo_43 : decode cX6_canDo 43 = .ok (.iconst 1, 1) := by decide +kernel
theorem dX6_canDo_44 : decode cX6_canDo 44 = .ok (.goto 4, 3) := by decide +kernel
theorem dX6_canDo_47 : decode cX6_canDo 47 = .ok (.iconst 0, 1) := by decide +kernel
theorem dX6_canDo_48 : decode cX6_canDo 48 = .ok (.istore 4, 2) := by decide +kernel
theorem dX6_canDo_50 : decode cX6_canDo 50 = .ok (.iconst 0, 1) := by decide +kernel
theorem dX6_canDo_51 : decode cX6_canDo 51 = .ok (.istore 5, 2) := by decide +kernel
theorem dX6_canDo_53 : decode cX6_canDo 53 = .ok (.iload 5, 2) := by decide +kernel
theorem dX6_canDo_55 : decode cX6_canDo 55 = .ok (.iload_n 3, 1) := by decide +kernel
theorem dX6_canDo_56 : decode cX6_canDo 56 = .ok (.if_icmp .ge 48, 3) := by decide +kernel
theorem dX6_canDo_59 : decode cX6_canDo 59 = .ok (.iload 4, 2) := by decide +kernel
theorem dX6_canDo_61 : decode cX6_canDo 61 = .ok (.ifCond .eq 43, 3) := by decide +kernel
theorem dX6_canDo_64 : decode cX6_canDo 64 = .ok (.aload_n 0, 1) := by decide +kernel
theorem dX6_canDo_65 : decode cX6_canDo 65 = .ok (.getfield 24, 3) := by decide +kernel
theorem dX6_canDo_68 : decode cX6_canDo 68 = .ok (.iload 5, 2) := by decide +kernel
theorem dX6_canDo_70 : decode cX6_canDo 70 = .ok (.iaload, 1) := by decide +kernel
theorem dX6_canDo_71 : decode cX6_canDo 71 = .ok (.aload_n 0, 1) := by decide +kernel
theorem dX6_canDo_72 : decode cX6_canDo 72 = .ok (.getfield 24, 3) := by decide +kernel
theorem dX6_canDo_75 : decode cX6_canDo 75 = .ok (.iload_n 3, 1) := by decide +kernel
theorem dX6_canDo_76 : decode cX6_canDo 76 = .ok (.iaload, 1) := by decide +kernel
theorem dX6_canDo_77 : decode cX6_canDo 77 = .ok (.if_icmp .ne 14, 3) := by decide +kernel
theorem dX6_canDo_80 : decode cX6_canDo 80 = .ok (.aload_n 0, 1) := by decide +kernel
theorem dX6_canDo_81 : decode cX6_canDo 81 = .ok (.iload_n 1, 1) := by decide +kernel
theorem dX6_canDo_82 : decode cX6_canDo 82 = .ok (.iload 5, 2) := by decide +kernel
theorem dX6_canDo_84 : decode cX6_canDo 84 = .ok (.iload_n 3, 1) := by decide +kernel
theorem dX6_canDo_85 : decode cX6_canDo 85 = .ok (.invokevirtual 97, 3) := by decide +kernel
theorem dX6_canDo_88 : decode cX6_canDo 88 = .ok (.ifCond .ne 7, 3) := by decide +kernel
theorem dX6_canDo_91 : decode cX6_canDo 91 = .ok (.iconst 1, 1) := by decide +kernel
theorem dX6_canDo_92 : decode cX6_canDo 92 = .ok (.goto 4, 3) := by decide +kernel
theorem dX6_canDo_95 : decode cX6_canDo 95 = .ok (.iconst 0, 1) := by decide +kernel
theorem dX6_canDo_96 : decode cX6_canDo 96 = .ok (.istore 4, 2) := by decide +kernel
theorem dX6_canDo_98 : decode cX6_canDo 98 = .ok (.iinc 5 1, 3) := by decide +kernel
theorem dX6_canDo_101 : decode cX6_canDo 101 = .ok (.goto (-48), 3) := by decide +kernel
theorem dX6_canDo_104 : decode cX6_canDo 104 = .ok (.iload 4, 2) := by decide +kernel
theorem dX6_canDo_106 : decode cX6_canDo 106 = .ok (.ifCond .eq 16, 3) := by decide +kernel
theorem dX6_canDo_109 : decode cX6_canDo 109 = .ok (.iinc 3 1, 3) := by decide +kernel
theorem dX6_canDo_112 : decode cX6_canDo 112 = .ok (.aload_n 0, 1) := by decide +kernel
theorem dX6_canDo_113 : decode cX6_canDo 113 = .ok (.getfield 24, 3) := by decide +kernel
theorem dX6_canDo_116 : decode cX6_canDo 116 = .ok (.iload_n 3, 1) := by decide +kernel
theorem dX6_canDo_117 : decode cX6_canDo 117 = .ok (.iconst 0, 1) := by decide +kernel
theorem dX6_canDo_118 : decode cX6_canDo 118 = .ok (.iastore, 1) := by decide +kernel
theorem dX6_canDo_119 : decode cX6_canDo 119 = .ok (.goto 43, 3) := by decide +kernel
theorem dX6_canDo_122 : decode cX6_canDo 122 = .ok (.aload_n 0, 1) := by decide +kernel
theorem dX6_canDo_123 : decode cX6_canDo 123 = .ok (.getfield 24, 3) := by decide +kernel
theorem dX6_canDo_126 : decode cX6_canDo 126 = .ok (.iload_n 3, 1) := by decide +kernel
theorem dX6_canDo_127 : decode cX6_canDo 127 = .ok (.iaload, 1) := by decide +kernel
theorem dX6_canDo_128 : decode cX6_canDo 128 = .ok (.iload_n 2, 1) := by decide +kernel
theorem dX6_canDo_129 : decode cX6_canDo 129 = .ok (.if_icmp .ge 16, 3) := by decide +kernel
theorem dX6_canDo_132 : decode cX6_canDo 132 = .ok (.aload_n 0, 1) := by decide +kernel
theorem dX6_canDo_133 : decode cX6_canDo 133 = .ok (.getfield 24, 3) := by decide +kernel
theorem dX6_canDo_136 : decode cX6_canDo 136 = .ok (.iload_n 3, 1) := by decide +kernel
theorem dX6_canDo_137 : decode cX6_canDo 137 = .ok (.dup2, 1) := by decide +kernel
theorem dX6_canDo_138 : decode cX6_canDo 138 = .ok (.iaload, 1) := by decide +kernel
theorem dX6_canDo_139 : decode cX6_canDo 139 = .ok (.iconst 1, 1) := by decide +kernel
theorem dX6_canDo_140 : decode cX6_canDo 140 = .ok (.iadd, 1) := by decide +kernel
theorem dX6_canDo_141 : decode cX6_canDo 141 = .ok (.iastore, 1) := by decide +kernel
theorem dX6_canDo_142 : decode cX6_canDo 142 = .ok (.goto 20, 3) := by decide +kernel
theorem dX6_canDo_145 : decode cX6_canDo 145 = .ok (.iinc 3 (-1), 3) := by decide +kernel
theorem dX6_canDo_148 : decode cX6_canDo 148 = .ok (.iload_n 3, 1) := by decide +kernel
theorem dX6_canDo_149 : decode cX6_canDo 149 = .ok (.ifCond .lt 13, 3) := by decide +kernel
theorem dX6_canDo_152 : decode cX6_canDo 152 = .ok (.aload_n 0, 1) := by decide +kernel
theorem dX6_canDo_153 : decode cX6_canDo 153 = .ok (.getfield 24, 3) := by decide +kernel
theorem dX6_canDo_156 : decode cX6_canDo 156 = .ok (.iload_n 3, 1) := by decide +kernel
theorem dX6_canDo_157 : decode cX6_canDo 157 = .ok (.dup2, 1) := by decide +kernel
theorem dX6_canDo_158 : decode cX6_canDo 158 = .ok (.iaload, 1) := by decide +kernel
theorem dX6_canDo_159 : decode cX6_canDo 159 = .ok (.iconst 1, 1) := by decide +kernel
theorem dX6_canDo_160 : decode cX6_canDo 160 = .ok (.iadd, 1) := by decide +kernel
theorem dX6_canDo_161 : decode cX6_canDo 161 = .ok (.iastore, 1) := by decide +kernel
theorem dX6_canDo_162 : decode cX6_canDo 162 = .ok (.goto (-139), 3) := by decide +kernel
theorem dX6_canDo_165 : decode cX6_canDo 165 = .ok (.iload_n 3, 1) := by decide +kernel
theorem dX6_canDo_166 : decode cX6_canDo 166 = .ok (.bipush 8, 2) := by decide +kernel
theorem dX6_canDo_168 : decode cX6_canDo 168 = .ok (.if_icmp .ne 7, 3) := by decide +kernel
theorem dX6_canDo_171 : decode cX6_canDo 171 = .ok (.iconst 1, 1) := by decide +kernel
theorem dX6_canDo_172 : decode cX6_canDo 172 = .ok (.goto 4, 3) := by decide +kernel
theorem dX6_canDo_175 : decode cX6_canDo 175 = .ok (.iconst 0, 1) := by decide +kernel
theorem dX6_canDo_176 : decode cX6_canDo 176 = .ok (.ireturn, 1) := by decide +kernel
set_option maxRecDepth 20000 in
theorem ggX6_byTrying_X6_canDo : GoodIn wsX6_byTrying wsX6_canDo := goodIn_r _ [5, 6, 7, 8, 9, 4, 10, 11, 12, 13, 14, 15, 16, 17, 18, 19, 20, 21, 22, 23, 24, 25, 26, 27, 28, 29, 30, 31, 32, 33, 34, 35, 36, 37, 38, 39, 40, 41, 42, 43, 44] (by decide +kernel) (by decide +kernel)
set_option maxRecDepth 20000 in
theorem gX6_byTrying_X6_canDo : GoodIn wsX6_byTrying (wsV RX6 175 RX6 yX6_canDo wsX6_canDo) := goodIn_app (goodIn_of _ (by decide +kernel)) ggX6_byTrying_X6_canDo
theorem dX6_byTrying_0 : decode cX6_byTrying 0 = .ok (.iconst 1, 1) := by decide +kernel
theorem dX6_byTrying_1 : decode cX6_byTrying 1 = .ok (.istore_n 2, 1) := by decide +kernel
theorem dX6_byTrying_2 : decode cX6_byTrying 2 = .ok (.aload_n 0, 1) := by decide +kernel
theorem dX6_byTrying_3 : decode cX6_byTrying 3 = .ok (.iload_n 1, 1) := by decide +kernel
theorem dX6_byTrying_4 : decode cX6_byTrying 4 = .ok (.iload_n 2, 1) := by decide +kernel
theorem dX6_byTrying_5 : decode cX6_byTrying 5 = .ok (.invokevirtual 175, 3) := by decide +kernel
theorem dX6_byTrying_8 : decode cX6_byTrying 8 = .ok (.ifCond .ne 9, 3) := by decide +kernel
theorem dX6_byTrying_11 : decode cX6_byTrying 11 = .ok (.iinc 2 1, 3) := by decide +kernel
theorem dX6_byTrying_14 : decode cX6_byTrying 14 = .ok (.goto (-12), 3) := by decide +kernel
theorem dX6_byTrying_17 : decode cX6_byTrying 17 = .ok (.iload_n 2, 1) := by decide +kernel
theorem dX6_byTrying_18 : decode cX6_byTrying 18 = .ok (.ireturn, 1) := by decide +kernel
set_option maxRecDepth 20000 in
theorem ggX6_fewest_X6_isPainter : GoodIn wsX6_fewest wsX6_isPainter := goodIn_r _ [4, 5, 6, 3, 7] (by decide +kernel) (by decide +kernel)
set_option maxRecDepth 20000 in
theorem gX6_fewest_X6_isPainter : GoodIn wsX6_fewest (va_wsS RX6 91 yX6_isPainter wsX6_isPainter) := goodIn_app (goodIn_of _ (by decide +kernel)) ggX6_fewest_X6_isPainter
set_option maxRecDepth 20000 in
theorem ggX6_fewest_X6_in : GoodIn wsX6_fewest wsX6_in := goodIn_r _ [7] (by decide +kernel) (by decide +kernel)
set_option maxRecDepth 20000 in
theorem gX6_fewest_X6_in : GoodIn wsX6_fewest (va_wsS RX6 45 yX6_in wsX6_in) := goodIn_app (goodIn_of _ (by decide +kernel)) ggX6_fewest_X6_in
set_option maxRecDepth 20000 in
theorem ggX6_fewest_X6_goes : GoodIn wsX6_fewest wsX6_goes := goodIn_r _ [11, 12, 57, 58, 59, 60, 61, 62, 63, 64, 65, 66, 67, 68] (by decide +kernel) (by decide +kernel)
set_option maxRecDepth 20000 in
theorem gX6_fewest_X6_goes : GoodIn wsX6_fewest (wsV RX6 84 RX6 yX6_goes wsX6_goes) := goodIn_app (goodIn_of _ (by decide +kernel)) ggX6_fewest_X6_goes
set_option maxRecDepth 20000 in
theorem ggX6_fewest_X6_bySets : GoodIn wsX6_fewest wsX6_bySets := goodIn_r _ [16, 17, 18, 19, 20, 3, 21, 22, 23, 24, 25, 26, 27, 28, 29, 30, 31, 32, 33, 34, 35, 36, 37, 38, 39, 40, 41, 42, 43, 44, 45, 46, 47, 57, 58, 59, 60, 61, 62, 63, 64, 65, 66, 67, 68] (by decide +kernel) (by decide +kernel)
set_option maxRecDepth 20000 in
theorem gX6_fewest_X6_bySets : GoodIn wsX6_fewest (wsV RX6 178 RX6 yX6_bySets wsX6_bySets) := goodIn_app (goodIn_of _ (by decide +kernel)) ggX6_fewest_X6_bySets
set_option maxRecDepth 20000 in
theorem ggX6_fewest_X6_byTrying : GoodIn wsX6_fewest wsX6_byTrying := goodIn_r _ [51, 52, 53, 54, 3, 55, 56, 22, 23, 24, 25, 26, 27, 28, 29, 30, 31, 32, 33, 34, 35, 36, 37, 38, 39, 40, 41, 42, 43, 44, 45, 46, 47, 57, 58, 59, 60, 61, 62, 63, 64, 65, 66, 67, 68] (by decide +kernel) (by decide +kernel)
set_option maxRecDepth 20000 in
theorem gX6_fewest_X6_byTrying : GoodIn wsX6_fewest (wsV RX6 181 RX6 yX6_byTrying wsX6_byTrying) := goodIn_app (goodIn_of _ (by decide +kernel)) ggX6_fewest_X6_byTrying
theorem dX6_fewest_0 : decode cX6_fewest 0 = .ok (.aload_n 0, 1) := by decide +kernel
theorem dX6_fewest_1 : decode cX6_fewest 1 = .ok (.iload_n 1, 1) := by decide +kernel
theorem dX6_fewest_2 : decode cX6_fewest 2 = .ok (.invokestatic 91, 3) := by decide +kernel
theorem dX6_fewest_5 : decode cX6_fewest 5 = .ok (.iload_n 2, 1) := by decide +kernel
theorem dX6_fewest_6 : decode cX6_fewest 6 = .ok (.iconst 0, 1) := by decide +kernel
theorem dX6_fewest_7 : decode cX6_fewest 7 = .ok (.iconst 1, 1) := by decide +kernel
theorem dX6_fewest_8 : decode cX6_fewest 8 = .ok (.invokestatic 45, 3) := by decide +kernel
theorem dX6_fewest_11 : decode cX6_fewest 11 = .ok (.invokevirtual 84, 3) := by decide +kernel
theorem dX6_fewest_14 : decode cX6_fewest 14 = .ok (.ifCond .ne 5, 3) := by decide +kernel
theorem dX6_fewest_17 : decode cX6_fewest 17 = .ok (.iconst 0, 1) := by decide +kernel
theorem dX6_fewest_18 : decode cX6_fewest 18 = .ok (.ireturn, 1) := by decide +kernel
theorem dX6_fewest_19 : decode cX6_fewest 19 = .ok (.iload_n 2, 1) := by decide +kernel
theorem dX6_fewest_20 : decode cX6_fewest 20 = .ok (.ifCond .ne 11, 3) := by decide +kernel
theorem dX6_fewest_23 : decode cX6_fewest 23 = .ok (.aload_n 0, 1) := by decide +kernel
theorem dX6_fewest_24 : decode cX6_fewest 24 = .ok (.iload_n 1, 1) := by decide +kernel
theorem dX6_fewest_25 : decode cX6_fewest 25 = .ok (.invokevirtual 178, 3) := by decide +kernel
theorem dX6_fewest_28 : decode cX6_fewest 28 = .ok (.goto 8, 3) := by decide +kernel
theorem dX6_fewest_31 : decode cX6_fewest 31 = .ok (.aload_n 0, 1) := by decide +kernel
theorem dX6_fewest_32 : decode cX6_fewest 32 = .ok (.iload_n 1, 1) := by decide +kernel
theorem dX6_fewest_33 : decode cX6_fewest 33 = .ok (.invokevirtual 181, 3) := by decide +kernel
theorem dX6_fewest_36 : decode cX6_fewest 36 = .ok (.ireturn, 1) := by decide +kernel
set_option maxRecDepth 20000 in
theorem ggX6_withLender_X6_pairsWith : GoodIn wsX6_withLender wsX6_pairsWith := goodIn_r _ [5, 6, 7, 8, 4, 9, 10, 11, 12, 13, 14, 15, 16, 17, 18, 19, 20, 21, 22, 23, 24, 25, 26, 27, 28, 29, 30, 31, 32, 33, 34, 35, 36, 37, 38, 39] (by decide +kernel) (by decide +kernel)
set_option maxRecDepth 20000 in
theorem gX6_withLender_X6_pairsWith : GoodIn wsX6_withLender (wsV RX6 67 RX6 yX6_pairsWith wsX6_pairsWith) := goodIn_app (goodIn_of _ (by decide +kernel)) ggX6_withLender_X6_pairsWith
theorem dX6_withLender_0 : decode cX6_withLender 0 = .ok (.aload_n 0, 1) := by decide +kernel
theorem dX6_withLender_1 : decode cX6_withLender 1 = .ok (.iload_n 1, 1) := by decide +kernel
theorem dX6_withLender_2 : decode cX6_withLender 2 = .ok (.iload_n 1, 1) := by decide +kernel
theorem dX6_withLender_3 : decode cX6_withLender 3 = .ok (.iload_n 2, 1) := by decide +kernel
theorem dX6_withLender_4 : decode cX6_withLender 4 = .ok (.if_icmp .ne 7, 3) := by decide +kernel
theorem dX6_withLender_7 : decode cX6_withLender 7 = .ok (.iconst (-1), 1) := by decide +kernel
theorem dX6_withLender_8 : decode cX6_withLender 8 = .ok (.goto 4, 3) := by decide +kernel
theorem dX6_withLender_11 : decode cX6_withLender 11 = .ok (.iload_n 2, 1) := by decide +kernel
theorem dX6_withLender_12 : decode cX6_withLender 12 = .ok (.invokevirtual 67, 3) := by decide +kernel
theorem dX6_withLender_15 : decode cX6_withLender 15 = .ok (.ireturn, 1) := by decide +kernel
set_option maxRecDepth 20000 in
theorem ggX6_ifBorrowed_X6_isPainter : GoodIn wsX6_ifBorrowed wsX6_isPainter := goodIn_r _ [4, 5, 6, 3, 7] (by decide +kernel) (by decide +kernel)
set_option maxRecDepth 20000 in
theorem gX6_ifBorrowed_X6_isPainter : GoodIn wsX6_ifBorrowed (va_wsS RX6 91 yX6_isPainter wsX6_isPainter) := goodIn_app (goodIn_of _ (by decide +kernel)) ggX6_ifBorrowed_X6_isPainter
set_option maxRecDepth 20000 in
theorem ggX6_ifBorrowed_X6_goes : GoodIn wsX6_ifBorrowed wsX6_goes := goodIn_r _ [11, 12, 43, 44, 45, 46, 47, 48, 49, 50, 51, 52, 53, 54] (by decide +kernel) (by decide +kernel)
set_option maxRecDepth 20000 in
theorem gX6_ifBorrowed_X6_goes : GoodIn wsX6_ifBorrowed (wsV RX6 84 RX6 yX6_goes wsX6_goes) := goodIn_app (goodIn_of _ (by decide +kernel)) ggX6_ifBorrowed_X6_goes
set_option maxRecDepth 20000 in
theorem ggX6_ifBorrowed_X6_withLender : GoodIn wsX6_ifBorrowed wsX6_withLender := goodIn_r _ [16, 17, 18, 19, 3, 20, 21, 22, 23, 24, 25, 26, 27, 28, 29, 30, 31, 32, 33, 34, 35, 36, 37, 38, 39, 40, 41, 42, 43, 44, 45, 46, 47, 48, 49, 50, 51, 52, 53, 54] (by decide +kernel) (by decide +kernel)
set_option maxRecDepth 20000 in
theorem gX6_ifBorrowed_X6_withLender : GoodIn wsX6_ifBorrowed (wsV RX6 184 RX6 yX6_withLender wsX6_withLender) := goodIn_app (goodIn_of _ (by decide +kernel)) ggX6_ifBorrowed_X6_withLender
theorem dX6_ifBorrowed_0 : decode cX6_ifBorrowed 0 = .ok (.aload_n 0, 1) := by decide +kernel
theorem dX6_ifBorrowed_1 : decode cX6_ifBorrowed 1 = .ok (.iload_n 1, 1) := by decide +kernel
theorem dX6_ifBorrowed_2 : decode cX6_ifBorrowed 2 = .ok (.invokestatic 91, 3) := by decide +kernel
theorem dX6_ifBorrowed_5 : decode cX6_ifBorrowed 5 = .ok (.ifCond .eq 14, 3) := by decide +kernel
theorem dX6_ifBorrowed_8 : decode cX6_ifBorrowed 8 = .ok (.iload_n 2, 1) := by decide +kernel
theorem dX6_ifBorrowed_9 : decode cX6_ifBorrowed 9 = .ok (.invokestatic 91, 3) := by decide +kernel
theorem dX6_ifBorrowed_12 : decode cX6_ifBorrowed 12 = .ok (.ifCond .eq 7, 3) := by decide +kernel
theorem dX6_ifBorrowed_15 : decode cX6_ifBorrowed 15 = .ok (.iconst 1, 1) := by decide +kernel
theorem dX6_ifBorrowed_16 : decode cX6_ifBorrowed 16 = .ok (.goto 4, 3) := by decide +kernel
theorem dX6_ifBorrowed_19 : decode cX6_ifBorrowed 19 = .ok (.iconst 0, 1) := by decide +kernel
theorem dX6_ifBorrowed_20 : decode cX6_ifBorrowed 20 = .ok (.iconst 1, 1) := by decide +kernel
theorem dX6_ifBorrowed_21 : decode cX6_ifBorrowed 21 = .ok (.invokevirtual 84, 3) := by decide +kernel
theorem dX6_ifBorrowed_24 : decode cX6_ifBorrowed 24 = .ok (.ifCond .eq 12, 3) := by decide +kernel
theorem dX6_ifBorrowed_27 : decode cX6_ifBorrowed 27 = .ok (.aload_n 0, 1) := by decide +kernel
theorem dX6_ifBorrowed_28 : decode cX6_ifBorrowed 28 = .ok (.iload_n 1, 1) := by decide +kernel
theorem dX6_ifBorrowed_29 : decode cX6_ifBorrowed 29 = .ok (.iload_n 2, 1) := by decide +kernel
theorem dX6_ifBorrowed_30 : decode cX6_ifBorrowed 30 = .ok (.invokevirtual 184, 3) := by decide +kernel
theorem dX6_ifBorrowed_33 : decode cX6_ifBorrowed 33 = .ok (.goto 4, 3) := by decide +kernel
theorem dX6_ifBorrowed_36 : decode cX6_ifBorrowed 36 = .ok (.iconst 0, 1) := by decide +kernel
theorem dX6_ifBorrowed_37 : decode cX6_ifBorrowed 37 = .ok (.ireturn, 1) := by decide +kernel
set_option maxRecDepth 20000 in
theorem ggX6_leastChange_X6_isPainter : GoodIn wsX6_leastChange wsX6_isPainter := goodIn_r _ [4, 5, 6, 3, 7] (by decide +kernel) (by decide +kernel)
set_option maxRecDepth 20000 in
theorem gX6_leastChange_X6_isPainter : GoodIn wsX6_leastChange (va_wsS RX6 91 yX6_isPainter wsX6_isPainter) := goodIn_app (goodIn_of _ (by decide +kernel)) ggX6_leastChange_X6_isPainter
set_option maxRecDepth 20000 in
theorem ggX6_leastChange_X6_isPot : GoodIn wsX6_leastChange wsX6_isPot := goodIn_r _ [10, 5, 6, 3, 7] (by decide +kernel) (by decide +kernel)
set_option maxRecDepth 20000 in
theorem gX6_leastChange_X6_isPot : GoodIn wsX6_leastChange (va_wsS RX6 80 yX6_isPot wsX6_isPot) := goodIn_app (goodIn_of _ (by decide +kernel)) ggX6_leastChange_X6_isPot
set_option maxRecDepth 20000 in
theorem ggX6_leastChange_X6_goes : GoodIn wsX6_leastChange wsX6_goes := goodIn_r _ [14, 15, 41, 42, 43, 44, 45, 46, 47, 48, 49, 50, 51, 52] (by decide +kernel) (by decide +kernel)
set_option maxRecDepth 20000 in
theorem gX6_leastChange_X6_goes : GoodIn wsX6_leastChange (wsV RX6 84 RX6 yX6_goes wsX6_goes) := goodIn_app (goodIn_of _ (by decide +kernel)) ggX6_leastChange_X6_goes
set_option maxRecDepth 20000 in
theorem ggX6_leastChange_X6_least : GoodIn wsX6_leastChange wsX6_least := goodIn_r _ [19, 20, 21, 22, 23, 24, 25, 3, 26, 27, 28, 29, 30, 31, 32, 33, 34, 35, 36, 37, 38, 39, 40, 41, 42, 43, 44, 45, 46, 47, 48, 49, 50, 51, 52] (by decide +kernel) (by decide +kernel)
set_option maxRecDepth 20000 in
theorem gX6_leastChange_X6_least : GoodIn wsX6_leastChange (wsV RX6 123 RX6 yX6_least wsX6_least) := goodIn_app (goodIn_of _ (by decide +kernel)) ggX6_leastChange_X6_least
theorem dX6_leastChange_0 : decode cX6_leastChange 0 = .ok (.aload_n 0, 1) := by decide +kernel
theorem dX6_leastChange_1 : decode cX6_leastChange 1 = .ok (.iload_n 1, 1) := by decide +kernel
theorem dX6_leastChange_2 : decode cX6_leastChange 2 = .ok (.invokestatic 91, 3) := by decide +kernel
theorem dX6_leastChange_5 : decode cX6_leastChange 5 = .ok (.ifCond .eq 21, 3) := by decide +kernel
theorem dX6_leastChange_8 : decode cX6_leastChange 8 = .ok (.iload_n 2, 1) := by decide +kernel
theorem dX6_leastChange_9 : decode cX6_leastChange 9 = .ok (.invokestatic 80, 3) := by decide +kernel
theorem dX6_leastChange_12 : decode cX6_leastChange 12 = .ok (.ifCond .eq 14, 3) := by decide +kernel
theorem dX6_leastChange_15 : decode cX6_leastChange 15 = .ok (.iload_n 3, 1) := by decide +kernel
theorem dX6_leastChange_16 : decode cX6_leastChange 16 = .ok (.invokestatic 80, 3) := by decide +kernel
theorem dX6_leastChange_19 : decode cX6_leastChange 19 = .ok (.ifCond .eq 7, 3) := by decide +kernel
theorem dX6_leastChange_22 : decode cX6_leastChange 22 = .ok (.iconst 1, 1) := by decide +kernel
theorem dX6_leastChange_23 : decode cX6_leastChange 23 = .ok (.goto 4, 3) := by decide +kernel
theorem dX6_leastChange_26 : decode cX6_leastChange 26 = .ok (.iconst 0, 1) := by decide +kernel
theorem dX6_leastChange_27 : decode cX6_leastChange 27 = .ok (.iload_n 2, 1) := by decide +kernel
theorem dX6_leastChange_28 : decode cX6_leastChange 28 = .ok (.iload_n 3, 1) := by decide +kernel
theorem dX6_leastChange_29 : decode cX6_leastChange 29 = .ok (.if_icmp .eq 7, 3) := by decide +kernel
theorem dX6_leastChange_32 : decode cX6_leastChange 32 = .ok (.iconst 1, 1) := by decide +kernel
theorem dX6_leastChange_33 : decode cX6_leastChange 33 = .ok (.goto 4, 3) := by decide +kernel
theorem dX6_leastChange_36 : decode cX6_leastChange 36 = .ok (.iconst 0, 1) := by decide +kernel
theorem dX6_leastChange_37 : decode cX6_leastChange 37 = .ok (.invokevirtual 84, 3) := by decide +kernel
theorem dX6_leastChange_40 : decode cX6_leastChange 40 = .ok (.ifCond .eq 13, 3) := by decide +kernel
theorem dX6_leastChange_43 : decode cX6_leastChange 43 = .ok (.aload_n 0, 1) := by decide +kernel
theorem dX6_leastChange_44 : decode cX6_leastChange 44 = .ok (.iload_n 1, 1) := by decide +kernel
theorem dX6_leastChange_45 : decode cX6_leastChange 45 = .ok (.iload_n 2, 1) := by decide +kernel
theorem dX6_leastChange_46 : decode cX6_leastChange 46 = .ok (.iload_n 3, 1) := by decide +kernel
theorem dX6_leastChange_47 : decode cX6_leastChange 47 = .ok (.invokevirtual 123, 3) := by decide +kernel
theorem dX6_leastChange_50 : decode cX6_leastChange 50 = .ok (.goto 4, 3) := by decide +kernel
theorem dX6_leastChange_53 : decode cX6_leastChange 53 = .ok (.iconst 0, 1) := by decide +kernel
theorem dX6_leastChange_54 : decode cX6_leastChange 54 = .ok (.ireturn, 1) := by decide +kernel
set_option maxRecDepth 20000 in
theorem ggX6_best_X6_pairs : GoodIn wsX6_best wsX6_pairs := goodIn_r _ [5, 6, 7, 8, 4, 9, 10, 11, 12, 13, 14, 15, 16, 17, 18, 19, 20, 21, 22, 23, 24, 25, 26, 27, 28, 29, 30, 31, 32, 33, 34, 35, 36, 37, 38, 39, 40, 41, 42, 43] (by decide +kernel) (by decide +kernel)
set_option maxRecDepth 20000 in
theorem gX6_best_X6_pairs : GoodIn wsX6_best (wsV RX6 136 RX6 yX6_pairs wsX6_pairs) := goodIn_app (goodIn_of _ (by decide +kernel)) ggX6_best_X6_pairs
theorem dX6_best_0 : decode cX6_best 0 = .ok (.iconst 0, 1) := by decide +kernel
theorem dX6_best_1 : decode cX6_best 1 = .ok (.istore_n 1, 1) := by decide +kernel
theorem dX6_best_2 : decode cX6_best 2 = .ok (.iconst 1, 1) := by decide +kernel
theorem dX6_best_3 : decode cX6_best 3 = .ok (.istore_n 2, 1) := by decide +kernel
theorem dX6_best_4 : decode cX6_best 4 = .ok (.iload_n 2, 1) := by decide +kernel
theorem dX6_best_5 : decode cX6_best 5 = .ok (.iconst 4, 1) := by decide +kernel
theorem dX6_best_6 : decode cX6_best 6 = .ok (.if_icmp .ge 28, 3) := by decide +kernel
theorem dX6_best_9 : decode cX6_best 9 = .ok (.aload_n 0, 1) := by decide +kernel
theorem dX6_best_10 : decode cX6_best 10 = .ok (.iload_n 2, 1) := by decide +kernel
theorem dX6_best_11 : decode cX6_best 11 = .ok (.invokevirtual 136, 3) := by decide +kernel
theorem dX6_best_14 : decode cX6_best 14 = .ok (.aload_n 0, 1) := by decide +kernel
theorem dX6_best_15 : decode cX6_best 15 = .ok (.iload_n 1, 1) := by decide +kernel
theorem dX6_best_16 : decode cX6_best 16 = .ok (.invokevirtual 136, 3) := by decide +kernel
theorem dX6_best_19 : decode cX6_best 19 = .ok (.if_icmp .le 7, 3) := by decide +kernel
theorem dX6_best_22 : decode cX6_best 22 = .ok (.iload_n 2, 1) := by decide +kernel
theorem dX6_best_23 : decode cX6_best 23 = .ok (.goto 4, 3) := by decide +kernel
theorem dX6_best_26 : decode cX6_best 26 = .ok (.iload_n 1, 1) := by decide +kernel
theorem dX6_best_27 : decode cX6_best 27 = .ok (.istore_n 1, 1) := by decide +kernel
theorem dX6_best_28 : decode cX6_best 28 = .ok (.iinc 2 1, 3) := by decide +kernel
theorem dX6_best_31 : decode cX6_best 31 = .ok (.goto (-27), 3) := by decide +kernel
theorem dX6_best_34 : decode cX6_best 34 = .ok (.iload_n 1, 1) := by decide +kernel
theorem dX6_best_35 : decode cX6_best 35 = .ok (.ireturn, 1) := by decide +kernel
set_option maxRecDepth 20000 in
theorem ggX6_bestPainter_X6_best : GoodIn wsX6_bestPainter wsX6_best := goodIn_r _ [6, 7, 8, 9, 5, 10, 11, 12, 13, 14, 15, 16, 17, 18, 19, 20, 21, 22, 23, 24, 25, 26, 27, 28, 29, 30, 31, 32, 33, 34, 35, 36, 37, 38, 39, 40, 41, 42, 43, 44, 45, 46, 47, 48] (by decide +kernel) (by decide +kernel)
set_option maxRecDepth 20000 in
theorem gX6_bestPainter_X6_best : GoodIn wsX6_bestPainter (wsV RX6 187 RX6 yX6_best wsX6_best) := goodIn_app (goodIn_of _ (by decide +kernel)) ggX6_bestPainter_X6_best
theorem dX6_bestPainter_0 : decode cX6_bestPainter 0 = .ok (.aload_n 0, 1) := by decide +kernel
theorem dX6_bestPainter_1 : decode cX6_bestPainter 1 = .ok (.iconst 0, 1) := by decide +kernel
theorem dX6_bestPainter_2 : decode cX6_bestPainter 2 = .ok (.putfield 31, 3) := by decide +kernel
theorem dX6_bestPainter_5 : decode cX6_bestPainter 5 = .ok (.aload_n 0, 1) := by decide +kernel
theorem dX6_bestPainter_6 : decode cX6_bestPainter 6 = .ok (.invokevirtual 187, 3) := by decide +kernel
theorem dX6_bestPainter_9 : decode cX6_bestPainter 9 = .ok (.ireturn, 1) := by decide +kernel
set_option maxRecDepth 20000 in
theorem ggX6_apartShare_X6_pairs : GoodIn wsX6_apartShare wsX6_pairs := goodIn_r _ [7, 8, 9, 10, 6, 11, 12, 13, 14, 15, 16, 17, 18, 19, 20, 21, 22, 23, 24, 25, 26, 27, 28, 29, 30, 31, 32, 33, 34, 35, 36, 37, 38, 39, 40, 41, 42, 43, 44, 45] (by decide +kernel) (by decide +kernel)
set_option maxRecDepth 20000 in
theorem gX6_apartShare_X6_pairs : GoodIn wsX6_apartShare (wsV RX6 136 RX6 yX6_pairs wsX6_pairs) := goodIn_app (goodIn_of _ (by decide +kernel)) ggX6_apartShare_X6_pairs
theorem dX6_apartShare_0 : decode cX6_apartShare 0 = .ok (.aload_n 0, 1) := by decide +kernel
theorem dX6_apartShare_1 : decode cX6_apartShare 1 = .ok (.iconst 0, 1) := by decide +kernel
theorem dX6_apartShare_2 : decode cX6_apartShare 2 = .ok (.putfield 31, 3) := by decide +kernel
theorem dX6_apartShare_5 : decode cX6_apartShare 5 = .ok (.aload_n 0, 1) := by decide +kernel
theorem dX6_apartShare_6 : decode cX6_apartShare 6 = .ok (.iconst 0, 1) := by decide +kernel
theorem dX6_apartShare_7 : decode cX6_apartShare 7 = .ok (.invokevirtual 136, 3) := by decide +kernel
theorem dX6_apartShare_10 : decode cX6_apartShare 10 = .ok (.aload_n 0, 1) := by decide +kernel
theorem dX6_apartShare_11 : decode cX6_apartShare 11 = .ok (.iconst 1, 1) := by decide +kernel
theorem dX6_apartShare_12 : decode cX6_apartShare 12 = .ok (.invokevirtual 136, 3) := by decide +kernel
theorem dX6_apartShare_15 : decode cX6_apartShare 15 = .ok (.iadd, 1) := by decide +kernel
theorem dX6_apartShare_16 : decode cX6_apartShare 16 = .ok (.aload_n 0, 1) := by decide +kernel
theorem dX6_apartShare_17 : decode cX6_apartShare 17 = .ok (.iconst 2, 1) := by decide +kernel
theorem dX6_apartShare_18 : decode cX6_apartShare 18 = .ok (.invokevirtual 136, 3) := by decide +kernel
theorem dX6_apartShare_21 : decode cX6_apartShare 21 = .ok (.iadd, 1) := by decide +kernel
theorem dX6_apartShare_22 : decode cX6_apartShare 22 = .ok (.aload_n 0, 1) := by decide +kernel
theorem dX6_apartShare_23 : decode cX6_apartShare 23 = .ok (.iconst 3, 1) := by decide +kernel
theorem dX6_apartShare_24 : decode cX6_apartShare 24 = .ok (.invokevirtual 136, 3) := by decide +kernel
theorem dX6_apartShare_27 : decode cX6_apartShare 27 = .ok (.iadd, 1) := by decide +kernel
theorem dX6_apartShare_28 : decode cX6_apartShare 28 = .ok (.i2d, 1) := by decide +kernel
theorem dX6_apartShare_29 : decode cX6_apartShare 29 = .ok (.ldc2_w 190, 3) := by decide +kernel
theorem dX6_apartShare_32 : decode cX6_apartShare 32 = .ok (.ddiv, 1) := by decide +kernel
theorem dX6_apartShare_33 : decode cX6_apartShare 33 = .ok (.dreturn, 1) := by decide +kernel
set_option maxRecDepth 20000 in
theorem ggX6_mixedOf_X6_ofPainter : GoodIn wsX6_mixedOf wsX6_ofPainter := goodIn_r _ [6, 7, 8, 9, 5, 10, 11, 12, 13, 14, 15, 16, 17, 18, 19, 20, 21, 22, 23, 24, 25, 26, 27, 28, 29, 30, 31, 32, 33, 34, 35, 36, 37, 38, 39, 40, 41, 42, 43, 44, 45, 46, 47, 48, 49, 50, 51, 52, 53, 54, 55, 56, 57, 58, 59, 60, 61, 62, 63, 64, 98, 99, 100, 101, 102, 103, 104, 105, 106, 107, 108, 109] (by decide +kernel) (by decide +kernel)
set_option maxRecDepth 20000 in
theorem gX6_mixedOf_X6_ofPainter : GoodIn wsX6_mixedOf (wsV RX6 160 RX6 yX6_ofPainter wsX6_ofPainter) := goodIn_app (goodIn_of _ (by decide +kernel)) ggX6_mixedOf_X6_ofPainter
set_option maxRecDepth 20000 in
theorem ggX6_mixedOf_X6_seenBy : GoodIn wsX6_mixedOf wsX6_seenBy := goodIn_r _ [68, 7, 8, 9, 5, 10, 31, 32, 33, 98, 99, 100, 101, 102, 103, 104, 105, 106, 107, 108, 109] (by decide +kernel) (by decide +kernel)
set_option maxRecDepth 20000 in
theorem gX6_mixedOf_X6_seenBy : GoodIn wsX6_mixedOf (wsV RX6 151 RX6 yX6_seenBy wsX6_seenBy) := goodIn_app (goodIn_of _ (by decide +kernel)) ggX6_mixedOf_X6_seenBy
set_option maxRecDepth 20000 in
theorem ggX6_mixedOf_X6_bySets : GoodIn wsX6_mixedOf wsX6_bySets := goodIn_r _ [72, 73, 74, 75, 76, 5, 77, 45, 46, 47, 48, 7, 8, 9, 10, 19, 20, 21, 22, 23, 24, 25, 26, 27, 28, 29, 30, 31, 32, 33, 34, 35, 36, 98, 99, 100, 101, 102, 103, 104, 105, 106, 107, 108, 109] (by decide +kernel) (by decide +kernel)
set_option maxRecDepth 20000 in
theorem gX6_mixedOf_X6_bySets : GoodIn wsX6_mixedOf (wsV RX6 178 RX6 yX6_bySets wsX6_bySets) := goodIn_app (goodIn_of _ (by decide +kernel)) ggX6_mixedOf_X6_bySets
set_option maxRecDepth 20000 in
theorem ggX6_mixedOf_X6_byTrying : GoodIn wsX6_mixedOf wsX6_byTrying := goodIn_r _ [81, 82, 83, 84, 5, 85, 86, 45, 46, 47, 48, 7, 8, 9, 10, 19, 20, 21, 22, 23, 24, 25, 26, 27, 28, 29, 30, 31, 32, 33, 34, 35, 36, 98, 99, 100, 101, 102, 103, 104, 105, 106, 107, 108, 109] (by decide +kernel) (by decide +kernel)
set_option maxRecDepth 20000 in
theorem gX6_mixedOf_X6_byTrying : GoodIn wsX6_mixedOf (wsV RX6 181 RX6 yX6_byTrying wsX6_byTrying) := goodIn_app (goodIn_of _ (by decide +kernel)) ggX6_mixedOf_X6_byTrying
set_option maxRecDepth 20000 in
theorem ggX6_mixedOf_X6_withLender : GoodIn wsX6_mixedOf wsX6_withLender := goodIn_r _ [90, 15, 16, 17, 5, 18, 19, 20, 21, 22, 7, 23, 24, 25, 26, 8, 9, 10, 27, 28, 29, 30, 31, 32, 33, 34, 35, 36, 98, 99, 100, 101, 102, 103, 104, 105, 106, 107, 108, 109] (by decide +kernel) (by decide +kernel)
set_option maxRecDepth 20000 in
theorem gX6_mixedOf_X6_withLender : GoodIn wsX6_mixedOf (wsV RX6 184 RX6 yX6_withLender wsX6_withLender) := goodIn_app (goodIn_of _ (by decide +kernel)) ggX6_mixedOf_X6_withLender
set_option maxRecDepth 20000 in
theorem ggX6_mixedOf_X6_least : GoodIn wsX6_mixedOf wsX6_least := goodIn_r _ [94, 7, 95, 96, 97, 34, 35, 5, 36, 8, 9, 10, 23, 24, 25, 26, 27, 28, 29, 30, 31, 32, 33, 98, 99, 100, 101, 102, 103, 104, 105, 106, 107, 108, 109] (by decide +kernel) (by decide +kernel)
set_option maxRecDepth 20000 in
theorem gX6_mixedOf_X6_least : GoodIn wsX6_mixedOf (wsV RX6 123 RX6 yX6_least wsX6_least) := goodIn_app (goodIn_of _ (by decide +kernel)) ggX6_mixedOf_X6_least
theorem dX6_mixedOf_0 : decode cX6_mixedOf 0 = .ok (.lload_n 1, 1) := by decide +kernel
theorem dX6_mixedOf_1 : decode cX6_mixedOf 1 = .ok (.lstore 4, 2) := by decide +kernel
theorem dX6_mixedOf_3 : decode cX6_mixedOf 3 = .ok (.iconst 0, 1) := by decide +kernel
theorem dX6_mixedOf_4 : decode cX6_mixedOf 4 = .ok (.istore 6, 2) := by decide +kernel
theorem dX6_mixedOf_6 : decode cX6_mixedOf 6 = .ok (.iload 6, 2) := by decide +kernel
theorem dX6_mixedOf_8 : decode cX6_mixedOf 8 = .ok (.bipush 7, 2) := by decide +kernel
theorem dX6_mixedOf_10 : decode cX6_mixedOf 10 = .ok (.if_icmp .ge 26, 3) := by decide +kernel
theorem dX6_mixedOf_13 : decode cX6_mixedOf 13 = .ok (.ldc2_w 192, 3) := by decide +kernel
theorem dX6_mixedOf_16 : decode cX6_mixedOf 16 = .ok (.lload 4, 2) := by decide +kernel
theorem dX6_mixedOf_18 : decode cX6_mixedOf 18 = .ok (.lmul, 1) := by decide +kernel
theorem dX6_mixedOf_19 : decode cX6_mixedOf 19 = .ok (.aload_n 0, 1) := by decide +kernel
theorem dX6_mixedOf_20 : decode cX6_mixedOf 20 = .ok (.iload_n 3, 1) := by decide +kernel
theorem dX6_mixedOf_21 : decode cX6_mixedOf 21 = .ok (.iload 6, 2) := by decide +kernel
theorem dX6_mixedOf_23 : decode cX6_mixedOf 23 = .ok (.invokevirtual 160, 3) := by decide +kernel
theorem dX6_mixedOf_26 : decode cX6_mixedOf 26 = .ok (.i2l, 1) := by decide +kernel
theorem dX6_mixedOf_27 : decode cX6_mixedOf 27 = .ok (.ladd, 1) := by decide +kernel
theorem dX6_mixedOf_28 : decode cX6_mixedOf 28 = .ok (.lstore 4, 2) := by decide +kernel
theorem dX6_mixedOf_30 : decode cX6_mixedOf 30 = .ok (.iinc 6 1, 3) := by decide +kernel
theorem dX6_mixedOf_33 : decode cX6_mixedOf 33 = .ok (.goto (-27), 3) := by decide +kernel
theorem dX6_mixedOf_36 : decode cX6_mixedOf 36 = .ok (.iconst 0, 1) := by decide +kernel
theorem dX6_mixedOf_37 : decode cX6_mixedOf 37 = .ok (.istore 6, 2) := by decide +kernel
theorem dX6_mixedOf_39 : decode cX6_mixedOf 39 = .ok (.iload 6, 2) := by decide +kernel
theorem dX6_mixedOf_41 : decode cX6_mixedOf 41 = .ok (.bipush 8, 2) := by decide +kernel
theorem dX6_mixedOf_43 : decode cX6_mixedOf 43 = .ok (.if_icmp .ge 26, 3) := by decide +kernel
theorem dX6_mixedOf_46 : decode cX6_mixedOf 46 = .ok (.ldc2_w 192, 3) := by decide +kernel
theorem dX6_mixedOf_49 : decode cX6_mixedOf 49 = .ok (.lload 4, 2) := by decide +kernel
theorem dX6_mixedOf_51 : decode cX6_mixedOf 51 = .ok (.lmul, 1) := by decide +kernel
theorem dX6_mixedOf_52 : decode cX6_mixedOf 52 = .ok (.aload_n 0, 1) := by decide +kernel
theorem dX6_mixedOf_53 : decode cX6_mixedOf 53 = .ok (.iload_n 3, 1) := by decide +kernel
theorem dX6_mixedOf_54 : decode cX6_mixedOf 54 = .ok (.iload 6, 2) := by decide +kernel
theorem dX6_mixedOf_56 : decode cX6_mixedOf 56 = .ok (.invokevirtual 151, 3) := by decide +kernel
theorem dX6_mixedOf_59 : decode cX6_mixedOf 59 = .ok (.i2l, 1) := by decide +kernel
theorem dX6_mixedOf_60 : decode cX6_mixedOf 60 = .ok (.ladd, 1) := by decide +kernel
theorem dX6_mixedOf_61 : decode cX6_mixedOf 61 = .ok (.lstore 4, 2) := by decide +kernel
theorem dX6_mixedOf_63 : decode cX6_mixedOf 63 = .ok (.iinc 6 1, 3) := by decide +kernel
theorem dX6_mixedOf_66 : decode cX6_mixedOf 66 = .ok (.goto (-27), 3) := by decide +kernel
theorem dX6_mixedOf_69 : decode cX6_mixedOf 69 = .ok (.ldc2_w 192, 3) := by decide +kernel
theorem dX6_mixedOf_72 : decode cX6_mixedOf 72 = .ok (.lload 4, 2) := by decide +kernel
theorem dX6_mixedOf_74 : decode cX6_mixedOf 74 = .ok (.lmul, 1) := by decide +kernel
theorem dX6_mixedOf_75 : decode cX6_mixedOf 75 = .ok (.aload_n 0, 1) := by decide +kernel
theorem dX6_mixedOf_76 : decode cX6_mixedOf 76 = .ok (.iload_n 3, 1) := by decide +kernel
theorem dX6_mixedOf_77 : decode cX6_mixedOf 77 = .ok (.invokevirtual 178, 3) := by decide +kernel
theorem dX6_mixedOf_80 : decode cX6_mixedOf 80 = .ok (.i2l, 1) := by decide +kernel
theorem dX6_mixedOf_81 : decode cX6_mixedOf 81 = .ok (.ladd, 1) := by decide +kernel
theorem dX6_mixedOf_82 : decode cX6_mixedOf 82 = .ok (.lstore 4, 2) := by decide +kernel
theorem dX6_mixedOf_84 : decode cX6_mixedOf 84 = .ok (.ldc2_w 192, 3) := by decide +kernel
theorem dX6_mixedOf_87 : decode cX6_mixedOf 87 = .ok (.lload 4, 2) := by decide +kernel
theorem dX6_mixedOf_89 : decode cX6_mixedOf 89 = .ok (.lmul, 1) := by decide +kernel
theorem dX6_mixedOf_90 : decode cX6_mixedOf 90 = .ok (.aload_n 0, 1) := by decide +kernel
theorem dX6_mixedOf_91 : decode cX6_mixedOf 91 = .ok (.iload_n 3, 1) := by decide +kernel
theorem dX6_mixedOf_92 : decode cX6_mixedOf 92 = .ok (.invokevirtual 181, 3) := by decide +kernel
theorem dX6_mixedOf_95 : decode cX6_mixedOf 95 = .ok (.i2l, 1) := by decide +kernel
theorem dX6_mixedOf_96 : decode cX6_mixedOf 96 = .ok (.ladd, 1) := by decide +kernel
theorem dX6_mixedOf_97 : decode cX6_mixedOf 97 = .ok (.lstore 4, 2) := by decide +kernel
theorem dX6_mixedOf_99 : decode cX6_mixedOf 99 = .ok (.iconst 0, 1) := by decide +kernel
theorem dX6_mixedOf_100 : decode cX6_mixedOf 100 = .ok (.istore 6, 2) := by decide +kernel
theorem dX6_mixedOf_102 : decode cX6_mixedOf 102 = .ok (.iload 6, 2) := by decide +kernel
theorem dX6_mixedOf_104 : decode cX6_mixedOf 104 = .ok (.iconst 4, 1) := by decide +kernel
theorem dX6_mixedOf_105 : decode cX6_mixedOf 105 = .ok (.if_icmp .ge 26, 3) := by decide +kernel
theorem dX6_mixedOf_108 : decode cX6_mixedOf 108 = .ok (.ldc2_w 192, 3) := by decide +kernel
theorem dX6_mixedOf_111 : decode cX6_mixedOf 111 = .ok (.lload 4, 2) := by decide +kernel
theorem dX6_mixedOf_113 : decode cX6_mixedOf 113 = .ok (.lmul, 1) := by decide +kernel
theorem dX6_mixedOf_114 : decode cX6_mixedOf 114 = .ok (.aload_n 0, 1) := by decide +kernel
theorem dX6_mixedOf_115 : decode cX6_mixedOf 115 = .ok (.iload_n 3, 1) := by decide +kernel
theorem dX6_mixedOf_116 : decode cX6_mixedOf 116 = .ok (.iload 6, 2) := by decide +kernel
theorem dX6_mixedOf_118 : decode cX6_mixedOf 118 = .ok (.invokevirtual 184, 3) := by decide +kernel
theorem dX6_mixedOf_121 : decode cX6_mixedOf 121 = .ok (.i2l, 1) := by decide +kernel
theorem dX6_mixedOf_122 : decode cX6_mixedOf 122 = .ok (.ladd, 1) := by decide +kernel
theorem dX6_mixedOf_123 : decode cX6_mixedOf 123 = .ok (.lstore 4, 2) := by decide +kernel
theorem dX6_mixedOf_125 : decode cX6_mixedOf 125 = .ok (.iinc 6 1, 3) := by decide +kernel
theorem dX6_mixedOf_128 : decode cX6_mixedOf 128 = .ok (.goto (-26), 3) := by decide +kernel
theorem dX6_mixedOf_131 : decode cX6_mixedOf 131 = .ok (.ldc2_w 192, 3) := by decide +kernel
theorem dX6_mixedOf_134 : decode cX6_mixedOf 134 = .ok (.lload 4, 2) := by decide +kernel
theorem dX6_mixedOf_136 : decode cX6_mixedOf 136 = .ok (.lmul, 1) := by decide +kernel
theorem dX6_mixedOf_137 : decode cX6_mixedOf 137 = .ok (.aload_n 0, 1) := by decide +kernel
theorem dX6_mixedOf_138 : decode cX6_mixedOf 138 = .ok (.iload_n 3, 1) := by decide +kernel
theorem dX6_mixedOf_139 : decode cX6_mixedOf 139 = .ok (.iconst 0, 1) := by decide +kernel
theorem dX6_mixedOf_140 : decode cX6_mixedOf 140 = .ok (.bipush 7, 2) := by decide +kernel
theorem dX6_mixedOf_142 : decode cX6_mixedOf 142 = .ok (.invokevirtual 123, 3) := by decide +kernel
theorem dX6_mixedOf_145 : decode cX6_mixedOf 145 = .ok (.i2l, 1) := by decide +kernel
theorem dX6_mixedOf_146 : decode cX6_mixedOf 146 = .ok (.ladd, 1) := by decide +kernel
theorem dX6_mixedOf_147 : decode cX6_mixedOf 147 = .ok (.lstore 4, 2) := by decide +kernel
theorem dX6_mixedOf_149 : decode cX6_mixedOf 149 = .ok (.ldc2_w 192, 3) := by decide +kernel
theorem dX6_mixedOf_152 : decode cX6_mixedOf 152 = .ok (.lload 4, 2) := by decide +kernel
theorem dX6_mixedOf_154 : decode cX6_mixedOf 154 = .ok (.lmul, 1) := by decide +kernel
theorem dX6_mixedOf_155 : decode cX6_mixedOf 155 = .ok (.aload_n 0, 1) := by decide +kernel
theorem dX6_mixedOf_156 : decode cX6_mixedOf 156 = .ok (.iload_n 3, 1) := by decide +kernel
theorem dX6_mixedOf_157 : decode cX6_mixedOf 157 = .ok (.bipush 7, 2) := by decide +kernel
theorem dX6_mixedOf_159 : decode cX6_mixedOf 159 = .ok (.iconst 0, 1) := by decide +kernel
theorem dX6_mixedOf_160 : decode cX6_mixedOf 160 = .ok (.invokevirtual 123, 3) := by decide +kernel
theorem dX6_mixedOf_163 : decode cX6_mixedOf 163 = .ok (.i2l, 1) := by decide +kernel
theorem dX6_mixedOf_164 : decode cX6_mixedOf 164 = .ok (.ladd, 1) := by decide +kernel
theorem dX6_mixedOf_165 : decode cX6_mixedOf 165 = .ok (.lreturn, 1) := by decide +kernel
set_option maxRecDepth 20000 in
theorem ggX6_digest_X6_counted : GoodIn wsX6_digest wsX6_counted := goodIn_r _ [11, 3, 12, 13, 14, 15, 10, 16, 17, 18, 19, 20, 21, 22, 23, 24, 25, 26, 27, 28, 29, 30, 31, 32, 33, 34, 35, 36, 37, 38, 39, 40, 41, 42, 43, 44, 45, 46, 47, 48, 49, 50, 51, 52, 53, 54, 55, 56, 57, 58, 59, 60, 61, 62, 63, 64, 65, 66, 67, 68, 69, 70, 71, 72, 73, 74, 75, 76, 77, 78, 79, 80, 81, 82, 83, 84, 85, 161, 162, 163, 164, 165, 166, 167, 168, 169, 170, 171, 172] (by decide +kernel) (by decide +kernel)
set_option maxRecDepth 20000 in
theorem gX6_digest_X6_counted : GoodIn wsX6_digest (wsV RX6 169 RX6 yX6_counted wsX6_counted) := goodIn_app (goodIn_of _ (by decide +kernel)) ggX6_digest_X6_counted
set_option maxRecDepth 20000 in
theorem ggX6_digest_X6_ofPot : GoodIn wsX6_digest wsX6_ofPot := goodIn_r _ [89, 3, 90, 91, 92, 10, 93, 29, 30, 31, 32, 33, 34, 35, 36, 37, 38, 39, 40, 41, 42, 43, 44, 45, 46, 47, 48, 49, 50, 51, 52, 53, 161, 162, 163, 164, 165, 166, 167, 168, 169, 170, 171, 172] (by decide +kernel) (by decide +kernel)
set_option maxRecDepth 20000 in
theorem gX6_digest_X6_ofPot : GoodIn wsX6_digest (wsV RX6 148 RX6 yX6_ofPot wsX6_ofPot) := goodIn_app (goodIn_of _ (by decide +kernel)) ggX6_digest_X6_ofPot
set_option maxRecDepth 20000 in
theorem ggX6_digest_X6_mixedOf : GoodIn wsX6_digest wsX6_mixedOf := goodIn_r _ [97, 2, 54, 55, 56, 10, 57, 3, 33, 34, 35, 58, 59, 60, 61, 62, 63, 64, 65, 36, 37, 38, 39, 40, 41, 42, 43, 44, 45, 46, 47, 48, 49, 50, 51, 52, 53, 66, 67, 68, 69, 17, 18, 19, 20, 29, 30, 31, 32, 70, 71, 72, 73, 74, 75, 76, 77, 78, 79, 80, 81, 82, 83, 84, 85, 98, 99, 100, 101, 102, 103, 104, 105, 106, 107, 108, 109, 110, 111, 112, 113, 114, 115, 116, 117, 118, 119, 120, 121, 122, 123, 124, 125, 126, 127, 128, 129, 130, 161, 162, 163, 164, 165, 166, 167, 168, 169, 170, 171, 172] (by decide +kernel) (by decide +kernel)
set_option maxRecDepth 20000 in
theorem gX6_digest_X6_mixedOf : GoodIn wsX6_digest (wsV RX6 196 RX6 yX6_mixedOf wsX6_mixedOf) := goodIn_app (goodIn_of _ (by decide +kernel)) ggX6_digest_X6_mixedOf
set_option maxRecDepth 20000 in
theorem ggX6_digest_X6_ofChart : GoodIn wsX6_digest wsX6_ofChart := goodIn_r _ [134, 78, 79, 80, 10, 81, 3, 82, 83, 84, 85, 135, 136, 137, 138, 74, 75, 76, 77, 29, 30, 31, 32, 33, 34, 35, 36, 37, 38, 39, 40, 41, 42, 43, 44, 45, 46, 47, 48, 49, 50, 51, 52, 53, 161, 162, 163, 164, 165, 166, 167, 168, 169, 170, 171, 172] (by decide +kernel) (by decide +kernel)
set_option maxRecDepth 20000 in
theorem gX6_digest_X6_ofChart : GoodIn wsX6_digest (wsV RX6 163 RX6 yX6_ofChart wsX6_ofChart) := goodIn_app (goodIn_of _ (by decide +kernel)) ggX6_digest_X6_ofChart
set_option maxRecDepth 20000 in
theorem ggX6_digest_X6_best : GoodIn wsX6_digest wsX6_best := goodIn_r _ [142, 58, 59, 60, 10, 61, 3, 33, 34, 35, 62, 63, 64, 65, 36, 37, 38, 39, 40, 41, 42, 43, 44, 45, 46, 47, 48, 49, 50, 51, 52, 53, 161, 162, 163, 164, 165, 166, 167, 168, 169, 170, 171, 172] (by decide +kernel) (by decide +kernel)
set_option maxRecDepth 20000 in
theorem gX6_digest_X6_best : GoodIn wsX6_digest (wsV RX6 187 RX6 yX6_best wsX6_best) := goodIn_app (goodIn_of _ (by decide +kernel)) ggX6_digest_X6_best
set_option maxRecDepth 20000 in
theorem ggX6_digest_X6_apartShare : GoodIn wsX6_digest wsX6_apartShare := goodIn_r _ [146, 147, 148, 58, 59, 60, 10, 61, 3, 33, 34, 35, 62, 63, 64, 65, 36, 37, 38, 39, 40, 41, 42, 43, 44, 45, 46, 47, 48, 49, 50, 51, 52, 53, 161, 162, 163, 164, 165, 166, 167, 168, 169, 170, 171, 172] (by decide +kernel) (by decide +kernel)
set_option maxRecDepth 20000 in
theorem gX6_digest_X6_apartShare : GoodIn wsX6_digest (wsV RX6 200 RX6 yX6_apartShare wsX6_apartShare) := goodIn_app (goodIn_of _ (by decide +kernel)) ggX6_digest_X6_apartShare
set_option maxRecDepth 20000 in
theorem ggX6_digest_Jxe99ae_doubleToLongBits_ccdee : GoodIn wsX6_digest wsJxe99ae_doubleToLongBits_ccdee := goodIn_r _ [152, 153, 154, 155, 156, 157, 158, 159, 151, 160] (by decide +kernel) (by decide +kernel)
set_option maxRecDepth 20000 in
theorem gX6_digest_Jxe99ae_doubleToLongBits_ccdee : GoodIn wsX6_digest (va_wsS RX6 204 yJxe99ae_doubleToLongBits_ccdee wsJxe99ae_doubleToLongBits_ccdee) := goodIn_app (goodIn_of _ (by decide +kernel)) ggX6_digest_Jxe99ae_doubleToLongBits_ccdee
theorem dX6_digest_0 : decode cX6_digest 0 = .ok (.ldc2_w 194, 3) := by decide +kernel
theorem dX6_digest_3 : decode cX6_digest 3 = .ok (.lstore_n 1, 1) := by decide +kernel
theorem dX6_digest_4 : decode cX6_digest 4 = .ok (.iconst 0, 1) := by decide +kernel
theorem dX6_digest_5 : decode cX6_digest 5 = .ok (.istore_n 3, 1) := by decide +kernel
theorem dX6_digest_6 : decode cX6_digest 6 = .ok (.iload_n 3, 1) := by decide +kernel
theorem dX6_digest_7 : decode cX6_digest 7 = .ok (.bipush 8, 2) := by decide +kernel
theorem dX6_digest_9 : decode cX6_digest 9 = .ok (.if_icmp .ge 22, 3) := by decide +kernel
theorem dX6_digest_12 : decode cX6_digest 12 = .ok (.ldc2_w 192, 3) := by decide +kernel
theorem dX6_digest_15 : decode cX6_digest 15 = .ok (.lload_n 1, 1) := by decide +kernel
theorem dX6_digest_16 : decode cX6_digest 16 = .ok (.lmul, 1) := by decide +kernel
theorem dX6_digest_17 : decode cX6_digest 17 = .ok (.aload_n 0, 1) := by decide +kernel
theorem dX6_digest_18 : decode cX6_digest 18 = .ok (.iload_n 3, 1) := by decide +kernel
theorem dX6_digest_19 : decode cX6_digest 19 = .ok (.invokevirtual 169, 3) := by decide +kernel
theorem dX6_digest_22 : decode cX6_digest 22 = .ok (.i2l, 1) := by decide +kernel
theorem dX6_digest_23 : decode cX6_digest 23 = .ok (.ladd, 1) := by decide +kernel
theorem dX6_digest_24 : decode cX6_digest 24 = .ok (.lstore_n 1, 1) := by decide +kernel
theorem dX6_digest_25 : decode cX6_digest 25 = .ok (.iinc 3 1, 3) := by decide +kernel
theorem dX6_digest_28 : decode cX6_digest 28 = .ok (.goto (-22), 3) := by decide +kernel
theorem dX6_digest_31 : decode cX6_digest 31 = .ok (.iconst 0, 1) := by decide +kernel
theorem dX6_digest_32 : decode cX6_digest 32 = .ok (.istore_n 3, 1) := by decide +kernel
theorem dX6_digest_33 : decode cX6_digest 33 = .ok (.iload_n 3, 1) := by decide +kernel
theorem dX6_digest_34 : decode cX6_digest 34 = .ok (.bipush 40, 2) := by decide +kernel
theorem dX6_digest_36 : decode cX6_digest 36 = .ok (.if_icmp .ge 27, 3) := by decide +kernel
theorem dX6_digest_39 : decode cX6_digest 39 = .ok (.ldc2_w 192, 3) := by decide +kernel
theorem dX6_digest_42 : decode cX6_digest 42 = .ok (.lload_n 1, 1) := by decide +kernel
theorem dX6_digest_43 : decode cX6_digest 43 = .ok (.lmul, 1) := by decide +kernel
theorem dX6_digest_44 : decode cX6_digest 44 = .ok (.aload_n 0, 1) := by decide +kernel
theorem dX6_digest_45 : decode cX6_digest 45 = .ok (.iload_n 3, 1) := by decide +kernel
theorem dX6_digest_46 : decode cX6_digest 46 = .ok (.iconst 5, 1) := by decide +kernel
theorem dX6_digest_47 : decode cX6_digest 47 = .ok (.idiv, 1) := by decide +kernel
theorem dX6_digest_48 : decode cX6_digest 48 = .ok (.iload_n 3, 1) := by decide +kernel
theorem dX6_digest_49 : decode cX6_digest 49 = .ok (.iconst 5, 1) := by decide +kernel
theorem dX6_digest_50 : decode cX6_digest 50 = .ok (.irem, 1) := by decide +kernel
theorem dX6_digest_51 : decode cX6_digest 51 = .ok (.invokevirtual 148, 3) := by decide +kernel
theorem dX6_digest_54 : decode cX6_digest 54 = .ok (.i2l, 1) := by decide +kernel
theorem dX6_digest_55 : decode cX6_digest 55 = .ok (.ladd, 1) := by decide +kernel
theorem dX6_digest_56 : decode cX6_digest 56 = .ok (.lstore_n 1, 1) := by decide +kernel
theorem dX6_digest_57 : decode cX6_digest 57 = .ok (.iinc 3 1, 3) := by decide +kernel
theorem dX6_digest_60 : decode cX6_digest 60 = .ok (.goto (-27), 3) := by decide +kernel
theorem dX6_digest_63 : decode cX6_digest 63 = .ok (.iconst 0, 1) := by decide +kernel
theorem dX6_digest_64 : decode cX6_digest 64 = .ok (.istore_n 3, 1) := by decide +kernel
theorem dX6_digest_65 : decode cX6_digest 65 = .ok (.iload_n 3, 1) := by decide +kernel
theorem dX6_digest_66 : decode cX6_digest 66 = .ok (.iconst 4, 1) := by decide +kernel
theorem dX6_digest_67 : decode cX6_digest 67 = .ok (.if_icmp .ge 16, 3) := by decide +kernel
theorem dX6_digest_70 : decode cX6_digest 70 = .ok (.aload_n 0, 1) := by decide +kernel
theorem dX6_digest_71 : decode cX6_digest 71 = .ok (.lload_n 1, 1) := by decide +kernel
theorem dX6_digest_72 : decode cX6_digest 72 = .ok (.iload_n 3, 1) := by decide +kernel
theorem dX6_digest_73 : decode cX6_digest 73 = .ok (.invokevirtual 196, 3) := by decide +kernel
theorem dX6_digest_76 : decode cX6_digest 76 = .ok (.lstore_n 1, 1) := by decide +kernel
theorem dX6_digest_77 : decode cX6_digest 77 = .ok (.iinc 3 1, 3) := by decide +kernel
theorem dX6_digest_80 : decode cX6_digest 80 = .ok (.goto (-15), 3) := by decide +kernel
theorem dX6_digest_83 : decode cX6_digest 83 = .ok (.iconst 0, 1) := by decide +kernel
theorem dX6_digest_84 : decode cX6_digest 84 = .ok (.istore_n 3, 1) := by decide +kernel
theorem dX6_digest_85 : decode cX6_digest 85 = .ok (.iload_n 3, 1) := by decide +kernel
theorem dX6_digest_86 : decode cX6_digest 86 = .ok (.iconst 3, 1) := by decide +kernel
theorem dX6_digest_87 : decode cX6_digest 87 = .ok (.aload_n 0, 1) := by decide +kernel
theorem dX6_digest_88 : decode cX6_digest 88 = .ok (.getfield 7, 3) := by decide +kernel
theorem dX6_digest_91 : decode cX6_digest 91 = .ok (.bipush 44, 2) := by decide +kernel
theorem dX6_digest_93 : decode cX6_digest 93 = .ok (.iaload, 1) := by decide +kernel
theorem dX6_digest_94 : decode cX6_digest 94 = .ok (.imul, 1) := by decide +kernel
theorem dX6_digest_95 : decode cX6_digest 95 = .ok (.if_icmp .ge 27, 3) := by decide +kernel
theorem dX6_digest_98 : decode cX6_digest 98 = .ok (.ldc2_w 192, 3) := by decide +kernel
theorem dX6_digest_101 : decode cX6_digest 101 = .ok (.lload_n 1, 1) := by decide +kernel
theorem dX6_digest_102 : decode cX6_digest 102 = .ok (.lmul, 1) := by decide +kernel
theorem dX6_digest_103 : decode cX6_digest 103 = .ok (.aload_n 0, 1) := by decide +kernel
theorem dX6_digest_104 : decode cX6_digest 104 = .ok (.iload_n 3, 1) := by decide +kernel
theorem dX6_digest_105 : decode cX6_digest 105 = .ok (.iconst 3, 1) := by decide +kernel
theorem dX6_digest_106 : decode cX6_digest 106 = .ok (.idiv, 1) := by decide +kernel
theorem dX6_digest_107 : decode cX6_digest 107 = .ok (.iload_n 3, 1) := by decide +kernel
theorem dX6_digest_108 : decode cX6_digest 108 = .ok (.iconst 3, 1) := by decide +kernel
theorem dX6_digest_109 : decode cX6_digest 109 = .ok (.irem, 1) := by decide +kernel
theorem dX6_digest_110 : decode cX6_digest 110 = .ok (.invokevirtual 163, 3) := by decide +kernel
theorem dX6_digest_113 : decode cX6_digest 113 = .ok (.i2l, 1) := by decide +kernel
theorem dX6_digest_114 : decode cX6_digest 114 = .ok (.ladd, 1) := by decide +kernel
theorem dX6_digest_115 : decode cX6_digest 115 = .ok (.lstore_n 1, 1) := by decide +kernel
theorem dX6_digest_116 : decode cX6_digest 116 = .ok (.iinc 3 1, 3) := by decide +kernel
theorem dX6_digest_119 : decode cX6_digest 119 = .ok (.goto (-34), 3) := by decide +kernel
theorem dX6_digest_122 : decode cX6_digest 122 = .ok (.ldc2_w 192, 3) := by decide +kernel
theorem dX6_digest_125 : decode cX6_digest 125 = .ok (.lload_n 1, 1) := by decide +kernel
theorem dX6_digest_126 : decode cX6_digest 126 = .ok (.lmul, 1) := by decide +kernel
theorem dX6_digest_127 : decode cX6_digest 127 = .ok (.aload_n 0, 1) := by decide +kernel
theorem dX6_digest_128 : decode cX6_digest 128 = .ok (.invokevirtual 187, 3) := by decide +kernel
theorem dX6_digest_131 : decode cX6_digest 131 = .ok (.i2l, 1) := by decide +kernel
theorem dX6_digest_132 : decode cX6_digest 132 = .ok (.ladd, 1) := by decide +kernel
theorem dX6_digest_133 : decode cX6_digest 133 = .ok (.lstore_n 1, 1) := by decide +kernel
theorem dX6_digest_134 : decode cX6_digest 134 = .ok (.ldc2_w 192, 3) := by decide +kernel
theorem dX6_digest_137 : decode cX6_digest 137 = .ok (.lload_n 1, 1) := by decide +kernel
theorem dX6_digest_138 : decode cX6_digest 138 = .ok (.lmul, 1) := by decide +kernel
theorem dX6_digest_139 : decode cX6_digest 139 = .ok (.aload_n 0, 1) := by decide +kernel
theorem dX6_digest_140 : decode cX6_digest 140 = .ok (.invokevirtual 200, 3) := by decide +kernel
theorem dX6_digest_143 : decode cX6_digest 143 = .ok (.invokestatic 204, 3) := by decide +kernel
theorem dX6_digest_146 : decode cX6_digest 146 = .ok (.ladd, 1) := by decide +kernel
theorem dX6_digest_147 : decode cX6_digest 147 = .ok (.lstore_n 1, 1) := by decide +kernel
theorem dX6_digest_148 : decode cX6_digest 148 = .ok (.ldc2_w 192, 3) := by decide +kernel
theorem dX6_digest_151 : decode cX6_digest 151 = .ok (.lload_n 1, 1) := by decide +kernel
theorem dX6_digest_152 : decode cX6_digest 152 = .ok (.lmul, 1) := by decide +kernel
theorem dX6_digest_153 : decode cX6_digest 153 = .ok (.aload_n 0, 1) := by decide +kernel
theorem dX6_digest_154 : decode cX6_digest 154 = .ok (.getfield 13, 3) := by decide +kernel
theorem dX6_digest_157 : decode cX6_digest 157 = .ok (.iconst 0, 1) := by decide +kernel
theorem dX6_digest_158 : decode cX6_digest 158 = .ok (.baload, 1) := by decide +kernel
theorem dX6_digest_159 : decode cX6_digest 159 = .ok (.ifCond .eq 7, 3) := by decide +kernel
theorem dX6_digest_162 : decode cX6_digest 162 = .ok (.iconst 1, 1) := by decide +kernel
theorem dX6_digest_163 : decode cX6_digest 163 = .ok (.goto 4, 3) := by decide +kernel
theorem dX6_digest_166 : decode cX6_digest 166 = .ok (.iconst 0, 1) := by decide +kernel
theorem dX6_digest_167 : decode cX6_digest 167 = .ok (.i2l, 1) := by decide +kernel
theorem dX6_digest_168 : decode cX6_digest 168 = .ok (.ladd, 1) := by decide +kernel
theorem dX6_digest_169 : decode cX6_digest 169 = .ok (.lstore_n 1, 1) := by decide +kernel
theorem dX6_digest_170 : decode cX6_digest 170 = .ok (.ldc2_w 192, 3) := by decide +kernel
theorem dX6_digest_173 : decode cX6_digest 173 = .ok (.lload_n 1, 1) := by decide +kernel
theorem dX6_digest_174 : decode cX6_digest 174 = .ok (.lmul, 1) := by decide +kernel
theorem dX6_digest_175 : decode cX6_digest 175 = .ok (.aload_n 0, 1) := by decide +kernel
theorem dX6_digest_176 : decode cX6_digest 176 = .ok (.getfield 13, 3) := by decide +kernel
theorem dX6_digest_179 : decode cX6_digest 179 = .ok (.iconst 1, 1) := by decide +kernel
theorem dX6_digest_180 : decode cX6_digest 180 = .ok (.baload, 1) := by decide +kernel
theorem dX6_digest_181 : decode cX6_digest 181 = .ok (.ifCond .eq 7, 3) := by decide +kernel
theorem dX6_digest_184 : decode cX6_digest 184 = .ok (.iconst 1, 1) := by decide +kernel
theorem dX6_digest_185 : decode cX6_digest 185 = .ok (.goto 4, 3) := by decide +kernel
theorem dX6_digest_188 : decode cX6_digest 188 = .ok (.iconst 0, 1) := by decide +kernel
theorem dX6_digest_189 : decode cX6_digest 189 = .ok (.i2l, 1) := by decide +kernel
theorem dX6_digest_190 : decode cX6_digest 190 = .ok (.ladd, 1) := by decide +kernel
theorem dX6_digest_191 : decode cX6_digest 191 = .ok (.lstore_n 1, 1) := by decide +kernel
theorem dX6_digest_192 : decode cX6_digest 192 = .ok (.ldc2_w 192, 3) := by decide +kernel
theorem dX6_digest_195 : decode cX6_digest 195 = .ok (.lload_n 1, 1) := by decide +kernel
theorem dX6_digest_196 : decode cX6_digest 196 = .ok (.lmul, 1) := by decide +kernel
theorem dX6_digest_197 : decode cX6_digest 197 = .ok (.aload_n 0, 1) := by decide +kernel
theorem dX6_digest_198 : decode cX6_digest 198 = .ok (.getfield 127, 3) := by decide +kernel
theorem dX6_digest_201 : decode cX6_digest 201 = .ok (.i2l, 1) := by decide +kernel
theorem dX6_digest_202 : decode cX6_digest 202 = .ok (.ladd, 1) := by decide +kernel
theorem dX6_digest_203 : decode cX6_digest 203 = .ok (.lstore_n 1, 1) := by decide +kernel
theorem dX6_digest_204 : decode cX6_digest 204 = .ok (.iconst 0, 1) := by decide +kernel
theorem dX6_digest_205 : decode cX6_digest 205 = .ok (.istore_n 3, 1) := by decide +kernel
theorem dX6_digest_206 : decode cX6_digest 206 = .ok (.iload_n 3, 1) := by decide +kernel
theorem dX6_digest_207 : decode cX6_digest 207 = .ok (.aload_n 0, 1) := by decide +kernel
theorem dX6_digest_208 : decode cX6_digest 208 = .ok (.getfield 127, 3) := by decide +kernel
theorem dX6_digest_211 : decode cX6_digest 211 = .ok (.if_icmp .ge 23, 3) := by decide +kernel
theorem dX6_digest_214 : decode cX6_digest 214 = .ok (.ldc2_w 192, 3) := by decide +kernel
theorem dX6_digest_217 : decode cX6_digest 217 = .ok (.lload_n 1, 1) := by decide +kernel
theorem dX6_digest_218 : decode cX6_digest 218 = .ok (.lmul, 1) := by decide +kernel
theorem dX6_digest_219 : decode cX6_digest 219 = .ok (.aload_n 0, 1) := by decide +kernel
theorem dX6_digest_220 : decode cX6_digest 220 = .ok (.getfield 17, 3) := by decide +kernel
theorem dX6_digest_223 : decode cX6_digest 223 = .ok (.iload_n 3, 1) := by decide +kernel
theorem dX6_digest_224 : decode cX6_digest 224 = .ok (.caload, 1) := by decide +kernel
theorem dX6_digest_225 : decode cX6_digest 225 = .ok (.i2l, 1) := by decide +kernel
theorem dX6_digest_226 : decode cX6_digest 226 = .ok (.ladd, 1) := by decide +kernel
theorem dX6_digest_227 : decode cX6_digest 227 = .ok (.lstore_n 1, 1) := by decide +kernel
theorem dX6_digest_228 : decode cX6_digest 228 = .ok (.iinc 3 1, 3) := by decide +kernel
theorem dX6_digest_231 : decode cX6_digest 231 = .ok (.goto (-25), 3) := by decide +kernel
theorem dX6_digest_234 : decode cX6_digest 234 = .ok (.lload_n 1, 1) := by decide +kernel
theorem dX6_digest_235 : decode cX6_digest 235 = .ok (.lreturn, 1) := by decide +kernel
theorem dJxe99ae_isNaN_b9ae7_0 : decode cJxe99ae_isNaN_b9ae7 0 = .ok (.dload_n 0, 1) := by decide +kernel
theorem dJxe99ae_isNaN_b9ae7_1 : decode cJxe99ae_isNaN_b9ae7 1 = .ok (.dload_n 0, 1) := by decide +kernel
theorem dJxe99ae_isNaN_b9ae7_2 : decode cJxe99ae_isNaN_b9ae7 2 = .ok (.dcmp .l, 1) := by decide +kernel
theorem dJxe99ae_isNaN_b9ae7_3 : decode cJxe99ae_isNaN_b9ae7 3 = .ok (.ifCond .eq 7, 3) := by decide +kernel
theorem dJxe99ae_isNaN_b9ae7_6 : decode cJxe99ae_isNaN_b9ae7 6 = .ok (.iconst 1, 1) := by decide +kernel
theorem dJxe99ae_isNaN_b9ae7_7 : decode cJxe99ae_isNaN_b9ae7 7 = .ok (.goto 4, 3) := by decide +kernel
theorem dJxe99ae_isNaN_b9ae7_10 : decode cJxe99ae_isNaN_b9ae7 10 = .ok (.iconst 0, 1) := by decide +kernel
theorem dJxe99ae_isNaN_b9ae7_11 : decode cJxe99ae_isNaN_b9ae7 11 = .ok (.ireturn, 1) := by decide +kernel
