set_option maxRecDepth 20000 in
theorem ggX0_tells_X0_tellsColours : GoodIn wsX0_tells wsX0_tellsColours := goodIn_r _ [7, 8, 9, 10, 11, 12, 13, 14, 15, 16, 17, 18, 19, 20, 21, 22, 23, 24, 25, 26, 27, 28, 29, 30] (by decide +kernel) (by decide +kernel)
set_option maxRecDepth 20000 in
theorem gX0_tells_X0_tellsColours : GoodIn wsX0_tells (wsV RX0 49 RX0 yX0_tellsColours wsX0_tellsColours) := goodIn_app (goodIn_of _ (by decide +kernel)) ggX0_tells_X0_tellsColours
theorem dX0_tells_0 : decode cX0_tells 0 = .ok (.aload_n 0, 1) := by decide +kernel
theorem dX0_tells_1 : decode cX0_tells 1 = .ok (.iload_n 1, 1) := by decide +kernel
theorem dX0_tells_2 : decode cX0_tells 2 = .ok (.aload_n 0, 1) := by decide +kernel
theorem dX0_tells_3 : decode cX0_tells 3 = .ok (.getfield 24, 3) := by decide +kernel
theorem dX0_tells_6 : decode cX0_tells 6 = .ok (.iload_n 1, 1) := by decide +kernel
theorem dX0_tells_7 : decode cX0_tells 7 = .ok (.iaload, 1) := by decide +kernel
theorem dX0_tells_8 : decode cX0_tells 8 = .ok (.aload_n 0, 1) := by decide +kernel
theorem dX0_tells_9 : decode cX0_tells 9 = .ok (.getfield 9, 3) := by decide +kernel
theorem dX0_tells_12 : decode cX0_tells 12 = .ok (.iload_n 2, 1) := by decide +kernel
theorem dX0_tells_13 : decode cX0_tells 13 = .ok (.iaload, 1) := by decide +kernel
theorem dX0_tells_14 : decode cX0_tells 14 = .ok (.aload_n 0, 1) := by decide +kernel
theorem dX0_tells_15 : decode cX0_tells 15 = .ok (.getfield 9, 3) := by decide +kernel
theorem dX0_tells_18 : decode cX0_tells 18 = .ok (.iload_n 3, 1) := by decide +kernel
theorem dX0_tells_19 : decode cX0_tells 19 = .ok (.iaload, 1) := by decide +kernel
theorem dX0_tells_20 : decode cX0_tells 20 = .ok (.invokevirtual 49, 3) := by decide +kernel
theorem dX0_tells_23 : decode cX0_tells 23 = .ok (.ireturn, 1) := by decide +kernel
set_option maxRecDepth 20000 in
theorem ggX0_tellsColours_X1_distance : GoodIn wsX0_tellsColours wsX1_distance := goodIn_r _ [6, 7, 8, 9, 10, 11, 12, 5, 13] (by decide +kernel) (by decide +kernel)
set_option maxRecDepth 20000 in
theorem gX0_tellsColours_X1_distance : GoodIn wsX0_tellsColours (va_wsS RX0 53 yX1_distance wsX1_distance) := goodIn_app (goodIn_of _ (by decide +kernel)) ggX0_tellsColours_X1_distance
theorem dX0_tellsColours_0 : decode cX0_tellsColours 0 = .ok (.aload_n 0, 1) := by decide +kernel
theorem dX0_tellsColours_1 : decode cX0_tellsColours 1 = .ok (.getfield 21, 3) := by decide +kernel
theorem dX0_tellsColours_4 : decode cX0_tellsColours 4 = .ok (.iload_n 1, 1) := by decide +kernel
theorem dX0_tellsColours_5 : decode cX0_tellsColours 5 = .ok (.iaload, 1) := by decide +kernel
theorem dX0_tellsColours_6 : decode cX0_tellsColours 6 = .ok (.istore 5, 2) := by decide +kernel
theorem dX0_tellsColours_8 : decode cX0_tellsColours 8 = .ok (.aload_n 0, 1) := by decide +kernel
theorem dX0_tellsColours_9 : decode cX0_tellsColours 9 = .ok (.getfield 18, 3) := by decide +kernel
theorem dX0_tellsColours_12 : decode cX0_tellsColours 12 = .ok (.iload_n 1, 1) := by decide +kernel
theorem dX0_tellsColours_13 : decode cX0_tellsColours 13 = .ok (.iaload, 1) := by decide +kernel
theorem dX0_tellsColours_14 : decode cX0_tellsColours 14 = .ok (.iload_n 3, 1) := by decide +kernel
theorem dX0_tellsColours_15 : decode cX0_tellsColours 15 = .ok (.iload 4, 2) := by decide +kernel
theorem dX0_tellsColours_17 : decode cX0_tellsColours 17 = .ok (.invokestatic 53, 3) := by decide +kernel
theorem dX0_tellsColours_20 : decode cX0_tellsColours 20 = .ok (.iload 5, 2) := by decide +kernel
theorem dX0_tellsColours_22 : decode cX0_tellsColours 22 = .ok (.if_icmp .le 5, 3) := by decide +kernel
theorem dX0_tellsColours_25 : decode cX0_tellsColours 25 = .ok (.iconst 1, 1) := by decide +kernel
theorem dX0_tellsColours_26 : decode cX0_tellsColours 26 = .ok (.ireturn, 1) := by decide +kernel
theorem dX0_tellsColours_27 : decode cX0_tellsColours 27 = .ok (.iload_n 2, 1) := by decide +kernel
theorem dX0_tellsColours_28 : decode cX0_tellsColours 28 = .ok (.iconst (-1), 1) := by decide +kernel
theorem dX0_tellsColours_29 : decode cX0_tellsColours 29 = .ok (.if_icmp .eq 24, 3) := by decide +kernel
theorem dX0_tellsColours_32 : decode cX0_tellsColours 32 = .ok (.aload_n 0, 1) := by decide +kernel
theorem dX0_tellsColours_33 : decode cX0_tellsColours 33 = .ok (.getfield 18, 3) := by decide +kernel
theorem dX0_tellsColours_36 : decode cX0_tellsColours 36 = .ok (.iload_n 2, 1) := by decide +kernel
theorem dX0_tellsColours_37 : decode cX0_tellsColours 37 = .ok (.iaload, 1) := by decide +kernel
theorem dX0_tellsColours_38 : decode cX0_tellsColours 38 = .ok (.iload_n 3, 1) := by decide +kernel
theorem dX0_tellsColours_39 : decode cX0_tellsColours 39 = .ok (.iload 4, 2) := by decide +kernel
theorem dX0_tellsColours_41 : decode cX0_tellsColours 41 = .ok (.invokestatic 53, 3) := by decide +kernel
theorem dX0_tellsColours_44 : decode cX0_tellsColours 44 = .ok (.iload 5, 2) := by decide +kernel
theorem dX0_tellsColours_46 : decode cX0_tellsColours 46 = .ok (.if_icmp .le 7, 3) := by decide +kernel
theorem dX0_tellsColours_49 : decode cX0_tellsColours 49 = .ok (.iconst 1, 1) := by decide +kernel
theorem dX0_tellsColours_50 : decode cX0_tellsColours 50 = .ok (.goto 4, 3) := by decide +kernel
theorem dX0_tellsColours_53 : decode cX0_tellsColours 53 = .ok (.iconst 0, 1) := by decide +kernel
theorem dX0_tellsColours_54 : decode cX0_tellsColours 54 = .ok (.ireturn, 1) := by decide +kernel
set_option maxRecDepth 20000 in
theorem ggX0_pairsTold_X0_tellsColours : GoodIn wsX0_pairsTold wsX0_tellsColours := goodIn_r _ [6, 7, 8, 9, 10, 11, 12, 13, 14, 15, 16, 17, 18, 19, 20, 21, 22, 23, 24, 25, 26, 27, 28, 29] (by decide +kernel) (by decide +kernel)
set_option maxRecDepth 20000 in
theorem gX0_pairsTold_X0_tellsColours : GoodIn wsX0_pairsTold (wsV RX0 49 RX0 yX0_tellsColours wsX0_tellsColours) := goodIn_app (goodIn_of _ (by decide +kernel)) ggX0_pairsTold_X0_tellsColours
theorem dX0_pairsTold_0 : decode cX0_pairsTold 0 = .ok (.iconst 0, 1) := by decide +kernel
theorem dX0_pairsTold_1 : decode cX0_pairsTold 1 = .ok (.istore_n 3, 1) := by decide +kernel
theorem dX0_pairsTold_2 : decode cX0_pairsTold 2 = .ok (.iconst 0, 1) := by decide +kernel
theorem dX0_pairsTold_3 : decode cX0_pairsTold 3 = .ok (.istore 4, 2) := by decide +kernel
theorem dX0_pairsTold_5 : decode cX0_pairsTold 5 = .ok (.iload 4, 2) := by decide +kernel
theorem dX0_pairsTold_7 : decode cX0_pairsTold 7 = .ok (.bipush 8, 2) := by decide +kernel
theorem dX0_pairsTold_9 : decode cX0_pairsTold 9 = .ok (.if_icmp .ge 54, 3) := by decide +kernel
theorem dX0_pairsTold_12 : decode cX0_pairsTold 12 = .ok (.iload 4, 2) := by decide +kernel
theorem dX0_pairsTold_14 : decode cX0_pairsTold 14 = .ok (.iconst 1, 1) := by decide +kernel
theorem dX0_pairsTold_15 : decode cX0_pairsTold 15 = .ok (.iadd, 1) := by decide +kernel
theorem dX0_pairsTold_16 : decode cX0_pairsTold 16 = .ok (.istore 5, 2) := by decide +kernel
theorem dX0_pairsTold_18 : decode cX0_pairsTold 18 = .ok (.iload 5, 2) := by decide +kernel
theorem dX0_pairsTold_20 : decode cX0_pairsTold 20 = .ok (.bipush 8, 2) := by decide +kernel
theorem dX0_pairsTold_22 : decode cX0_pairsTold 22 = .ok (.if_icmp .ge 35, 3) := by decide +kernel
theorem dX0_pairsTold_25 : decode cX0_pairsTold 25 = .ok (.aload_n 0, 1) := by decide +kernel
theorem dX0_pairsTold_26 : decode cX0_pairsTold 26 = .ok (.iload_n 1, 1) := by decide +kernel
theorem dX0_pairsTold_27 : decode cX0_pairsTold 27 = .ok (.iload_n 2, 1) := by decide +kernel
theorem dX0_pairsTold_28 : decode cX0_pairsTold 28 = .ok (.aload_n 0, 1) := by decide +kernel
theorem dX0_pairsTold_29 : decode cX0_pairsTold 29 = .ok (.getfield 9, 3) := by decide +kernel
theorem dX0_pairsTold_32 : decode cX0_pairsTold 32 = .ok (.iload 4, 2) := by decide +kernel
theorem dX0_pairsTold_34 : decode cX0_pairsTold 34 = .ok (.iaload, 1) := by decide +kernel
theorem dX0_pairsTold_35 : decode cX0_pairsTold 35 = .ok (.aload_n 0, 1) := by decide +kernel
theorem dX0_pairsTold_36 : decode cX0_pairsTold 36 = .ok (.getfield 9, 3) := by decide +kernel
theorem dX0_pairsTold_39 : decode cX0_pairsTold 39 = .ok (.iload 5, 2) := by decide +kernel
theorem dX0_pairsTold_41 : decode cX0_pairsTold 41 = .ok (.iaload, 1) := by decide +kernel
theorem dX0_pairsTold_42 : decode cX0_pairsTold 42 = .ok (.invokevirtual 49, 3) := by decide +kernel
theorem dX0_pairsTold_45 : decode cX0_pairsTold 45 = .ok (.ifCond .eq 6, 3) := by decide +kernel
theorem dX0_pairsTold_48 : decode cX0_pairsTold 48 = .ok (.iinc 3 1, 3) := by decide +kernel
theorem dX0_pairsTold_51 : decode cX0_pairsTold 51 = .ok (.iinc 5 1, 3) := by decide +kernel
theorem dX0_pairsTold_54 : decode cX0_pairsTold 54 = .ok (.goto (-36), 3) := by decide +kernel
theorem dX0_pairsTold_57 : decode cX0_pairsTold 57 = .ok (.iinc 4 1, 3) := by decide +kernel
theorem dX0_pairsTold_60 : decode cX0_pairsTold 60 = .ok (.goto (-55), 3) := by decide +kernel
theorem dX0_pairsTold_63 : decode cX0_pairsTold 63 = .ok (.iload_n 3, 1) := by decide +kernel
theorem dX0_pairsTold_64 : decode cX0_pairsTold 64 = .ok (.ireturn, 1) := by decide +kernel
set_option maxRecDepth 20000 in
theorem ggX0_pairsToldByNobody_X0_tellersOfPair : GoodIn wsX0_pairsToldByNobody wsX0_tellersOfPair := goodIn_r _ [5, 6, 7, 8, 9, 10, 4, 11, 12, 13, 14, 15, 16, 17, 18, 19, 20, 21, 22, 23, 24, 25, 26, 27, 28, 29, 30, 31, 32, 33, 34] (by decide +kernel) (by decide +kernel)
set_option maxRecDepth 20000 in
theorem gX0_pairsToldByNobody_X0_tellersOfPair : GoodIn wsX0_pairsToldByNobody (wsV RX0 59 RX0 yX0_tellersOfPair wsX0_tellersOfPair) := goodIn_app (goodIn_of _ (by decide +kernel)) ggX0_pairsToldByNobody_X0_tellersOfPair
theorem dX0_pairsToldByNobody_0 : decode cX0_pairsToldByNobody 0 = .ok (.iconst 0, 1) := by decide +kernel
theorem dX0_pairsToldByNobody_1 : decode cX0_pairsToldByNobody 1 = .ok (.istore_n 1, 1) := by decide +kernel
theorem dX0_pairsToldByNobody_2 : decode cX0_pairsToldByNobody 2 = .ok (.iconst 0, 1) := by decide +kernel
theorem dX0_pairsToldByNobody_3 : decode cX0_pairsToldByNobody 3 = .ok (.istore_n 2, 1) := by decide +kernel
theorem dX0_pairsToldByNobody_4 : decode cX0_pairsToldByNobody 4 = .ok (.iload_n 2, 1) := by decide +kernel
theorem dX0_pairsToldByNobody_5 : decode cX0_pairsToldByNobody 5 = .ok (.bipush 8, 2) := by decide +kernel
theorem dX0_pairsToldByNobody_7 : decode cX0_pairsToldByNobody 7 = .ok (.if_icmp .ge 37, 3) := by decide +kernel
theorem dX0_pairsToldByNobody_10 : decode cX0_pairsToldByNobody 10 = .ok (.iload_n 2, 1) := by decide +kernel
theorem dX0_pairsToldByNobody_11 : decode cX0_pairsToldByNobody 11 = .ok (.iconst 1, 1) := by decide +kernel
theorem dX0_pairsToldByNobody_12 : decode cX0_pairsToldByNobody 12 = .ok (.iadd, 1) := by decide +kernel
theorem dX0_pairsToldByNobody_13 : decode cX0_pairsToldByNobody 13 = .ok (.istore_n 3, 1) := by decide +kernel
theorem dX0_pairsToldByNobody_14 : decode cX0_pairsToldByNobody 14 = .ok (.iload_n 3, 1) := by decide +kernel
theorem dX0_pairsToldByNobody_15 : decode cX0_pairsToldByNobody 15 = .ok (.bipush 8, 2) := by decide +kernel
theorem dX0_pairsToldByNobody_17 : decode cX0_pairsToldByNobody 17 = .ok (.if_icmp .ge 21, 3) := by decide +kernel
theorem dX0_pairsToldByNobody_20 : decode cX0_pairsToldByNobody 20 = .ok (.aload_n 0, 1) := by decide +kernel
theorem dX0_pairsToldByNobody_21 : decode cX0_pairsToldByNobody 21 = .ok (.iload_n 2, 1) := by decide +kernel
theorem dX0_pairsToldByNobody_22 : decode cX0_pairsToldByNobody 22 = .ok (.iload_n 3, 1) := by decide +kernel
theorem dX0_pairsToldByNobody_23 : decode cX0_pairsToldByNobody 23 = .ok (.invokevirtual 59, 3) := by decide +kernel
theorem dX0_pairsToldByNobody_26 : decode cX0_pairsToldByNobody 26 = .ok (.ifCond .ne 6, 3) := by decide +kernel
theorem dX0_pairsToldByNobody_29 : decode cX0_pairsToldByNobody 29 = .ok (.iinc 1 1, 3) := by decide +kernel
theorem dX0_pairsToldByNobody_32 : decode cX0_pairsToldByNobody 32 = .ok (.iinc 3 1, 3) := by decide +kernel
theorem dX0_pairsToldByNobody_35 : decode cX0_pairsToldByNobody 35 = .ok (.goto (-21), 3) := by decide +kernel
theorem dX0_pairsToldByNobody_38 : decode cX0_pairsToldByNobody 38 = .ok (.iinc 2 1, 3) := by decide +kernel
theorem dX0_pairsToldByNobody_41 : decode cX0_pairsToldByNobody 41 = .ok (.goto (-37), 3) := by decide +kernel
theorem dX0_pairsToldByNobody_44 : decode cX0_pairsToldByNobody 44 = .ok (.iload_n 1, 1) := by decide +kernel
theorem dX0_pairsToldByNobody_45 : decode cX0_pairsToldByNobody 45 = .ok (.ireturn, 1) := by decide +kernel
set_option maxRecDepth 20000 in
theorem ggX0_tellersOfPair_X0_tellsColours : GoodIn wsX0_tellersOfPair wsX0_tellsColours := goodIn_r _ [7, 8, 9, 10, 11, 12, 13, 14, 15, 16, 17, 18, 19, 20, 21, 22, 23, 24, 25, 26, 27, 28, 29, 30] (by decide +kernel) (by decide +kernel)
set_option maxRecDepth 20000 in
theorem gX0_tellersOfPair_X0_tellsColours : GoodIn wsX0_tellersOfPair (wsV RX0 49 RX0 yX0_tellsColours wsX0_tellsColours) := goodIn_app (goodIn_of _ (by decide +kernel)) ggX0_tellersOfPair_X0_tellsColours
theorem dX0_tellersOfPair_0 : decode cX0_tellersOfPair 0 = .ok (.iconst 0, 1) := by decide +kernel
theorem dX0_tellersOfPair_1 : decode cX0_tellersOfPair 1 = .ok (.istore_n 3, 1) := by decide +kernel
theorem dX0_tellersOfPair_2 : decode cX0_tellersOfPair 2 = .ok (.iconst 0, 1) := by decide +kernel
theorem dX0_tellersOfPair_3 : decode cX0_tellersOfPair 3 = .ok (.istore 4, 2) := by decide +kernel
theorem dX0_tellersOfPair_5 : decode cX0_tellersOfPair 5 = .ok (.iload 4, 2) := by decide +kernel
theorem dX0_tellersOfPair_7 : decode cX0_tellersOfPair 7 = .ok (.iconst 4, 1) := by decide +kernel
theorem dX0_tellersOfPair_8 : decode cX0_tellersOfPair 8 = .ok (.if_icmp .ge 44, 3) := by decide +kernel
theorem dX0_tellersOfPair_11 : decode cX0_tellersOfPair 11 = .ok (.aload_n 0, 1) := by decide +kernel
theorem dX0_tellersOfPair_12 : decode cX0_tellersOfPair 12 = .ok (.iload 4, 2) := by decide +kernel
theorem dX0_tellersOfPair_14 : decode cX0_tellersOfPair 14 = .ok (.aload_n 0, 1) := by decide +kernel
theorem dX0_tellersOfPair_15 : decode cX0_tellersOfPair 15 = .ok (.getfield 24, 3) := by decide +kernel
theorem dX0_tellersOfPair_18 : decode cX0_tellersOfPair 18 = .ok (.iload 4, 2) := by decide +kernel
theorem dX0_tellersOfPair_20 : decode cX0_tellersOfPair 20 = .ok (.iaload, 1) := by decide +kernel
theorem dX0_tellersOfPair_21 : decode cX0_tellersOfPair 21 = .ok (.aload_n 0, 1) := by decide +kernel
theorem dX0_tellersOfPair_22 : decode cX0_tellersOfPair 22 = .ok (.getfield 9, 3) := by decide +kernel
theorem dX0_tellersOfPair_25 : decode cX0_tellersOfPair 25 = .ok (.iload_n 1, 1) := by decide +kernel
theorem dX0_tellersOfPair_26 : decode cX0_tellersOfPair 26 = .ok (.iaload, 1) := by decide +kernel
theorem dX0_tellersOfPair_27 : decode cX0_tellersOfPair 27 = .ok (.aload_n 0, 1) := by decide +kernel
theorem dX0_tellersOfPair_28 : decode cX0_tellersOfPair 28 = .ok (.getfield 9, 3) := by decide +kernel
theorem dX0_tellersOfPair_31 : decode cX0_tellersOfPair 31 = .ok (.iload_n 2, 1) := by decide +kernel
theorem dX0_tellersOfPair_32 : decode cX0_tellersOfPair 32 = .ok (.iaload, 1) := by decide +kernel
theorem dX0_tellersOfPair_33 : decode cX0_tellersOfPair 33 = .ok (.invokevirtual 49, 3) := by decide +kernel
theorem dX0_tellersOfPair_36 : decode cX0_tellersOfPair 36 = .ok (.ifCond .eq 10, 3) := by decide +kernel
theorem dX0_tellersOfPair_39 : decode cX0_tellersOfPair 39 = .ok (.iload_n 3, 1) := by decide +kernel
theorem dX0_tellersOfPair_40 : decode cX0_tellersOfPair 40 = .ok (.iconst 1, 1) := by decide +kernel
theorem dX0_tellersOfPair_41 : decode cX0_tellersOfPair 41 = .ok (.iload 4, 2) := by decide +kernel
theorem dX0_tellersOfPair_43 : decode cX0_tellersOfPair 43 = .ok (.ishl, 1) := by decide +kernel
theorem dX0_tellersOfPair_44 : decode cX0_tellersOfPair 44 = .ok (.ior, 1) := by decide +kernel
theorem dX0_tellersOfPair_45 : decode cX0_tellersOfPair 45 = .ok (.istore_n 3, 1) := by decide +kernel
theorem dX0_tellersOfPair_46 : decode cX0_tellersOfPair 46 = .ok (.iinc 4 1, 3) := by decide +kernel
theorem dX0_tellersOfPair_49 : decode cX0_tellersOfPair 49 = .ok (.goto (-44), 3) := by decide +kernel
theorem dX0_tellersOfPair_52 : decode cX0_tellersOfPair 52 = .ok (.iload_n 3, 1) := by decide +kernel
theorem dX0_tellersOfPair_53 : decode cX0_tellersOfPair 53 = .ok (.ireturn, 1) := by decide +kernel
set_option maxRecDepth 20000 in
theorem ggX0_tellersOf_X0_tellersOfPair : GoodIn wsX0_tellersOf wsX0_tellersOfPair := goodIn_r _ [5, 6, 7, 8, 9, 10, 4, 11, 12, 13, 14, 15, 16, 17, 18, 19, 20, 21, 22, 23, 24, 25, 26, 27, 28, 29, 30, 31, 32, 33, 34] (by decide +kernel) (by decide +kernel)
set_option maxRecDepth 20000 in
theorem gX0_tellersOf_X0_tellersOfPair : GoodIn wsX0_tellersOf (wsV RX0 59 RX0 yX0_tellersOfPair wsX0_tellersOfPair) := goodIn_app (goodIn_of _ (by decide +kernel)) ggX0_tellersOf_X0_tellersOfPair
theorem dX0_tellersOf_0 : decode cX0_tellersOf 0 = .ok (.iconst 0, 1) := by decide +kernel
theorem dX0_tellersOf_1 : decode cX0_tellersOf 1 = .ok (.istore_n 2, 1) := by decide +kernel
theorem dX0_tellersOf_2 : decode cX0_tellersOf 2 = .ok (.iconst 0, 1) := by decide +kernel
theorem dX0_tellersOf_3 : decode cX0_tellersOf 3 = .ok (.istore_n 3, 1) := by decide +kernel
theorem dX0_tellersOf_4 : decode cX0_tellersOf 4 = .ok (.iload_n 3, 1) := by decide +kernel
theorem dX0_tellersOf_5 : decode cX0_tellersOf 5 = .ok (.bipush 8, 2) := by decide +kernel
theorem dX0_tellersOf_7 : decode cX0_tellersOf 7 = .ok (.if_icmp .ge 18, 3) := by decide +kernel
theorem dX0_tellersOf_10 : decode cX0_tellersOf 10 = .ok (.iload_n 2, 1) := by decide +kernel
theorem dX0_tellersOf_11 : decode cX0_tellersOf 11 = .ok (.aload_n 0, 1) := by decide +kernel
theorem dX0_tellersOf_12 : decode cX0_tellersOf 12 = .ok (.iload_n 1, 1) := by decide +kernel
theorem dX0_tellersOf_13 : decode cX0_tellersOf 13 = .ok (.iload_n 3, 1) := by decide +kernel
theorem dX0_tellersOf_14 : decode cX0_tellersOf 14 = .ok (.invokevirtual 59, 3) := by decide +kernel
theorem dX0_tellersOf_17 : decode cX0_tellersOf 17 = .ok (.ior, 1) := by decide +kernel
theorem dX0_tellersOf_18 : decode cX0_tellersOf 18 = .ok (.istore_n 2, 1) := by decide +kernel
theorem dX0_tellersOf_19 : decode cX0_tellersOf 19 = .ok (.iinc 3 1, 3) := by decide +kernel
theorem dX0_tellersOf_22 : decode cX0_tellersOf 22 = .ok (.goto (-18), 3) := by decide +kernel
theorem dX0_tellersOf_25 : decode cX0_tellersOf 25 = .ok (.iload_n 2, 1) := by decide +kernel
theorem dX0_tellersOf_26 : decode cX0_tellersOf 26 = .ok (.ireturn, 1) := by decide +kernel
theorem dX0_labelled_0 : decode cX0_labelled 0 = .ok (.iconst 0, 1) := by decide +kernel
theorem dX0_labelled_1 : decode cX0_labelled 1 = .ok (.istore_n 1, 1) := by decide +kernel
theorem dX0_labelled_2 : decode cX0_labelled 2 = .ok (.iconst 0, 1) := by decide +kernel
theorem dX0_labelled_3 : decode cX0_labelled 3 = .ok (.istore_n 2, 1) := by decide +kernel
theorem dX0_labelled_4 : decode cX0_labelled 4 = .ok (.iload_n 2, 1) := by decide +kernel
theorem dX0_labelled_5 : decode cX0_labelled 5 = .ok (.bipush 8, 2) := by decide +kernel
theorem dX0_labelled_7 : decode cX0_labelled 7 = .ok (.if_icmp .ge 22, 3) := by decide +kernel
theorem dX0_labelled_10 : decode cX0_labelled 10 = .ok (.aload_n 0, 1) := by decide +kernel
theorem dX0_labelled_11 : decode cX0_labelled 11 = .ok (.getfield 15, 3) := by decide +kernel
theorem dX0_labelled_14 : decode cX0_labelled 14 = .ok (.iload_n 2, 1) := by decide +kernel
theorem dX0_labelled_15 : decode cX0_labelled 15 = .ok (.iaload, 1) := by decide +kernel
theorem dX0_labelled_16 : decode cX0_labelled 16 = .ok (.iconst (-1), 1) := by decide +kernel
theorem dX0_labelled_17 : decode cX0_labelled 17 = .ok (.if_icmp .eq 6, 3) := by decide +kernel
theorem dX0_labelled_20 : decode cX0_labelled 20 = .ok (.iinc 1 1, 3) := by decide +kernel
theorem dX0_labelled_23 : decode cX0_labelled 23 = .ok (.iinc 2 1, 3) := by decide +kernel
theorem dX0_labelled_26 : decode cX0_labelled 26 = .ok (.goto (-22), 3) := by decide +kernel
theorem dX0_labelled_29 : decode cX0_labelled 29 = .ok (.iload_n 1, 1) := by decide +kernel
theorem dX0_labelled_30 : decode cX0_labelled 30 = .ok (.ireturn, 1) := by decide +kernel
set_option maxRecDepth 20000 in
theorem ggX0_unlikeLabels_J6_bitCount_0f7a4 : GoodIn wsX0_unlikeLabels wsJ6_bitCount_0f7a4 := goodIn_r _ [5, 6, 7, 8] (by decide +kernel) (by decide +kernel)
set_option maxRecDepth 20000 in
theorem gX0_unlikeLabels_J6_bitCount_0f7a4 : GoodIn wsX0_unlikeLabels (va_wsS RX0 63 yJ6_bitCount_0f7a4 wsJ6_bitCount_0f7a4) := goodIn_app (goodIn_of _ (by decide +kernel)) ggX0_unlikeLabels_J6_bitCount_0f7a4
theorem dX0_unlikeLabels_0 : decode cX0_unlikeLabels 0 = .ok (.iconst 0, 1) := by decide +kernel
theorem dX0_unlikeLabels_1 : decode cX0_unlikeLabels 1 = .ok (.istore_n 1, 1) := by decide +kernel
theorem dX0_unlikeLabels_2 : decode cX0_unlikeLabels 2 = .ok (.iconst 0, 1) := by decide +kernel
theorem dX0_unlikeLabels_3 : decode cX0_unlikeLabels 3 = .ok (.istore_n 2, 1) := by decide +kernel
theorem dX0_unlikeLabels_4 : decode cX0_unlikeLabels 4 = .ok (.iload_n 2, 1) := by decide +kernel
theorem dX0_unlikeLabels_5 : decode cX0_unlikeLabels 5 = .ok (.bipush 8, 2) := by decide +kernel
theorem dX0_unlikeLabels_7 : decode cX0_unlikeLabels 7 = .ok (.if_icmp .ge 30, 3) := by decide +kernel
theorem dX0_unlikeLabels_10 : decode cX0_unlikeLabels 10 = .ok (.aload_n 0, 1) := by decide +kernel
theorem dX0_unlikeLabels_11 : decode cX0_unlikeLabels 11 = .ok (.getfield 15, 3) := by decide +kernel
theorem dX0_unlikeLabels_14 : decode cX0_unlikeLabels 14 = .ok (.iload_n 2, 1) := by decide +kernel
theorem dX0_unlikeLabels_15 : decode cX0_unlikeLabels 15 = .ok (.iaload, 1) := by decide +kernel
theorem dX0_unlikeLabels_16 : decode cX0_unlikeLabels 16 = .ok (.iconst (-1), 1) := by decide +kernel
theorem dX0_unlikeLabels_17 : decode cX0_unlikeLabels 17 = .ok (.if_icmp .eq 14, 3) := by decide +kernel
theorem dX0_unlikeLabels_20 : decode cX0_unlikeLabels 20 = .ok (.iload_n 1, 1) := by decide +kernel
theorem dX0_unlikeLabels_21 : decode cX0_unlikeLabels 21 = .ok (.iconst 1, 1) := by decide +kernel
theorem dX0_unlikeLabels_22 : decode cX0_unlikeLabels 22 = .ok (.aload_n 0, 1) := by decide +kernel
theorem dX0_unlikeLabels_23 : decode cX0_unlikeLabels 23 = .ok (.getfield 15, 3) := by decide +kernel
theorem dX0_unlikeLabels_26 : decode cX0_unlikeLabels 26 = .ok (.iload_n 2, 1) := by decide +kernel
theorem dX0_unlikeLabels_27 : decode cX0_unlikeLabels 27 = .ok (.iaload, 1) := by decide +kernel
theorem dX0_unlikeLabels_28 : decode cX0_unlikeLabels 28 = .ok (.ishl, 1) := by decide +kernel
theorem dX0_unlikeLabels_29 : decode cX0_unlikeLabels 29 = .ok (.ior, 1) := by decide +kernel
theorem dX0_unlikeLabels_30 : decode cX0_unlikeLabels 30 = .ok (.istore_n 1, 1) := by decide +kernel
theorem dX0_unlikeLabels_31 : decode cX0_unlikeLabels 31 = .ok (.iinc 2 1, 3) := by decide +kernel
theorem dX0_unlikeLabels_34 : decode cX0_unlikeLabels 34 = .ok (.goto (-30), 3) := by decide +kernel
theorem dX0_unlikeLabels_37 : decode cX0_unlikeLabels 37 = .ok (.iload_n 1, 1) := by decide +kernel
theorem dX0_unlikeLabels_38 : decode cX0_unlikeLabels 38 = .ok (.invokestatic 63, 3) := by decide +kernel
theorem dX0_unlikeLabels_41 : decode cX0_unlikeLabels 41 = .ok (.ireturn, 1) := by decide +kernel
set_option maxRecDepth 20000 in
theorem ggX0_wrongPairs_X0_tells : GoodIn wsX0_wrongPairs wsX0_tells := goodIn_r _ [6, 7, 8, 9, 10, 11, 5, 12, 13, 14, 15, 16, 17, 18, 19, 20, 21, 22, 23, 24, 25, 26, 27, 28, 29, 30, 31, 32, 33, 34, 35] (by decide +kernel) (by decide +kernel)
set_option maxRecDepth 20000 in
theorem gX0_wrongPairs_X0_tells : GoodIn wsX0_wrongPairs (wsV RX0 69 RX0 yX0_tells wsX0_tells) := goodIn_app (goodIn_of _ (by decide +kernel)) ggX0_wrongPairs_X0_tells
theorem dX0_wrongPairs_0 : decode cX0_wrongPairs 0 = .ok (.iconst 0, 1) := by decide +kernel
theorem dX0_wrongPairs_1 : decode cX0_wrongPairs 1 = .ok (.istore_n 2, 1) := by decide +kernel
theorem dX0_wrongPairs_2 : decode cX0_wrongPairs 2 = .ok (.iconst 0, 1) := by decide +kernel
theorem dX0_wrongPairs_3 : decode cX0_wrongPairs 3 = .ok (.istore_n 3, 1) := by decide +kernel
theorem dX0_wrongPairs_4 : decode cX0_wrongPairs 4 = .ok (.iload_n 3, 1) := by decide +kernel
theorem dX0_wrongPairs_5 : decode cX0_wrongPairs 5 = .ok (.bipush 8, 2) := by decide +kernel
theorem dX0_wrongPairs_7 : decode cX0_wrongPairs 7 = .ok (.if_icmp .ge 67, 3) := by decide +kernel
theorem dX0_wrongPairs_10 : decode cX0_wrongPairs 10 = .ok (.iload_n 3, 1) := by decide +kernel
theorem dX0_wrongPairs_11 : decode cX0_wrongPairs 11 = .ok (.iconst 1, 1) := by decide +kernel
theorem dX0_wrongPairs_12 : decode cX0_wrongPairs 12 = .ok (.iadd, 1) := by decide +kernel
theorem dX0_wrongPairs_13 : decode cX0_wrongPairs 13 = .ok (.istore 4, 2) := by decide +kernel
theorem dX0_wrongPairs_15 : decode cX0_wrongPairs 15 = .ok (.iload 4, 2) := by decide +kernel
theorem dX0_wrongPairs_17 : decode cX0_wrongPairs 17 = .ok (.bipush 8, 2) := by decide +kernel
theorem dX0_wrongPairs_19 : decode cX0_wrongPairs 19 = .ok (.if_icmp .ge 49, 3) := by decide +kernel
theorem dX0_wrongPairs_22 : decode cX0_wrongPairs 22 = .ok (.aload_n 0, 1) := by decide +kernel
theorem dX0_wrongPairs_23 : decode cX0_wrongPairs 23 = .ok (.getfield 15, 3) := by decide +kernel
theorem dX0_wrongPairs_26 : decode cX0_wrongPairs 26 = .ok (.iload_n 3, 1) := by decide +kernel
theorem dX0_wrongPairs_27 : decode cX0_wrongPairs 27 = .ok (.iaload, 1) := by decide +kernel
theorem dX0_wrongPairs_28 : decode cX0_wrongPairs 28 = .ok (.iconst (-1), 1) := by decide +kernel
theorem dX0_wrongPairs_29 : decode cX0_wrongPairs 29 = .ok (.if_icmp .eq 33, 3) := by decide +kernel
theorem dX0_wrongPairs_32 : decode cX0_wrongPairs 32 = .ok (.aload_n 0, 1) := by decide +kernel
theorem dX0_wrongPairs_33 : decode cX0_wrongPairs 33 = .ok (.getfield 15, 3) := by decide +kernel
theorem dX0_wrongPairs_36 : decode cX0_wrongPairs 36 = .ok (.iload_n 3, 1) := by decide +kernel
theorem dX0_wrongPairs_37 : decode cX0_wrongPairs 37 = .ok (.iaload, 1) := by decide +kernel
theorem dX0_wrongPairs_38 : decode cX0_wrongPairs 38 = .ok (.aload_n 0, 1) := by decide +kernel
theorem dX0_wrongPairs_39 : decode cX0_wrongPairs 39 = .ok (.getfield 15, 3) := by decide +kernel
theorem dX0_wrongPairs_42 : decode cX0_wrongPairs 42 = .ok (.iload 4, 2) := by decide +kernel
theorem dX0_wrongPairs_44 : decode cX0_wrongPairs 44 = .ok (.iaload, 1) := by decide +kernel
theorem dX0_wrongPairs_45 : decode cX0_wrongPairs 45 = .ok (.if_icmp .ne 17, 3) := by decide +kernel
theorem dX0_wrongPairs_48 : decode cX0_wrongPairs 48 = .ok (.aload_n 0, 1) := by decide +kernel
theorem dX0_wrongPairs_49 : decode cX0_wrongPairs 49 = .ok (.iload_n 1, 1) := by decide +kernel
theorem dX0_wrongPairs_50 : decode cX0_wrongPairs 50 = .ok (.iload_n 3, 1) := by decide +kernel
theorem dX0_wrongPairs_51 : decode cX0_wrongPairs 51 = .ok (.iload 4, 2) := by decide +kernel
theorem dX0_wrongPairs_53 : decode cX0_wrongPairs 53 = .ok (.invokevirtual 69, 3) := by decide +kernel
theorem dX0_wrongPairs_56 : decode cX0_wrongPairs 56 = .ok (.ifCond .eq 6, 3) := by decide +kernel
theorem dX0_wrongPairs_59 : decode cX0_wrongPairs 59 = .ok (.iinc 2 1, 3) := by decide +kernel
theorem dX0_wrongPairs_62 : decode cX0_wrongPairs 62 = .ok (.iinc 4 1, 3) := by decide +kernel
theorem dX0_wrongPairs_65 : decode cX0_wrongPairs 65 = .ok (.goto (-50), 3) := by decide +kernel
theorem dX0_wrongPairs_68 : decode cX0_wrongPairs 68 = .ok (.iinc 3 1, 3) := by decide +kernel
theorem dX0_wrongPairs_71 : decode cX0_wrongPairs 71 = .ok (.goto (-67), 3) := by decide +kernel
theorem dX0_wrongPairs_74 : decode cX0_wrongPairs 74 = .ok (.iload_n 2, 1) := by decide +kernel
theorem dX0_wrongPairs_75 : decode cX0_wrongPairs 75 = .ok (.ireturn, 1) := by decide +kernel
set_option maxRecDepth 20000 in
theorem ggX0_paintersServed_X0_wrongPairs : GoodIn wsX0_paintersServed wsX0_wrongPairs := goodIn_r _ [5, 6, 7, 8, 9, 4, 10, 11, 12, 13, 14, 15, 16, 17, 18, 19, 20, 21, 22, 23, 24, 25, 26, 27, 28, 29, 30, 31, 32, 33, 34, 35, 36, 37, 38, 39] (by decide +kernel) (by decide +kernel)
set_option maxRecDepth 20000 in
theorem gX0_paintersServed_X0_wrongPairs : GoodIn wsX0_paintersServed (wsV RX0 73 RX0 yX0_wrongPairs wsX0_wrongPairs) := goodIn_app (goodIn_of _ (by decide +kernel)) ggX0_paintersServed_X0_wrongPairs
theorem dX0_paintersServed_0 : decode cX0_paintersServed 0 = .ok (.iconst 0, 1) := by decide +kernel
theorem dX0_paintersServed_1 : decode cX0_paintersServed 1 = .ok (.istore_n 1, 1) := by decide +kernel
theorem dX0_paintersServed_2 : decode cX0_paintersServed 2 = .ok (.iconst 0, 1) := by decide +kernel
theorem dX0_paintersServed_3 : decode cX0_paintersServed 3 = .ok (.istore_n 2, 1) := by decide +kernel
theorem dX0_paintersServed_4 : decode cX0_paintersServed 4 = .ok (.iload_n 2, 1) := by decide +kernel
theorem dX0_paintersServed_5 : decode cX0_paintersServed 5 = .ok (.iconst 4, 1) := by decide +kernel
theorem dX0_paintersServed_6 : decode cX0_paintersServed 6 = .ok (.if_icmp .ge 20, 3) := by decide +kernel
theorem dX0_paintersServed_9 : decode cX0_paintersServed 9 = .ok (.aload_n 0, 1) := by decide +kernel
theorem dX0_paintersServed_10 : decode cX0_paintersServed 10 = .ok (.iload_n 2, 1) := by decide +kernel
theorem dX0_paintersServed_11 : decode cX0_paintersServed 11 = .ok (.invokevirtual 73, 3) := by decide +kernel
theorem dX0_paintersServed_14 : decode cX0_paintersServed 14 = .ok (.ifCond .ne 6, 3) := by decide +kernel
theorem dX0_paintersServed_17 : decode cX0_paintersServed 17 = .ok (.iinc 1 1, 3) := by decide +kernel
theorem dX0_paintersServed_20 : decode cX0_paintersServed 20 = .ok (.iinc 2 1, 3) := by decide +kernel
theorem dX0_paintersServed_23 : decode cX0_paintersServed 23 = .ok (.goto (-19), 3) := by decide +kernel
theorem dX0_paintersServed_26 : decode cX0_paintersServed 26 = .ok (.iload_n 1, 1) := by decide +kernel
theorem dX0_paintersServed_27 : decode cX0_paintersServed 27 = .ok (.ireturn, 1) := by decide +kernel
set_option maxRecDepth 20000 in
theorem ggX0_labelInOrder_X0_tells : GoodIn wsX0_labelInOrder wsX0_tells := goodIn_r _ [6, 7, 8, 9, 10, 11, 5, 12, 13, 14, 15, 16, 17, 18, 19, 20, 21, 22, 23, 24, 25, 29, 30, 31, 32, 33, 34, 35, 36, 37, 38] (by decide +kernel) (by decide +kernel)
set_option maxRecDepth 20000 in
theorem gX0_labelInOrder_X0_tells : GoodIn wsX0_labelInOrder (wsV RX0 69 RX0 yX0_tells wsX0_tells) := goodIn_app (goodIn_of _ (by decide +kernel)) ggX0_labelInOrder_X0_tells
set_option maxRecDepth 20000 in
theorem ggX0_labelInOrder_X0_leastOutside : GoodIn wsX0_labelInOrder wsX0_leastOutside := goodIn_r _ [28] (by decide +kernel) (by decide +kernel)
set_option maxRecDepth 20000 in
theorem gX0_labelInOrder_X0_leastOutside : GoodIn wsX0_labelInOrder (va_wsS RX0 76 yX0_leastOutside wsX0_leastOutside) := goodIn_app (goodIn_of _ (by decide +kernel)) ggX0_labelInOrder_X0_leastOutside
theorem dX0_labelInOrder_0 : decode cX0_labelInOrder 0 = .ok (.iconst 0, 1) := by decide +kernel
theorem dX0_labelInOrder_1 : decode cX0_labelInOrder 1 = .ok (.istore_n 2, 1) := by decide +kernel
theorem dX0_labelInOrder_2 : decode cX0_labelInOrder 2 = .ok (.iload_n 2, 1) := by decide +kernel
theorem dX0_labelInOrder_3 : decode cX0_labelInOrder 3 = .ok (.bipush 8, 2) := by decide +kernel
theorem dX0_labelInOrder_5 : decode cX0_labelInOrder 5 = .ok (.if_icmp .ge 59, 3) := by decide +kernel
theorem dX0_labelInOrder_8 : decode cX0_labelInOrder 8 = .ok (.iconst 0, 1) := by decide +kernel
theorem dX0_labelInOrder_9 : decode cX0_labelInOrder 9 = .ok (.istore_n 3, 1) := by decide +kernel
theorem dX0_labelInOrder_10 : decode cX0_labelInOrder 10 = .ok (.iconst 0, 1) := by decide +kernel
theorem dX0_labelInOrder_11 : decode cX0_labelInOrder 11 = .ok (.istore 4, 2) := by decide +kernel
theorem dX0_labelInOrder_13 : decode cX0_labelInOrder 13 = .ok (.iload 4, 2) := by decide +kernel
theorem dX0_labelInOrder_15 : decode cX0_labelInOrder 15 = .ok (.iload_n 2, 1) := by decide +kernel
theorem dX0_labelInOrder_16 : decode cX0_labelInOrder 16 = .ok (.if_icmp .ge 32, 3) := by decide +kernel
theorem dX0_labelInOrder_19 : decode cX0_labelInOrder 19 = .ok (.aload_n 0, 1) := by decide +kernel
theorem dX0_labelInOrder_20 : decode cX0_labelInOrder 20 = .ok (.iload_n 1, 1) := by decide +kernel
theorem dX0_labelInOrder_21 : decode cX0_labelInOrder 21 = .ok (.iload 4, 2) := by decide +kernel
theorem dX0_labelInOrder_23 : decode cX0_labelInOrder 23 = .ok (.iload_n 2, 1) := by decide +kernel
theorem dX0_labelInOrder_24 : decode cX0_labelInOrder 24 = .ok (.invokevirtual 69, 3) := by decide +kernel
theorem dX0_labelInOrder_27 : decode cX0_labelInOrder 27 = .ok (.ifCond .eq 15, 3) := by decide +kernel
theorem dX0_labelInOrder_30 : decode cX0_labelInOrder 30 = .ok (.iload_n 3, 1) := by decide +kernel
theorem dX0_labelInOrder_31 : decode cX0_labelInOrder 31 = .ok (.iconst 1, 1) := by decide +kernel
theorem dX0_labelInOrder_32 : decode cX0_labelInOrder 32 = .ok (.aload_n 0, 1) := by decide +kernel
theorem dX0_labelInOrder_33 : decode cX0_labelInOrder 33 = .ok (.getfield 15, 3) := by decide +kernel
theorem dX0_labelInOrder_36 : decode cX0_labelInOrder 36 = .ok (.iload 4, 2) := by decide +kernel
theorem dX0_labelInOrder_38 : decode cX0_labelInOrder 38 = .ok (.iaload, 1) := by decide +kernel
theorem dX0_labelInOrder_39 : decode cX0_labelInOrder 39 = .ok (.ishl, 1) := by decide +kernel
theorem dX0_labelInOrder_40 : decode cX0_labelInOrder 40 = .ok (.ior, 1) := by decide +kernel
theorem dX0_labelInOrder_41 : decode cX0_labelInOrder 41 = .ok (.istore_n 3, 1) := by decide +kernel
theorem dX0_labelInOrder_42 : decode cX0_labelInOrder 42 = .ok (.iinc 4 1, 3) := by decide +kernel
theorem dX0_labelInOrder_45 : decode cX0_labelInOrder 45 = .ok (.goto (-32), 3) := by decide +kernel
theorem dX0_labelInOrder_48 : decode cX0_labelInOrder 48 = .ok (.aload_n 0, 1) := by decide +kernel
theorem dX0_labelInOrder_49 : decode cX0_labelInOrder 49 = .ok (.getfield 15, 3) := by decide +kernel
theorem dX0_labelInOrder_52 : decode cX0_labelInOrder 52 = .ok (.iload_n 2, 1) := by decide +kernel
theorem dX0_labelInOrder_53 : decode cX0_labelInOrder 53 = .ok (.iload_n 3, 1) := by decide +kernel
theorem dX0_labelInOrder_54 : decode cX0_labelInOrder 54 = .ok (.invokestatic 76, 3) := by decide +kernel
theorem dX0_labelInOrder_57 : decode cX0_labelInOrder 57 = .ok (.iastore, 1) := by decide +kernel
theorem dX0_labelInOrder_58 : decode cX0_labelInOrder 58 = .ok (.iinc 2 1, 3) := by decide +kernel
theorem dX0_labelInOrder_61 : decode cX0_labelInOrder 61 = .ok (.goto (-59), 3) := by decide +kernel
theorem dX0_labelInOrder_64 : decode cX0_labelInOrder 64 = .ok (.return_, 1) := by decide +kernel
theorem dX0_leastOutside_0 : decode cX0_leastOutside 0 = .ok (.iconst 0, 1) := by decide +kernel
theorem dX0_leastOutside_1 : decode cX0_leastOutside 1 = .ok (.istore_n 1, 1) := by decide +kernel
theorem dX0_leastOutside_2 : decode cX0_leastOutside 2 = .ok (.iload_n 1, 1) := by decide +kernel
theorem dX0_leastOutside_3 : decode cX0_leastOutside 3 = .ok (.bipush 7, 2) := by decide +kernel
theorem dX0_leastOutside_5 : decode cX0_leastOutside 5 = .ok (.if_icmp .ge 17, 3) := by decide +kernel
theorem dX0_leastOutside_8 : decode cX0_leastOutside 8 = .ok (.iload_n 0, 1) := by decide +kernel
theorem dX0_leastOutside_9 : decode cX0_leastOutside 9 = .ok (.iload_n 1, 1) := by decide +kernel
theorem dX0_leastOutside_10 : decode cX0_leastOutside 10 = .ok (.ishr, 1) := by decide +kernel
theorem dX0_leastOutside_11 : decode cX0_leastOutside 11 = .ok (.iconst 1, 1) := by decide +kernel
theorem dX0_leastOutside_12 : decode cX0_leastOutside 12 = .ok (.iand, 1) := by decide +kernel
theorem dX0_leastOutside_13 : decode cX0_leastOutside 13 = .ok (.ifCond .eq 9, 3) := by decide +kernel
theorem dX0_leastOutside_16 : decode cX0_leastOutside 16 = .ok (.iinc 1 1, 3) := by decide +kernel
theorem dX0_leastOutside_19 : decode cX0_leastOutside 19 = .ok (.goto (-17), 3) := by decide +kernel
theorem dX0_leastOutside_22 : decode cX0_leastOutside 22 = .ok (.iload_n 1, 1) := by decide +kernel
theorem dX0_leastOutside_23 : decode cX0_leastOutside 23 = .ok (.ireturn, 1) := by decide +kernel
theorem dX0_addChart_0 : decode cX0_addChart 0 = .ok (.aload_n 0, 1) := by decide +kernel
theorem dX0_addChart_1 : decode cX0_addChart 1 = .ok (.getfield 39, 3) := by decide +kernel
theorem dX0_addChart_4 : decode cX0_addChart 4 = .ok (.bipush 6, 2) := by decide +kernel
theorem dX0_addChart_6 : decode cX0_addChart 6 = .ok (.if_icmp .lt 15, 3) := by decide +kernel
theorem dX0_addChart_9 : decode cX0_addChart 9 = .ok (.aload_n 0, 1) := by decide +kernel
theorem dX0_addChart_10 : decode cX0_addChart 10 = .ok (.dup, 1) := by decide +kernel
theorem dX0_addChart_11 : decode cX0_addChart 11 = .ok (.getfield 46, 3) := by decide +kernel
theorem dX0_addChart_14 : decode cX0_addChart 14 = .ok (.iconst 1, 1) := by decide +kernel
theorem dX0_addChart_15 : decode cX0_addChart 15 = .ok (.iadd, 1) := by decide +kernel
theorem dX0_addChart_16 : decode cX0_addChart 16 = .ok (.putfield 46, 3) := by decide +kernel
theorem dX0_addChart_19 : decode cX0_addChart 19 = .ok (.iconst (-1), 1) := by decide +kernel
theorem dX0_addChart_20 : decode cX0_addChart 20 = .ok (.ireturn, 1) := by decide +kernel
theorem dX0_addChart_21 : decode cX0_addChart 21 = .ok (.aload_n 0, 1) := by decide +kernel
theorem dX0_addChart_22 : decode cX0_addChart 22 = .ok (.getfield 27, 3) := by decide +kernel
theorem dX0_addChart_25 : decode cX0_addChart 25 = .ok (.aload_n 0, 1) := by decide +kernel
theorem dX0_addChart_26 : decode cX0_addChart 26 = .ok (.getfield 39, 3) := by decide +kernel
theorem dX0_addChart_29 : decode cX0_addChart 29 = .ok (.iload_n 1, 1) := by decide +kernel
theorem dX0_addChart_30 : decode cX0_addChart 30 = .ok (.iastore, 1) := by decide +kernel
theorem dX0_addChart_31 : decode cX0_addChart 31 = .ok (.aload_n 0, 1) := by decide +kernel
theorem dX0_addChart_32 : decode cX0_addChart 32 = .ok (.getfield 30, 3) := by decide +kernel
theorem dX0_addChart_35 : decode cX0_addChart 35 = .ok (.aload_n 0, 1) := by decide +kernel
theorem dX0_addChart_36 : decode cX0_addChart 36 = .ok (.getfield 39, 3) := by decide +kernel
theorem dX0_addChart_39 : decode cX0_addChart 39 = .ok (.iload_n 2, 1) := by decide +kernel
theorem dX0_addChart_40 : decode cX0_addChart 40 = .ok (.iastore, 1) := by decide +kernel
theorem dX0_addChart_41 : decode cX0_addChart 41 = .ok (.aload_n 0, 1) := by decide +kernel
theorem dX0_addChart_42 : decode cX0_addChart 42 = .ok (.dup, 1) := by decide +kernel
theorem dX0_addChart_43 : decode cX0_addChart 43 = .ok (.getfield 39, 3) := by decide +kernel
theorem dX0_addChart_46 : decode cX0_addChart 46 = .ok (.iconst 1, 1) := by decide +kernel
theorem dX0_addChart_47 : decode cX0_addChart 47 = .ok (.iadd, 1) := by decide +kernel
theorem dX0_addChart_48 : decode cX0_addChart 48 = .ok (.putfield 39, 3) := by decide +kernel
theorem dX0_addChart_51 : decode cX0_addChart 51 = .ok (.aload_n 0, 1) := by decide +kernel
theorem dX0_addChart_52 : decode cX0_addChart 52 = .ok (.getfield 39, 3) := by decide +kernel
theorem dX0_addChart_55 : decode cX0_addChart 55 = .ok (.iconst 1, 1) := by decide +kernel
theorem dX0_addChart_56 : decode cX0_addChart 56 = .ok (.isub, 1) := by decide +kernel
theorem dX0_addChart_57 : decode cX0_addChart 57 = .ok (.ireturn, 1) := by decide +kernel
theorem dX0_removeChart_0 : decode cX0_removeChart 0 = .ok (.iload_n 1, 1) := by decide +kernel
theorem dX0_removeChart_1 : decode cX0_removeChart 1 = .ok (.iconst 1, 1) := by decide +kernel
theorem dX0_removeChart_2 : decode cX0_removeChart 2 = .ok (.iadd, 1) := by decide +kernel
theorem dX0_removeChart_3 : decode cX0_removeChart 3 = .ok (.istore_n 2, 1) := by decide +kernel
theorem dX0_removeChart_4 : decode cX0_removeChart 4 = .ok (.iload_n 2, 1) := by decide +kernel
theorem dX0_removeChart_5 : decode cX0_removeChart 5 = .ok (.aload_n 0, 1) := by decide +kernel
theorem dX0_removeChart_6 : decode cX0_removeChart 6 = .ok (.getfield 39, 3) := by decide +kernel
theorem dX0_removeChart_9 : decode cX0_removeChart 9 = .ok (.if_icmp .ge 37, 3) := by decide +kernel
theorem dX0_removeChart_12 : decode cX0_removeChart 12 = .ok (.aload_n 0, 1) := by decide +kernel
theorem dX0_removeChart_13 : decode cX0_removeChart 13 = .ok (.getfield 27, 3) := by decide +kernel
theorem dX0_removeChart_16 : decode cX0_removeChart 16 = .ok (.iload_n 2, 1) := by decide +kernel
theorem dX0_removeChart_17 : decode cX0_removeChart 17 = .ok (.iconst 1, 1) := by decide +kernel
theorem dX0_removeChart_18 : decode cX0_removeChart 18 = .ok (.isub, 1) := by decide +kernel
theorem dX0_removeChart_19 : decode cX0_removeChart 19 = .ok (.aload_n 0, 1) := by decide +kernel
theorem dX0_removeChart_20 : decode cX0_removeChart 20 = .ok (.getfield 27, 3) := by decide +kernel
theorem dX0_removeChart_23 : decode cX0_removeChart 23 = .ok (.iload_n 2, 1) := by decide +kernel
theorem dX0_removeChart_24 : decode cX0_removeChart 24 = .ok (.iaload, 1) := by decide +kernel
theorem dX0_removeChart_25 : decode cX0_removeChart 25 = .ok (.iastore, 1) := by decide +kernel
theorem dX0_removeChart_26 : decode cX0_removeChart 26 = .ok (.aload_n 0, 1) := by decide +kernel
theorem dX0_removeChart_27 : decode cX0_removeChart 27 = .ok (.getfield 30, 3) := by decide +kernel
theorem dX0_removeChart_30 : decode cX0_removeChart 30 = .ok (.iload_n 2, 1) := by decide +kernel
theorem dX0_removeChart_31 : decode cX0_removeChart 31 = .ok (.iconst 1, 1) := by decide +kernel
theorem dX0_removeChart_32 : decode cX0_removeChart 32 = .ok (.isub, 1) := by decide +kernel
theorem dX0_removeChart_33 : decode cX0_removeChart 33 = .ok (.aload_n 0, 1) := by decide +kernel
theorem dX0_removeChart_34 : decode cX0_removeChart 34 = .ok (.getfield 30, 3) := by decide +kernel
theorem dX0_removeChart_37 : decode cX0_removeChart 37 = .ok (.iload_n 2, 1) := by decide +kernel
theorem dX0_removeChart_38 : decode cX0_removeChart 38 = .ok (.iaload, 1) := by decide +kernel
theorem dX0_removeChart_39 : decode cX0_removeChart 39 = .ok (.iastore, 1) := by decide +kernel
theorem dX0_removeChart_40 : decode cX0_removeChart 40 = .ok (.iinc 2 1, 3) := by decide +kernel
theorem dX0_removeChart_43 : decode cX0_removeChart 43 = .ok (.goto (-39), 3) := by decide +kernel
theorem dX0_removeChart_46 : decode cX0_removeChart 46 = .ok (.aload_n 0, 1) := by decide +kernel
theorem dX0_removeChart_47 : decode cX0_removeChart 47 = .ok (.dup, 1) := by decide +kernel
theorem dX0_removeChart_48 : decode cX0_removeChart 48 = .ok (.getfield 39, 3) := by decide +kernel
theorem dX0_removeChart_51 : decode cX0_removeChart 51 = .ok (.iconst 1, 1) := by decide +kernel
theorem dX0_removeChart_52 : decode cX0_removeChart 52 = .ok (.isub, 1) := by decide +kernel
theorem dX0_removeChart_53 : decode cX0_removeChart 53 = .ok (.putfield 39, 3) := by decide +kernel
theorem dX0_removeChart_56 : decode cX0_removeChart 56 = .ok (.return_, 1) := by decide +kernel
set_option maxRecDepth 20000 in
theorem ggX0_readersOf_X0_tellersOfPair : GoodIn wsX0_readersOf wsX0_tellersOfPair := goodIn_r _ [7, 8, 9, 10, 11, 12, 6, 13, 14, 15, 16, 17, 18, 19, 20, 21, 22, 23, 24, 25, 26, 27, 28, 29, 30, 31, 32, 33, 34, 35, 36] (by decide +kernel) (by decide +kernel)
set_option maxRecDepth 20000 in
theorem gX0_readersOf_X0_tellersOfPair : GoodIn wsX0_readersOf (wsV RX0 59 RX0 yX0_tellersOfPair wsX0_tellersOfPair) := goodIn_app (goodIn_of _ (by decide +kernel)) ggX0_readersOf_X0_tellersOfPair
theorem dX0_readersOf_0 : decode cX0_readersOf 0 = .ok (.aload_n 0, 1) := by decide +kernel
theorem dX0_readersOf_1 : decode cX0_readersOf 1 = .ok (.aload_n 0, 1) := by decide +kernel
theorem dX0_readersOf_2 : decode cX0_readersOf 2 = .ok (.getfield 27, 3) := by decide +kernel
theorem dX0_readersOf_5 : decode cX0_readersOf 5 = .ok (.iload_n 1, 1) := by decide +kernel
theorem dX0_readersOf_6 : decode cX0_readersOf 6 = .ok (.iaload, 1) := by decide +kernel
theorem dX0_readersOf_7 : decode cX0_readersOf 7 = .ok (.aload_n 0, 1) := by decide +kernel
theorem dX0_readersOf_8 : decode cX0_readersOf 8 = .ok (.getfield 30, 3) := by decide +kernel
theorem dX0_readersOf_11 : decode cX0_readersOf 11 = .ok (.iload_n 1, 1) := by decide +kernel
theorem dX0_readersOf_12 : decode cX0_readersOf 12 = .ok (.iaload, 1) := by decide +kernel
theorem dX0_readersOf_13 : decode cX0_readersOf 13 = .ok (.invokevirtual 59, 3) := by decide +kernel
theorem dX0_readersOf_16 : decode cX0_readersOf 16 = .ok (.ireturn, 1) := by decide +kernel
set_option maxRecDepth 20000 in
theorem ggX0_chartsRead_X0_tells : GoodIn wsX0_chartsRead wsX0_tells := goodIn_r _ [8, 9, 10, 11, 12, 13, 7, 14, 15, 16, 17, 18, 19, 20, 21, 22, 23, 24, 25, 26, 27, 28, 29, 30, 31, 32, 33, 34, 35, 36, 37] (by decide +kernel) (by decide +kernel)
set_option maxRecDepth 20000 in
theorem gX0_chartsRead_X0_tells : GoodIn wsX0_chartsRead (wsV RX0 69 RX0 yX0_tells wsX0_tells) := goodIn_app (goodIn_of _ (by decide +kernel)) ggX0_chartsRead_X0_tells
theorem dX0_chartsRead_0 : decode cX0_chartsRead 0 = .ok (.iconst 0, 1) := by decide +kernel
theorem dX0_chartsRead_1 : decode cX0_chartsRead 1 = .ok (.istore_n 2, 1) := by decide +kernel
theorem dX0_chartsRead_2 : decode cX0_chartsRead 2 = .ok (.iconst 0, 1) := by decide +kernel
theorem dX0_chartsRead_3 : decode cX0_chartsRead 3 = .ok (.istore_n 3, 1) := by decide +kernel
theorem dX0_chartsRead_4 : decode cX0_chartsRead 4 = .ok (.iload_n 3, 1) := by decide +kernel
theorem dX0_chartsRead_5 : decode cX0_chartsRead 5 = .ok (.aload_n 0, 1) := by decide +kernel
theorem dX0_chartsRead_6 : decode cX0_chartsRead 6 = .ok (.getfield 39, 3) := by decide +kernel
theorem dX0_chartsRead_9 : decode cX0_chartsRead 9 = .ok (.if_icmp .ge 32, 3) := by decide +kernel
theorem dX0_chartsRead_12 : decode cX0_chartsRead 12 = .ok (.aload_n 0, 1) := by decide +kernel
theorem dX0_chartsRead_13 : decode cX0_chartsRead 13 = .ok (.iload_n 1, 1) := by decide +kernel
theorem dX0_chartsRead_14 : decode cX0_chartsRead 14 = .ok (.aload_n 0, 1) := by decide +kernel
theorem dX0_chartsRead_15 : decode cX0_chartsRead 15 = .ok (.getfield 27, 3) := by decide +kernel
theorem dX0_chartsRead_18 : decode cX0_chartsRead 18 = .ok (.iload_n 3, 1) := by decide +kernel
theorem dX0_chartsRead_19 : decode cX0_chartsRead 19 = .ok (.iaload, 1) := by decide +kernel
theorem dX0_chartsRead_20 : decode cX0_chartsRead 20 = .ok (.aload_n 0, 1) := by decide +kernel
theorem dX0_chartsRead_21 : decode cX0_chartsRead 21 = .ok (.getfield 30, 3) := by decide +kernel
theorem dX0_chartsRead_24 : decode cX0_chartsRead 24 = .ok (.iload_n 3, 1) := by decide +kernel
theorem dX0_chartsRead_25 : decode cX0_chartsRead 25 = .ok (.iaload, 1) := by decide +kernel
theorem dX0_chartsRead_26 : decode cX0_chartsRead 26 = .ok (.invokevirtual 69, 3) := by decide +kernel
theorem dX0_chartsRead_29 : decode cX0_chartsRead 29 = .ok (.ifCond .eq 6, 3) := by decide +kernel
theorem dX0_chartsRead_32 : decode cX0_chartsRead 32 = .ok (.iinc 2 1, 3) := by decide +kernel
theorem dX0_chartsRead_35 : decode cX0_chartsRead 35 = .ok (.iinc 3 1, 3) := by decide +kernel
theorem dX0_chartsRead_38 : decode cX0_chartsRead 38 = .ok (.goto (-34), 3) := by decide +kernel
theorem dX0_chartsRead_41 : decode cX0_chartsRead 41 = .ok (.iload_n 2, 1) := by decide +kernel
theorem dX0_chartsRead_42 : decode cX0_chartsRead 42 = .ok (.ireturn, 1) := by decide +kernel
set_option maxRecDepth 20000 in
theorem ggX0_makeReadable_X0_nearestColour : GoodIn wsX0_makeReadable wsX0_nearestColour := goodIn_r _ [10, 4, 11, 12, 13, 14, 15, 16, 17, 18, 19, 20, 21, 22, 23, 24, 25, 26, 27, 28, 9, 29, 30, 31, 32, 33, 34, 35, 36, 37, 38, 39, 40, 41, 42] (by decide +kernel) (by decide +kernel)
set_option maxRecDepth 20000 in
theorem gX0_makeReadable_X0_nearestColour : GoodIn wsX0_makeReadable (wsV RX0 79 RX0 yX0_nearestColour wsX0_nearestColour) := goodIn_app (goodIn_of _ (by decide +kernel)) ggX0_makeReadable_X0_nearestColour
set_option maxRecDepth 20000 in
theorem ggX0_makeReadable_X1_change : GoodIn wsX0_makeReadable wsX1_change := goodIn_r _ [15, 16, 17, 14, 18, 19, 20, 21, 22, 23, 24, 25] (by decide +kernel) (by decide +kernel)
set_option maxRecDepth 20000 in
theorem gX0_makeReadable_X1_change : GoodIn wsX0_makeReadable (va_wsS RX0 82 yX1_change wsX1_change) := goodIn_app (goodIn_of _ (by decide +kernel)) ggX0_makeReadable_X1_change
theorem dX0_makeReadable_0 : decode cX0_makeReadable 0 = .ok (.aload_n 0, 1) := by decide +kernel
theorem dX0_makeReadable_1 : decode cX0_makeReadable 1 = .ok (.getfield 27, 3) := by decide +kernel
theorem dX0_makeReadable_4 : decode cX0_makeReadable 4 = .ok (.iload_n 1, 1) := by decide +kernel
theorem dX0_makeReadable_5 : decode cX0_makeReadable 5 = .ok (.iaload, 1) := by decide +kernel
theorem dX0_makeReadable_6 : decode cX0_makeReadable 6 = .ok (.istore_n 3, 1) := by decide +kernel
theorem dX0_makeReadable_7 : decode cX0_makeReadable 7 = .ok (.aload_n 0, 1) := by decide +kernel
theorem dX0_makeReadable_8 : decode cX0_makeReadable 8 = .ok (.iload_n 2, 1) := by decide +kernel
theorem dX0_makeReadable_9 : decode cX0_makeReadable 9 = .ok (.iload_n 3, 1) := by decide +kernel
theorem dX0_makeReadable_10 : decode cX0_makeReadable 10 = .ok (.aload_n 0, 1) := by decide +kernel
theorem dX0_makeReadable_11 : decode cX0_makeReadable 11 = .ok (.getfield 30, 3) := by decide +kernel
theorem dX0_makeReadable_14 : decode cX0_makeReadable 14 = .ok (.iload_n 1, 1) := by decide +kernel
theorem dX0_makeReadable_15 : decode cX0_makeReadable 15 = .ok (.iaload, 1) := by decide +kernel
theorem dX0_makeReadable_16 : decode cX0_makeReadable 16 = .ok (.invokevirtual 79, 3) := by decide +kernel
theorem dX0_makeReadable_19 : decode cX0_makeReadable 19 = .ok (.istore 4, 2) := by decide +kernel
theorem dX0_makeReadable_21 : decode cX0_makeReadable 21 = .ok (.iload 4, 2) := by decide +kernel
theorem dX0_makeReadable_23 : decode cX0_makeReadable 23 = .ok (.iconst (-1), 1) := by decide +kernel
theorem dX0_makeReadable_24 : decode cX0_makeReadable 24 = .ok (.if_icmp .ne 15, 3) := by decide +kernel
theorem dX0_makeReadable_27 : decode cX0_makeReadable 27 = .ok (.aload_n 0, 1) := by decide +kernel
theorem dX0_makeReadable_28 : decode cX0_makeReadable 28 = .ok (.dup, 1) := by decide +kernel
theorem dX0_makeReadable_29 : decode cX0_makeReadable 29 = .ok (.getfield 46, 3) := by decide +kernel
theorem dX0_makeReadable_32 : decode cX0_makeReadable 32 = .ok (.iconst 1, 1) := by decide +kernel
theorem dX0_makeReadable_33 : decode cX0_makeReadable 33 = .ok (.iadd, 1) := by decide +kernel
theorem dX0_makeReadable_34 : decode cX0_makeReadable 34 = .ok (.putfield 46, 3) := by decide +kernel
theorem dX0_makeReadable_37 : decode cX0_makeReadable 37 = .ok (.iconst (-1), 1) := by decide +kernel
theorem dX0_makeReadable_38 : decode cX0_makeReadable 38 = .ok (.ireturn, 1) := by decide +kernel
theorem dX0_makeReadable_39 : decode cX0_makeReadable 39 = .ok (.aload_n 0, 1) := by decide +kernel
theorem dX0_makeReadable_40 : decode cX0_makeReadable 40 = .ok (.getfield 9, 3) := by decide +kernel
theorem dX0_makeReadable_43 : decode cX0_makeReadable 43 = .ok (.iload_n 3, 1) := by decide +kernel
theorem dX0_makeReadable_44 : decode cX0_makeReadable 44 = .ok (.iaload, 1) := by decide +kernel
theorem dX0_makeReadable_45 : decode cX0_makeReadable 45 = .ok (.iload 4, 2) := by decide +kernel
theorem dX0_makeReadable_47 : decode cX0_makeReadable 47 = .ok (.invokestatic 82, 3) := by decide +kernel
theorem dX0_makeReadable_50 : decode cX0_makeReadable 50 = .ok (.istore 5, 2) := by decide +kernel
theorem dX0_makeReadable_52 : decode cX0_makeReadable 52 = .ok (.iload 5, 2) := by decide +kernel
theorem dX0_makeReadable_54 : decode cX0_makeReadable 54 = .ok (.ifCond .le 21, 3) := by decide +kernel
theorem dX0_makeReadable_57 : decode cX0_makeReadable 57 = .ok (.aload_n 0, 1) := by decide +kernel
theorem dX0_makeReadable_58 : decode cX0_makeReadable 58 = .ok (.getfield 9, 3) := by decide +kernel
theorem dX0_makeReadable_61 : decode cX0_makeReadable 61 = .ok (.iload_n 3, 1) := by decide +kernel
theorem dX0_makeReadable_62 : decode cX0_makeReadable 62 = .ok (.iload 4, 2) := by decide +kernel
theorem dX0_makeReadable_64 : decode cX0_makeReadable 64 = .ok (.iastore, 1) := by decide +kernel
theorem dX0_makeReadable_65 : decode cX0_makeReadable 65 = .ok (.aload_n 0, 1) := by decide +kernel
theorem dX0_makeReadable_66 : decode cX0_makeReadable 66 = .ok (.dup, 1) := by decide +kernel
theorem dX0_makeReadable_67 : decode cX0_makeReadable 67 = .ok (.getfield 43, 3) := by decide +kernel
theorem dX0_makeReadable_70 : decode cX0_makeReadable 70 = .ok (.iconst 1, 1) := by decide +kernel
theorem dX0_makeReadable_71 : decode cX0_makeReadable 71 = .ok (.iadd, 1) := by decide +kernel
theorem dX0_makeReadable_72 : decode cX0_makeReadable 72 = .ok (.putfield 43, 3) := by decide +kernel
theorem dX0_makeReadable_75 : decode cX0_makeReadable 75 = .ok (.iload 5, 2) := by decide +kernel
theorem dX0_makeReadable_77 : decode cX0_makeReadable 77 = .ok (.ireturn, 1) := by decide +kernel
set_option maxRecDepth 20000 in
theorem ggX0_nearestColour_X1_change : GoodIn wsX0_nearestColour wsX1_change := goodIn_r _ [6, 7, 8, 5, 9, 10, 11, 12, 13, 14, 15, 16] (by decide +kernel) (by decide +kernel)
set_option maxRecDepth 20000 in
theorem gX0_nearestColour_X1_change : GoodIn wsX0_nearestColour (va_wsS RX0 82 yX1_change wsX1_change) := goodIn_app (goodIn_of _ (by decide +kernel)) ggX0_nearestColour_X1_change
set_option maxRecDepth 20000 in
theorem ggX0_nearestColour_X0_tellsColours : GoodIn wsX0_nearestColour wsX0_tellsColours := goodIn_r _ [21, 22, 23, 24, 8, 5, 9, 10, 11, 12, 13, 14, 15, 16, 25, 26, 27, 28, 29, 30, 31, 32, 33, 34] (by decide +kernel) (by decide +kernel)
set_option maxRecDepth 20000 in
theorem gX0_nearestColour_X0_tellsColours : GoodIn wsX0_nearestColour (wsV RX0 49 RX0 yX0_tellsColours wsX0_tellsColours) := goodIn_app (goodIn_of _ (by decide +kernel)) ggX0_nearestColour_X0_tellsColours
theorem dX0_nearestColour_0 : decode cX0_nearestColour 0 = .ok (.iconst (-1), 1) := by decide +kernel
theorem dX0_nearestColour_1 : decode cX0_nearestColour 1 = .ok (.istore 4, 2) := by decide +kernel
theorem dX0_nearestColour_3 : decode cX0_nearestColour 3 = .ok (.bipush 28, 2) := by decide +kernel
theorem dX0_nearestColour_5 : decode cX0_nearestColour 5 = .ok (.istore 5, 2) := by decide +kernel
theorem dX0_nearestColour_7 : decode cX0_nearestColour 7 = .ok (.iconst 0, 1) := by decide +kernel
theorem dX0_nearestColour_8 : decode cX0_nearestColour 8 = .ok (.istore 6, 2) := by decide +kernel
theorem dX0_nearestColour_10 : decode cX0_nearestColour 10 = .ok (.iload 6, 2) := by decide +kernel
theorem dX0_nearestColour_12 : decode cX0_nearestColour 12 = .ok (.sipush 1000, 3) := by decide +kernel
theorem dX0_nearestColour_15 : decode cX0_nearestColour 15 = .ok (.if_icmp .ge 59, 3) := by decide +kernel
theorem dX0_nearestColour_18 : decode cX0_nearestColour 18 = .ok (.aload_n 0, 1) := by decide +kernel
theorem dX0_nearestColour_19 : decode cX0_nearestColour 19 = .ok (.getfield 9, 3) := by decide +kernel
theorem dX0_nearestColour_22 : decode cX0_nearestColour 22 = .ok (.iload_n 2, 1) := by decide +kernel
theorem dX0_nearestColour_23 : decode cX0_nearestColour 23 = .ok (.iaload, 1) := by decide +kernel
theorem dX0_nearestColour_24 : decode cX0_nearestColour 24 = .ok (.iload 6, 2) := by decide +kernel
theorem dX0_nearestColour_26 : decode cX0_nearestColour 26 = .ok (.invokestatic 82, 3) := by decide +kernel
theorem dX0_nearestColour_29 : decode cX0_nearestColour 29 = .ok (.istore 7, 2) := by decide +kernel
theorem dX0_nearestColour_31 : decode cX0_nearestColour 31 = .ok (.iload 7, 2) := by decide +kernel
theorem dX0_nearestColour_33 : decode cX0_nearestColour 33 = .ok (.iload 5, 2) := by decide +kernel
theorem dX0_nearestColour_35 : decode cX0_nearestColour 35 = .ok (.if_icmp .ge 33, 3) := by decide +kernel
theorem dX0_nearestColour_38 : decode cX0_nearestColour 38 = .ok (.aload_n 0, 1) := by decide +kernel
theorem dX0_nearestColour_39 : decode cX0_nearestColour 39 = .ok (.iload_n 1, 1) := by decide +kernel
theorem dX0_nearestColour_40 : decode cX0_nearestColour 40 = .ok (.aload_n 0, 1) := by decide +kernel
theorem dX0_nearestColour_41 : decode cX0_nearestColour 41 = .ok (.getfield 24, 3) := by decide +kernel
theorem dX0_nearestColour_44 : decode cX0_nearestColour 44 = .ok (.iload_n 1, 1) := by decide +kernel
theorem dX0_nearestColour_45 : decode cX0_nearestColour 45 = .ok (.iaload, 1) := by decide +kernel
theorem dX0_nearestColour_46 : decode cX0_nearestColour 46 = .ok (.iload 6, 2) := by decide +kernel
theorem dX0_nearestColour_48 : decode cX0_nearestColour 48 = .ok (.aload_n 0, 1) := by decide +kernel
theorem dX0_nearestColour_49 : decode cX0_nearestColour 49 = .ok (.getfield 9, 3) := by decide +kernel
theorem dX0_nearestColour_52 : decode cX0_nearestColour 52 = .ok (.iload_n 3, 1) := by decide +kernel
theorem dX0_nearestColour_53 : decode cX0_nearestColour 53 = .ok (.iaload, 1) := by decide +kernel
theorem dX0_nearestColour_54 : decode cX0_nearestColour 54 = .ok (.invokevirtual 49, 3) := by decide +kernel
theorem dX0_nearestColour_57 : decode cX0_nearestColour 57 = .ok (.ifCond .eq 11, 3) := by decide +kernel
theorem dX0_nearestColour_60 : decode cX0_nearestColour 60 = .ok (.iload 6, 2) := by decide +kernel
theorem dX0_nearestColour_62 : decode cX0_nearestColour 62 = .ok (.istore 4, 2) := by decide +kernel
theorem dX0_nearestColour_64 : decode cX0_nearestColour 64 = .ok (.iload 7, 2) := by decide +kernel
theorem dX0_nearestColour_66 : decode cX0_nearestColour 66 = .ok (.istore 5, 2) := by decide +kernel
theorem dX0_nearestColour_68 : decode cX0_nearestColour 68 = .ok (.iinc 6 1, 3) := by decide +kernel
theorem dX0_nearestColour_71 : decode cX0_nearestColour 71 = .ok (.goto (-61), 3) := by decide +kernel
theorem dX0_nearestColour_74 : decode cX0_nearestColour 74 = .ok (.iload 4, 2) := by decide +kernel
theorem dX0_nearestColour_76 : decode cX0_nearestColour 76 = .ok (.ireturn, 1) := by decide +kernel
theorem dX1_partOf_0 : decode cX1_partOf 0 = .ok (.iload_n 1, 1) := by decide +kernel
theorem dX1_partOf_1 : decode cX1_partOf 1 = .ok (.lookupswitch 40 #[(0, 27), (1, 32)], 27) := by decide +kernel
theorem dX1_partOf_28 : decode cX1_partOf 28 = .ok (.iload_n 0, 1) := by decide +kernel
theorem dX1_partOf_29 : decode cX1_partOf 29 = .ok (.bipush 100, 2) := by decide +kernel
theorem dX1_partOf_31 : decode cX1_partOf 31 = .ok (.idiv, 1) := by decide +kernel
theorem dX1_partOf_32 : decode cX1_partOf 32 = .ok (.ireturn, 1) := by decide +kernel
theorem dX1_partOf_33 : decode cX1_partOf 33 = .ok (.iload_n 0, 1) := by decide +kernel
theorem dX1_partOf_34 : decode cX1_partOf 34 = .ok (.bipush 10, 2) := by decide +kernel
theorem dX1_partOf_36 : decode cX1_partOf 36 = .ok (.idiv, 1) := by decide +kernel
theorem dX1_partOf_37 : decode cX1_partOf 37 = .ok (.bipush 10, 2) := by decide +kernel
theorem dX1_partOf_39 : decode cX1_partOf 39 = .ok (.irem, 1) := by decide +kernel
theorem dX1_partOf_40 : decode cX1_partOf 40 = .ok (.ireturn, 1) := by decide +kernel
theorem dX1_partOf_41 : decode cX1_partOf 41 = .ok (.iload_n 0, 1) := by decide +kernel
theorem dX1_partOf_42 : decode cX1_partOf 42 = .ok (.bipush 10, 2) := by decide +kernel
theorem dX1_partOf_44 : decode cX1_partOf 44 = .ok (.irem, 1) := by decide +kernel
theorem dX1_partOf_45 : decode cX1_partOf 45 = .ok (.ireturn, 1) := by decide +kernel
set_option maxRecDepth 20000 in
theorem ggX1_withPart_X1_partOf : GoodIn wsX1_withPart wsX1_partOf := goodIn_r _ [4] (by decide +kernel) (by decide +kernel)
set_option maxRecDepth 20000 in
theorem gX1_withPart_X1_partOf : GoodIn wsX1_withPart (va_wsS RX1 7 yX1_partOf wsX1_partOf) := goodIn_app (goodIn_of _ (by decide +kernel)) ggX1_withPart_X1_partOf
theorem dX1_withPart_0 : decode cX1_withPart 0 = .ok (.iload_n 1, 1) := by decide +kernel
theorem dX1_withPart_1 : decode cX1_withPart 1 = .ok (.ifCond .ne 8, 3) := by decide +kernel
theorem dX1_withPart_4 : decode cX1_withPart 4 = .ok (.bipush 100, 2) := by decide +kernel
theorem dX1_withPart_6 : decode cX1_withPart 6 = .ok (.goto 14, 3) := by decide +kernel
theorem dX1_withPart_9 : decode cX1_withPart 9 = .ok (.iload_n 1, 1) := by decide +kernel
theorem dX1_withPart_10 : decode cX1_withPart 10 = .ok (.iconst 1, 1) := by decide +kernel
theorem dX1_withPart_11 : decode cX1_withPart 11 = .ok (.if_icmp .ne 8, 3) := by decide +kernel
theorem dX1_withPart_14 : decode cX1_withPart 14 = .ok (.bipush 10, 2) := by decide +kernel
theorem dX1_withPart_16 : decode cX1_withPart 16 = .ok (.goto 4, 3) := by decide +kernel
theorem dX1_withPart_19 : decode cX1_withPart 19 = .ok (.iconst 1, 1) := by decide +kernel
theorem dX1_withPart_20 : decode cX1_withPart 20 = .ok (.istore_n 3, 1) := by decide +kernel
theorem dX1_withPart_21 : decode cX1_withPart 21 = .ok (.iload_n 0, 1) := by decide +kernel
theorem dX1_withPart_22 : decode cX1_withPart 22 = .ok (.iload_n 2, 1) := by decide +kernel
theorem dX1_withPart_23 : decode cX1_withPart 23 = .ok (.iload_n 0, 1) := by decide +kernel
theorem dX1_withPart_24 : decode cX1_withPart 24 = .ok (.iload_n 1, 1) := by decide +kernel
theorem dX1_withPart_25 : decode cX1_withPart 25 = .ok (.invokestatic 7, 3) := by decide +kernel
theorem dX1_withPart_28 : decode cX1_withPart 28 = .ok (.isub, 1) := by decide +kernel
theorem dX1_withPart_29 : decode cX1_withPart 29 = .ok (.iload_n 3, 1) := by decide +kernel
theorem dX1_withPart_30 : decode cX1_withPart 30 = .ok (.imul, 1) := by decide +kernel
theorem dX1_withPart_31 : decode cX1_withPart 31 = .ok (.iadd, 1) := by decide +kernel
theorem dX1_withPart_32 : decode cX1_withPart 32 = .ok (.ireturn, 1) := by decide +kernel
theorem dX1_seenAs_0 : decode cX1_seenAs 0 = .ok (.iload_n 1, 1) := by decide +kernel
theorem dX1_seenAs_1 : decode cX1_seenAs 1 = .ok (.bipush 100, 2) := by decide +kernel
theorem dX1_seenAs_3 : decode cX1_seenAs 3 = .ok (.idiv, 1) := by decide +kernel
theorem dX1_seenAs_4 : decode cX1_seenAs 4 = .ok (.istore_n 2, 1) := by decide +kernel
theorem dX1_seenAs_5 : decode cX1_seenAs 5 = .ok (.iload_n 1, 1) := by decide +kernel
theorem dX1_seenAs_6 : decode cX1_seenAs 6 = .ok (.bipush 10, 2) := by decide +kernel
theorem dX1_seenAs_8 : decode cX1_seenAs 8 = .ok (.idiv, 1) := by decide +kernel
theorem dX1_seenAs_9 : decode cX1_seenAs 9 = .ok (.bipush 10, 2) := by decide +kernel
theorem dX1_seenAs_11 : decode cX1_seenAs 11 = .ok (.irem, 1) := by decide +kernel
theorem dX1_seenAs_12 : decode cX1_seenAs 12 = .ok (.istore_n 3, 1) := by decide +kernel
theorem dX1_seenAs_13 : decode cX1_seenAs 13 = .ok (.iload_n 1, 1) := by decide +kernel
theorem dX1_seenAs_14 : decode cX1_seenAs 14 = .ok (.bipush 10, 2) := by decide +kernel
theorem dX1_seenAs_16 : decode cX1_seenAs 16 = .ok (.irem, 1) := by decide +kernel
theorem dX1_seenAs_17 : decode cX1_seenAs 17 = .ok (.istore 4, 2) := by decide +kernel
theorem dX1_seenAs_19 : decode cX1_seenAs 19 = .ok (.iload_n 0, 1) := by decide +kernel
theorem dX1_seenAs_20 : decode cX1_seenAs 20 = .ok (.tableswitch 62 1 3 #[28, 40, 50], 28) := by decide +kernel
theorem dX1_seenAs_48 : decode cX1_seenAs 48 = .ok (.bipush 110, 2) := by decide +kernel
theorem dX1_seenAs_50 : decode cX1_seenAs 50 = .ok (.iload_n 2, 1) := by decide +kernel
theorem dX1_seenAs_51 : decode cX1_seenAs 51 = .ok (.iload_n 3, 1) := by decide +kernel
theorem dX1_seenAs_52 : decode cX1_seenAs 52 = .ok (.iadd, 1) := by decide +kernel
theorem dX1_seenAs_53 : decode cX1_seenAs 53 = .ok (.iconst 2, 1) := by decide +kernel
theorem dX1_seenAs_54 : decode cX1_seenAs 54 = .ok (.idiv, 1) := by decide +kernel
theorem dX1_seenAs_55 : decode cX1_seenAs 55 = .ok (.imul, 1) := by decide +kernel
theorem dX1_seenAs_56 : decode cX1_seenAs 56 = .ok (.iload 4, 2) := by decide +kernel
theorem dX1_seenAs_58 : decode cX1_seenAs 58 = .ok (.iadd, 1) := by decide +kernel
theorem dX1_seenAs_59 : decode cX1_seenAs 59 = .ok (.ireturn, 1) := by decide +kernel
theorem dX1_seenAs_60 : decode cX1_seenAs 60 = .ok (.bipush 100, 2) := by decide +kernel
theorem dX1_seenAs_62 : decode cX1_seenAs 62 = .ok (.iload_n 2, 1) := by decide +kernel
theorem dX1_seenAs_63 : decode cX1_seenAs 63 = .ok (.imul, 1) := by decide +kernel
theorem dX1_seenAs_64 : decode cX1_seenAs 64 = .ok (.bipush 10, 2) := by decide +kernel
theorem dX1_seenAs_66 : decode cX1_seenAs 66 = .ok (.iload_n 3, 1) := by decide +kernel
theorem dX1_seenAs_67 : decode cX1_seenAs 67 = .ok (.imul, 1) := by decide +kernel
theorem dX1_seenAs_68 : decode cX1_seenAs 68 = .ok (.iadd, 1) := by decide +kernel
theorem dX1_seenAs_69 : decode cX1_seenAs 69 = .ok (.ireturn, 1) := by decide +kernel
theorem dX1_seenAs_70 : decode cX1_seenAs 70 = .ok (.bipush 111, 2) := by decide +kernel
theorem dX1_seenAs_72 : decode cX1_seenAs 72 = .ok (.iload_n 2, 1) := by decide +kernel
theorem dX1_seenAs_73 : decode cX1_seenAs 73 = .ok (.iload_n 3, 1) := by decide +kernel
theorem dX1_seenAs_74 : decode cX1_seenAs 74 = .ok (.iadd, 1) := by decide +kernel
theorem dX1_seenAs_75 : decode cX1_seenAs 75 = .ok (.iload 4, 2) := by decide +kernel
theorem dX1_seenAs_77 : decode cX1_seenAs 77 = .ok (.iadd, 1) := by decide +kernel
theorem dX1_seenAs_78 : decode cX1_seenAs 78 = .ok (.iconst 3, 1) := by decide +kernel
theorem dX1_seenAs_79 : decode cX1_seenAs 79 = .ok (.idiv, 1) := by decide +kernel
theorem dX1_seenAs_80 : decode cX1_seenAs 80 = .ok (.imul, 1) := by decide +kernel
theorem dX1_seenAs_81 : decode cX1_seenAs 81 = .ok (.ireturn, 1) := by decide +kernel
theorem dX1_seenAs_82 : decode cX1_seenAs 82 = .ok (.iload_n 1, 1) := by decide +kernel
theorem dX1_seenAs_83 : decode cX1_seenAs 83 = .ok (.ireturn, 1) := by decide +kernel
set_option maxRecDepth 20000 in
theorem ggX1_distance_X1_seenAs : GoodIn wsX1_distance wsX1_seenAs := goodIn_r _ [8] (by decide +kernel) (by decide +kernel)
set_option maxRecDepth 20000 in
theorem gX1_distance_X1_seenAs : GoodIn wsX1_distance (va_wsS RX1 13 yX1_seenAs wsX1_seenAs) := goodIn_app (goodIn_of _ (by decide +kernel)) ggX1_distance_X1_seenAs
theorem dX1_distance_0 : decode cX1_distance 0 = .ok (.iload_n 0, 1) := by decide +kernel
theorem dX1_distance_1 : decode cX1_distance 1 = .ok (.iload_n 1, 1) := by decide +kernel
theorem dX1_distance_2 : decode cX1_distance 2 = .ok (.invokestatic 13, 3) := by decide +kernel
theorem dX1_distance_5 : decode cX1_distance 5 = .ok (.istore_n 3, 1) := by decide +kernel
theorem dX1_distance_6 : decode cX1_distance 6 = .ok (.iload_n 0, 1) := by decide +kernel
theorem dX1_distance_7 : decode cX1_distance 7 = .ok (.iload_n 2, 1) := by decide +kernel
theorem dX1_distance_8 : decode cX1_distance 8 = .ok (.invokestatic 13, 3) := by decide +kernel
theorem dX1_distance_11 : decode cX1_distance 11 = .ok (.istore 4, 2) := by decide +kernel
theorem dX1_distance_13 : decode cX1_distance 13 = .ok (.iload_n 3, 1) := by decide +kernel
theorem dX1_distance_14 : decode cX1_distance 14 = .ok (.bipush 100, 2) := by decide +kernel
theorem dX1_distance_16 : decode cX1_distance 16 = .ok (.idiv, 1) := by decide +kernel
theorem dX1_distance_17 : decode cX1_distance 17 = .ok (.iload 4, 2) := by decide +kernel
theorem dX1_distance_19 : decode cX1_distance 19 = .ok (.bipush 100, 2) := by decide +kernel
theorem dX1_distance_21 : decode cX1_distance 21 = .ok (.idiv, 1) := by decide +kernel
theorem dX1_distance_22 : decode cX1_distance 22 = .ok (.isub, 1) := by decide +kernel
theorem dX1_distance_23 : decode cX1_distance 23 = .ok (.invokestatic 16, 3) := by decide +kernel
theorem dX1_distance_26 : decode cX1_distance 26 = .ok (.iload_n 3, 1) := by decide +kernel
theorem dX1_distance_27 : decode cX1_distance 27 = .ok (.bipush 10, 2) := by decide +kernel
theorem dX1_distance_29 : decode cX1_distance 29 = .ok (.idiv, 1) := by decide +kernel
theorem dX1_distance_30 : decode cX1_distance 30 = .ok (.bipush 10, 2) := by decide +kernel
theorem dX1_distance_32 : decode cX1_distance 32 = .ok (.irem, 1) := by decide +kernel
theorem dX1_distance_33 : decode cX1_distance 33 = .ok (.iload 4, 2) := by decide +kernel
theorem dX1_distance_35 : decode cX1_distance 35 = .ok (.bipush 10, 2) := by decide +kernel
theorem dX1_distance_37 : decode cX1_distance 37 = .ok (.idiv, 1) := by decide +kernel
theorem dX1_distance_38 : decode cX1_distance 38 = .ok (.bipush 10, 2) := by decide +kernel
theorem dX1_distance_40 : decode cX1_distance 40 = .ok (.irem, 1) := by decide +kernel
theorem dX1_distance_41 : decode cX1_distance 41 = .ok (.isub, 1) := by decide +kernel
theorem dX1_distance_42 : decode cX1_distance 42 = .ok (.invokestatic 16, 3) := by decide +kernel
theorem dX1_distance_45 : decode cX1_distance 45 = .ok (.iadd, 1) := by decide +kernel
theorem dX1_distance_46 : decode cX1_distance 46 = .ok (.iload_n 3, 1) := by decide +kernel
theorem dX1_distance_47 : decode cX1_distance 47 = .ok (.bipush 10, 2) := by decide +kernel
theorem dX1_distance_49 : decode cX1_distance 49 = .ok (.irem, 1) := by decide +kernel
theorem dX1_distance_50 : decode cX1_distance 50 = .ok (.iload 4, 2) := by decide +kernel
theorem dX1_distance_52 : decode cX1_distance 52 = .ok (.bipush 10, 2) := by decide +kernel
theorem dX1_distance_54 : decode cX1_distance 54 = .ok (.irem, 1) := by decide +kernel
theorem dX1_distance_55 : decode cX1_distance 55 = .ok (.isub, 1) := by decide +kernel
theorem dX1_distance_56 : decode cX1_distance 56 = .ok (.invokestatic 16, 3) := by decide +kernel
theorem dX1_distance_59 : decode cX1_distance 59 = .ok (.iadd, 1) := by decide +kernel
theorem dX1_distance_60 : decode cX1_distance 60 = .ok (.ireturn, 1) := by decide +kernel
set_option maxRecDepth 20000 in
theorem ggX1_change_X1_distance : GoodIn wsX1_change wsX1_distance := goodIn_r _ [4, 5, 6, 7, 8, 9, 10, 3, 11] (by decide +kernel) (by decide +kernel)
set_option maxRecDepth 20000 in
theorem gX1_change_X1_distance : GoodIn wsX1_change (va_wsS RX1 22 yX1_distance wsX1_distance) := goodIn_app (goodIn_of _ (by decide +kernel)) ggX1_change_X1_distance
theorem dX1_change_0 : decode cX1_change 0 = .ok (.iconst 0, 1) := by decide +kernel
theorem dX1_change_1 : decode cX1_change 1 = .ok (.iload_n 0, 1) := by decide +kernel
theorem dX1_change_2 : decode cX1_change 2 = .ok (.iload_n 1, 1) := by decide +kernel
theorem dX1_change_3 : decode cX1_change 3 = .ok (.invokestatic 22, 3) := by decide +kernel
theorem dX1_change_6 : decode cX1_change 6 = .ok (.ireturn, 1) := by decide +kernel
theorem dX2_init_0 : decode cX2_init 0 = .ok (.aload_n 0, 1) := by decide +kernel
theorem dX2_init_1 : decode cX2_init 1 = .ok (.invokespecial 3, 3) := by decide +kernel
theorem dX2_init_4 : decode cX2_init 4 = .ok (.aload_n 0, 1) := by decide +kernel
theorem dX2_init_5 : decode cX2_init 5 = .ok (.bipush 8, 2) := by decide +kernel
theorem dX2_init_7 : decode cX2_init 7 = .ok (.newarray .int, 2) := by decide +kernel
theorem dX2_init_9 : decode cX2_init 9 = .ok (.putfield 9, 3) := by decide +kernel
theorem dX2_init_12 : decode cX2_init 12 = .ok (.aload_n 0, 1) := by decide +kernel
theorem dX2_init_13 : decode cX2_init 13 = .ok (.sipush 256, 3) := by decide +kernel
theorem dX2_init_16 : decode cX2_init 16 = .ok (.newarray .boolean, 2) := by decide +kernel
theorem dX2_init_18 : decode cX2_init 18 = .ok (.putfield 15, 3) := by decide +kernel
theorem dX2_init_21 : decode cX2_init 21 = .ok (.aload_n 0, 1) := by decide +kernel
theorem dX2_init_22 : decode cX2_init 22 = .ok (.sipush 256, 3) := by decide +kernel
theorem dX2_init_25 : decode cX2_init 25 = .ok (.newarray .int, 2) := by decide +kernel
theorem dX2_init_27 : decode cX2_init 27 = .ok (.putfield 19, 3) := by decide +kernel
theorem dX2_init_30 : decode cX2_init 30 = .ok (.aload_n 0, 1) := by decide +kernel
theorem dX2_init_31 : decode cX2_init 31 = .ok (.bipush 8, 2) := by decide +kernel
theorem dX2_init_33 : decode cX2_init 33 = .ok (.newarray .int, 2) := by decide +kernel
theorem dX2_init_35 : decode cX2_init 35 = .ok (.putfield 22, 3) := by decide +kernel
theorem dX2_init_38 : decode cX2_init 38 = .ok (.return_, 1) := by decide +kernel
set_option maxRecDepth 20000 in
theorem ggX2_look_X0_tells : GoodIn wsX2_look wsX0_tells := goodIn_r _ [6, 7, 8, 9, 10, 11, 5, 12, 13, 14, 15, 16, 17, 18, 19, 20, 21, 22, 23, 24, 25, 30, 31, 32, 33, 34, 35, 36, 37, 38, 39] (by decide +kernel) (by decide +kernel)
set_option maxRecDepth 20000 in
theorem gX2_look_X0_tells : GoodIn wsX2_look (wsV RX2 25 RX0 yX0_tells wsX0_tells) := goodIn_app (goodIn_of _ (by decide +kernel)) ggX2_look_X0_tells
theorem dX2_look_0 : decode cX2_look 0 = .ok (.iconst 0, 1) := by decide +kernel
theorem dX2_look_1 : decode cX2_look 1 = .ok (.istore_n 3, 1) := by decide +kernel
theorem dX2_look_2 : decode cX2_look 2 = .ok (.iload_n 3, 1) := by decide +kernel
theorem dX2_look_3 : decode cX2_look 3 = .ok (.bipush 8, 2) := by decide +kernel
theorem dX2_look_5 : decode cX2_look 5 = .ok (.if_icmp .ge 56, 3) := by decide +kernel
theorem dX2_look_8 : decode cX2_look 8 = .ok (.aload_n 0, 1) := by decide +kernel
theorem dX2_look_9 : decode cX2_look 9 = .ok (.getfield 9, 3) := by decide +kernel
theorem dX2_look_12 : decode cX2_look 12 = .ok (.iload_n 3, 1) := by decide +kernel
theorem dX2_look_13 : decode cX2_look 13 = .ok (.iconst 0, 1) := by decide +kernel
theorem dX2_look_14 : decode cX2_look 14 = .ok (.iastore, 1) := by decide +kernel
theorem dX2_look_15 : decode cX2_look 15 = .ok (.iconst 0, 1) := by decide +kernel
theorem dX2_look_16 : decode cX2_look 16 = .ok (.istore 4, 2) := by decide +kernel
theorem dX2_look_18 : decode cX2_look 18 = .ok (.iload 4, 2) := by decide +kernel
theorem dX2_look_20 : decode cX2_look 20 = .ok (.bipush 8, 2) := by decide +kernel
theorem dX2_look_22 : decode cX2_look 22 = .ok (.if_icmp .ge 33, 3) := by decide +kernel
theorem dX2_look_25 : decode cX2_look 25 = .ok (.aload_n 1, 1) := by decide +kernel
theorem dX2_look_26 : decode cX2_look 26 = .ok (.iload_n 2, 1) := by decide +kernel
theorem dX2_look_27 : decode cX2_look 27 = .ok (.iload_n 3, 1) := by decide +kernel
theorem dX2_look_28 : decode cX2_look 28 = .ok (.iload 4, 2) := by decide +kernel
theorem dX2_look_30 : decode cX2_look 30 = .ok (.invokevirtual 25, 3) := by decide +kernel
theorem dX2_look_33 : decode cX2_look 33 = .ok (.ifCond .eq 16, 3) := by decide +kernel
theorem dX2_look_36 : decode cX2_look 36 = .ok (.aload_n 0, 1) := by decide +kernel
theorem dX2_look_37 : decode cX2_look 37 = .ok (.getfield 9, 3) := by decide +kernel
theorem dX2_look_40 : decode cX2_look 40 = .ok (.iload_n 3, 1) := by decide +kernel
theorem dX2_look_41 : decode cX2_look 41 = .ok (.dup2, 1) := by decide +kernel
theorem dX2_look_42 : decode cX2_look 42 = .ok (.iaload, 1) := by decide +kernel
theorem dX2_look_43 : decode cX2_look 43 = .ok (.iconst 1, 1) := by decide +kernel
theorem dX2_look_44 : decode cX2_look 44 = .ok (.iload 4, 2) := by decide +kernel
theorem dX2_look_46 : decode cX2_look 46 = .ok (.ishl, 1) := by decide +kernel
theorem dX2_look_47 : decode cX2_look 47 = .ok (.ior, 1) := by decide +kernel
theorem dX2_look_48 : decode cX2_look 48 = .ok (.iastore, 1) := by decide +kernel
theorem dX2_look_49 : decode cX2_look 49 = .ok (.iinc 4 1, 3) := by decide +kernel
theorem dX2_look_52 : decode cX2_look 52 = .ok (.goto (-34), 3) := by decide +kernel
theorem dX2_look_55 : decode cX2_look 55 = .ok (.iinc 3 1, 3) := by decide +kernel
theorem dX2_look_58 : decode cX2_look 58 = .ok (.goto (-56), 3) := by decide +kernel
theorem dX2_look_61 : decode cX2_look 61 = .ok (.return_, 1) := by decide +kernel
set_option maxRecDepth 20000 in
theorem ggX2_fewestBySets_X2_needOf : GoodIn wsX2_fewestBySets wsX2_needOf := goodIn_r _ [8, 1, 2, 9, 10, 11, 12, 13, 14, 15, 16] (by decide +kernel) (by decide +kernel)
set_option maxRecDepth 20000 in
theorem gX2_fewestBySets_X2_needOf : GoodIn wsX2_fewestBySets (wsV RX2 31 RX2 yX2_needOf wsX2_needOf) := goodIn_app (goodIn_of _ (by decide +kernel)) ggX2_fewestBySets_X2_needOf
theorem dX2_fewestBySets_0 : decode cX2_fewestBySets 0 = .ok (.aload_n 0, 1) := by decide +kernel
theorem dX2_fewestBySets_1 : decode cX2_fewestBySets 1 = .ok (.getfield 15, 3) := by decide +kernel
theorem dX2_fewestBySets_4 : decode cX2_fewestBySets 4 = .ok (.iconst 0, 1) := by decide +kernel
theorem dX2_fewestBySets_5 : decode cX2_fewestBySets 5 = .ok (.iconst 1, 1) := by decide +kernel
theorem dX2_fewestBySets_6 : decode cX2_fewestBySets 6 = .ok (.bastore, 1) := by decide +kernel
theorem dX2_fewestBySets_7 : decode cX2_fewestBySets 7 = .ok (.aload_n 0, 1) := by decide +kernel
theorem dX2_fewestBySets_8 : decode cX2_fewestBySets 8 = .ok (.getfield 19, 3) := by decide +kernel
theorem dX2_fewestBySets_11 : decode cX2_fewestBySets 11 = .ok (.iconst 0, 1) := by decide +kernel
theorem dX2_fewestBySets_12 : decode cX2_fewestBySets 12 = .ok (.iconst 0, 1) := by decide +kernel
theorem dX2_fewestBySets_13 : decode cX2_fewestBySets 13 = .ok (.iastore, 1) := by decide +kernel
theorem dX2_fewestBySets_14 : decode cX2_fewestBySets 14 = .ok (.iconst 0, 1) := by decide +kernel
theorem dX2_fewestBySets_15 : decode cX2_fewestBySets 15 = .ok (.istore_n 1, 1) := by decide +kernel
theorem dX2_fewestBySets_16 : decode cX2_fewestBySets 16 = .ok (.iload_n 1, 1) := by decide +kernel
theorem dX2_fewestBySets_17 : decode cX2_fewestBySets 17 = .ok (.bipush 8, 2) := by decide +kernel
theorem dX2_fewestBySets_19 : decode cX2_fewestBySets 19 = .ok (.if_icmp .ge 73, 3) := by decide +kernel
theorem dX2_fewestBySets_22 : decode cX2_fewestBySets 22 = .ok (.iconst 1, 1) := by decide +kernel
theorem dX2_fewestBySets_23 : decode cX2_fewestBySets 23 = .ok (.iload_n 1, 1) := by decide +kernel
theorem dX2_fewestBySets_24 : decode cX2_fewestBySets 24 = .ok (.ishl, 1) := by decide +kernel
theorem dX2_fewestBySets_25 : decode cX2_fewestBySets 25 = .ok (.istore_n 2, 1) := by decide +kernel
theorem dX2_fewestBySets_26 : decode cX2_fewestBySets 26 = .ok (.iconst 0, 1) := by decide +kernel
theorem dX2_fewestBySets_27 : decode cX2_fewestBySets 27 = .ok (.istore_n 3, 1) := by decide +kernel
theorem dX2_fewestBySets_28 : decode cX2_fewestBySets 28 = .ok (.iload_n 3, 1) := by decide +kernel
theorem dX2_fewestBySets_29 : decode cX2_fewestBySets 29 = .ok (.iload_n 2, 1) := by decide +kernel
theorem dX2_fewestBySets_30 : decode cX2_fewestBySets 30 = .ok (.if_icmp .ge 56, 3) := by decide +kernel
theorem dX2_fewestBySets_33 : decode cX2_fewestBySets 33 = .ok (.aload_n 0, 1) := by decide +kernel
theorem dX2_fewestBySets_34 : decode cX2_fewestBySets 34 = .ok (.getfield 15, 3) := by decide +kernel
theorem dX2_fewestBySets_37 : decode cX2_fewestBySets 37 = .ok (.iload_n 2, 1) := by decide +kernel
theorem dX2_fewestBySets_38 : decode cX2_fewestBySets 38 = .ok (.iload_n 3, 1) := by decide +kernel
theorem dX2_fewestBySets_39 : decode cX2_fewestBySets 39 = .ok (.ior, 1) := by decide +kernel
theorem dX2_fewestBySets_40 : decode cX2_fewestBySets 40 = .ok (.aload_n 0, 1) := by decide +kernel
theorem dX2_fewestBySets_41 : decode cX2_fewestBySets 41 = .ok (.getfield 15, 3) := by decide +kernel
theorem dX2_fewestBySets_44 : decode cX2_fewestBySets 44 = .ok (.iload_n 3, 1) := by decide +kernel
theorem dX2_fewestBySets_45 : decode cX2_fewestBySets 45 = .ok (.baload, 1) := by decide +kernel
theorem dX2_fewestBySets_46 : decode cX2_fewestBySets 46 = .ok (.ifCond .eq 18, 3) := by decide +kernel
theorem dX2_fewestBySets_49 : decode cX2_fewestBySets 49 = .ok (.aload_n 0, 1) := by decide +kernel
theorem dX2_fewestBySets_50 : decode cX2_fewestBySets 50 = .ok (.getfield 9, 3) := by decide +kernel
theorem dX2_fewestBySets_53 : decode cX2_fewestBySets 53 = .ok (.iload_n 1, 1) := by decide +kernel
theorem dX2_fewestBySets_54 : decode cX2_fewestBySets 54 = .ok (.iaload, 1) := by decide +kernel
theorem dX2_fewestBySets_55 : decode cX2_fewestBySets 55 = .ok (.iload_n 3, 1) := by decide +kernel
theorem dX2_fewestBySets_56 : decode cX2_fewestBySets 56 = .ok (.iand, 1) := by decide +kernel
theorem dX2_fewestBySets_57 : decode cX2_fewestBySets 57 = .ok (.ifCond .ne 7, 3) := by decide +kernel
theorem dX2_fewestBySets_60 : decode cX2_fewestBySets 60 = .ok (.iconst 1, 1) := by decide +kernel
theorem dX2_fewestBySets_61 : decode cX2_fewestBySets 61 = .ok (.goto 4, 3) := by decide +kernel
theorem dX2_fewestBySets_64 : decode cX2_fewestBySets 64 = .ok (.iconst 0, 1) := by decide +kernel
theorem dX2_fewestBySets_65 : decode cX2_fewestBySets 65 = .ok (.bastore, 1) := by decide +kernel
theorem dX2_fewestBySets_66 : decode cX2_fewestBySets 66 = .ok (.aload_n 0, 1) := by decide +kernel
theorem dX2_fewestBySets_67 : decode cX2_fewestBySets 67 = .ok (.getfield 19, 3) := by decide +kernel
theorem dX2_fewestBySets_70 : decode cX2_fewestBySets 70 = .ok (.iload_n 2, 1) := by decide +kernel
theorem dX2_fewestBySets_71 : decode cX2_fewestBySets 71 = .ok (.iload_n 3, 1) := by decide +kernel
theorem dX2_fewestBySets_72 : decode cX2_fewestBySets 72 = .ok (.ior, 1) := by decide +kernel
theorem dX2_fewestBySets_73 : decode cX2_fewestBySets 73 = .ok (.aload_n 0, 1) := by decide +kernel
theorem dX2_fewestBySets_74 : decode cX2_fewestBySets 74 = .ok (.iload_n 2, 1) := by decide +kernel
theorem dX2_fewestBySets_75 : decode cX2_fewestBySets 75 = .ok (.iload_n 3, 1) := by decide +kernel
theorem dX2_fewestBySets_76 : decode cX2_fewestBySets 76 = .ok (.invokevirtual 31, 3) := by decide +kernel
theorem dX2_fewestBySets_79 : decode cX2_fewestBySets 79 = .ok (.iastore, 1) := by decide +kernel
theorem dX2_fewestBySets_80 : decode cX2_fewestBySets 80 = .ok (.iinc 3 1, 3) := by decide +kernel
theorem dX2_fewestBySets_83 : decode cX2_fewestBySets 83 = .ok (.goto (-55), 3) := by decide +kernel
theorem dX2_fewestBySets_86 : decode cX2_fewestBySets 86 = .ok (.iinc 1 1, 3) := by decide +kernel
theorem dX2_fewestBySets_89 : decode cX2_fewestBySets 89 = .ok (.goto (-73), 3) := by decide +kernel
theorem dX2_fewestBySets_92 : decode cX2_fewestBySets 92 = .ok (.aload_n 0, 1) := by decide +kernel
theorem dX2_fewestBySets_93 : decode cX2_fewestBySets 93 = .ok (.getfield 19, 3) := by decide +kernel
theorem dX2_fewestBySets_96 : decode cX2_fewestBySets 96 = .ok (.sipush 255, 3) := by decide +kernel
theorem dX2_fewestBySets_99 : decode cX2_fewestBySets 99 = .ok (.iaload, 1) := by decide +kernel
theorem dX2_fewestBySets_100 : decode cX2_fewestBySets 100 = .ok (.ireturn, 1) := by decide +kernel
theorem dX2_needOf_0 : decode cX2_needOf 0 = .ok (.bipush 8, 2) := by decide +kernel
theorem dX2_needOf_2 : decode cX2_needOf 2 = .ok (.istore_n 3, 1) := by decide +kernel
theorem dX2_needOf_3 : decode cX2_needOf 3 = .ok (.iconst 0, 1) := by decide +kernel
theorem dX2_needOf_4 : decode cX2_needOf 4 = .ok (.istore 4, 2) := by decide +kernel
theorem dX2_needOf_6 : decode cX2_needOf 6 = .ok (.iload 4, 2) := by decide +kernel
theorem dX2_needOf_8 : decode cX2_needOf 8 = .ok (.iload_n 2, 1) := by decide +kernel
theorem dX2_needOf_9 : decode cX2_needOf 9 = .ok (.if_icmp .gt 46, 3) := by decide +kernel
theorem dX2_needOf_12 : decode cX2_needOf 12 = .ok (.iload 4, 2) := by decide +kernel
theorem dX2_needOf_14 : decode cX2_needOf 14 = .ok (.iload_n 2, 1) := by decide +kernel
theorem dX2_needOf_15 : decode cX2_needOf 15 = .ok (.iand, 1) := by decide +kernel
theorem dX2_needOf_16 : decode cX2_needOf 16 = .ok (.iload 4, 2) := by decide +kernel
theorem dX2_needOf_18 : decode cX2_needOf 18 = .ok (.if_icmp .ne 31, 3) := by decide +kernel
theorem dX2_needOf_21 : decode cX2_needOf 21 = .ok (.aload_n 0, 1) := by decide +kernel
theorem dX2_needOf_22 : decode cX2_needOf 22 = .ok (.getfield 15, 3) := by decide +kernel
theorem dX2_needOf_25 : decode cX2_needOf 25 = .ok (.iload_n 1, 1) := by decide +kernel
theorem dX2_needOf_26 : decode cX2_needOf 26 = .ok (.iload 4, 2) := by decide +kernel
theorem dX2_needOf_28 : decode cX2_needOf 28 = .ok (.ior, 1) := by decide +kernel
theorem dX2_needOf_29 : decode cX2_needOf 29 = .ok (.baload, 1) := by decide +kernel
theorem dX2_needOf_30 : decode cX2_needOf 30 = .ok (.ifCond .eq 19, 3) := by decide +kernel
theorem dX2_needOf_33 : decode cX2_needOf 33 = .ok (.iload_n 3, 1) := by decide +kernel
theorem dX2_needOf_34 : decode cX2_needOf 34 = .ok (.aload_n 0, 1) := by decide +kernel
theorem dX2_needOf_35 : decode cX2_needOf 35 = .ok (.getfield 19, 3) := by decide +kernel
theorem dX2_needOf_38 : decode cX2_needOf 38 = .ok (.iload_n 2, 1) := by decide +kernel
theorem dX2_needOf_39 : decode cX2_needOf 39 = .ok (.iload 4, 2) := by decide +kernel
theorem dX2_needOf_41 : decode cX2_needOf 41 = .ok (.ixor, 1) := by decide +kernel
theorem dX2_needOf_42 : decode cX2_needOf 42 = .ok (.iaload, 1) := by decide +kernel
theorem dX2_needOf_43 : decode cX2_needOf 43 = .ok (.iconst 1, 1) := by decide +kernel
theorem dX2_needOf_44 : decode cX2_needOf 44 = .ok (.iadd, 1) := by decide +kernel
theorem dX2_needOf_45 : decode cX2_needOf 45 = .ok (.invokestatic 35, 3) := by decide +kernel
theorem dX2_needOf_48 : decode cX2_needOf 48 = .ok (.istore_n 3, 1) := by decide +kernel
theorem dX2_needOf_49 : decode cX2_needOf 49 = .ok (.iinc 4 1, 3) := by decide +kernel
theorem dX2_needOf_52 : decode cX2_needOf 52 = .ok (.goto (-46), 3) := by decide +kernel
theorem dX2_needOf_55 : decode cX2_needOf 55 = .ok (.iload_n 3, 1) := by decide +kernel
theorem dX2_needOf_56 : decode cX2_needOf 56 = .ok (.ireturn, 1) := by decide +kernel
set_option maxRecDepth 20000 in
theorem ggX2_fewestByTrying_X2_fewestFrom : GoodIn wsX2_fewestByTrying wsX2_fewestFrom := goodIn_r _ [6, 3, 4, 5] (by decide +kernel) (by decide +kernel)
set_option maxRecDepth 20000 in
theorem gX2_fewestByTrying_X2_fewestFrom : GoodIn wsX2_fewestByTrying (va_wsS RX2 40 yX2_fewestFrom wsX2_fewestFrom) := goodIn_app (goodIn_of _ (by decide +kernel)) ggX2_fewestByTrying_X2_fewestFrom
theorem dX2_fewestByTrying_0 : decode cX2_fewestByTrying 0 = .ok (.aload_n 0, 1) := by decide +kernel
theorem dX2_fewestByTrying_1 : decode cX2_fewestByTrying 1 = .ok (.getfield 9, 3) := by decide +kernel
theorem dX2_fewestByTrying_4 : decode cX2_fewestByTrying 4 = .ok (.aload_n 0, 1) := by decide +kernel
theorem dX2_fewestByTrying_5 : decode cX2_fewestByTrying 5 = .ok (.getfield 22, 3) := by decide +kernel
theorem dX2_fewestByTrying_8 : decode cX2_fewestByTrying 8 = .ok (.iconst 0, 1) := by decide +kernel
theorem dX2_fewestByTrying_9 : decode cX2_fewestByTrying 9 = .ok (.iconst 0, 1) := by decide +kernel
theorem dX2_fewestByTrying_10 : decode cX2_fewestByTrying 10 = .ok (.bipush 8, 2) := by decide +kernel
theorem dX2_fewestByTrying_12 : decode cX2_fewestByTrying 12 = .ok (.invokestatic 40, 3) := by decide +kernel
theorem dX2_fewestByTrying_15 : decode cX2_fewestByTrying 15 = .ok (.ireturn, 1) := by decide +kernel
set_option maxRecDepth 20000 in
theorem ggX2_fewestFrom_X2_fewestFrom : GoodIn wsX2_fewestFrom wsX2_fewestFrom := goodIn_r _ [0, 1, 2, 3] (by decide +kernel) (by decide +kernel)
set_option maxRecDepth 20000 in
theorem gX2_fewestFrom_X2_fewestFrom : GoodIn wsX2_fewestFrom (va_wsS RX2 40 yX2_fewestFrom wsX2_fewestFrom) := goodIn_app (goodIn_of _ (by decide +kernel)) ggX2_fewestFrom_X2_fewestFrom
theorem dX2_fewestFrom_0 : decode cX2_fewestFrom 0 = .ok (.iload_n 3, 1) := by decide +kernel
theorem dX2_fewestFrom_1 : decode cX2_fewestFrom 1 = .ok (.iload 4, 2) := by decide +kernel
theorem dX2_fewestFrom_3 : decode cX2_fewestFrom 3 = .ok (.if_icmp .lt 6, 3) := by decide +kernel
theorem dX2_fewestFrom_6 : decode cX2_fewestFrom 6 = .ok (.iload 4, 2) := by decide +kernel
theorem dX2_fewestFrom_8 : decode cX2_fewestFrom 8 = .ok (.ireturn, 1) := by decide +kernel
theorem dX2_fewestFrom_9 : decode cX2_fewestFrom 9 = .ok (.iload_n 2, 1) := by decide +kernel
theorem dX2_fewestFrom_10 : decode cX2_fewestFrom 10 = .ok (.bipush 8, 2) := by decide +kernel
theorem dX2_fewestFrom_12 : decode cX2_fewestFrom 12 = .ok (.if_icmp .lt 5, 3) := by decide +kernel
theorem dX2_fewestFrom_15 : decode cX2_fewestFrom 15 = .ok (.iload_n 3, 1) := by decide +kernel
theorem dX2_fewestFrom_16 : decode cX2_fewestFrom 16 = .ok (.ireturn, 1) := by decide +kernel
theorem dX2_fewestFrom_17 : decode cX2_fewestFrom 17 = .ok (.iload 4, 2) := by decide +kernel
theorem dX2_fewestFrom_19 : decode cX2_fewestFrom 19 = .ok (.istore 5, 2) := by decide +kernel
theorem dX2_fewestFrom_21 : decode cX2_fewestFrom 21 = .ok (.iconst 0, 1) := by decide +kernel
theorem dX2_fewestFrom_22 : decode cX2_fewestFrom 22 = .ok (.istore 6, 2) := by decide +kernel
theorem dX2_fewestFrom_24 : decode cX2_fewestFrom 24 = .ok (.iload 6, 2) := by decide +kernel
theorem dX2_fewestFrom_26 : decode cX2_fewestFrom 26 = .ok (.iload_n 3, 1) := by decide +kernel
theorem dX2_fewestFrom_27 : decode cX2_fewestFrom 27 = .ok (.if_icmp .gt 78, 3) := by decide +kernel
theorem dX2_fewestFrom_30 : decode cX2_fewestFrom 30 = .ok (.iload 6, 2) := by decide +kernel
theorem dX2_fewestFrom_32 : decode cX2_fewestFrom 32 = .ok (.bipush 8, 2) := by decide +kernel
theorem dX2_fewestFrom_34 : decode cX2_fewestFrom 34 = .ok (.if_icmp .ge 71, 3) := by decide +kernel
theorem dX2_fewestFrom_37 : decode cX2_fewestFrom 37 = .ok (.aload_n 1, 1) := by decide +kernel
theorem dX2_fewestFrom_38 : decode cX2_fewestFrom 38 = .ok (.iload 6, 2) := by decide +kernel
theorem dX2_fewestFrom_40 : decode cX2_fewestFrom 40 = .ok (.iaload, 1) := by decide +kernel
theorem dX2_fewestFrom_41 : decode cX2_fewestFrom 41 = .ok (.aload_n 0, 1) := by decide +kernel
theorem dX2_fewestFrom_42 : decode cX2_fewestFrom 42 = .ok (.iload_n 2, 1) := by decide +kernel
theorem dX2_fewestFrom_43 : decode cX2_fewestFrom 43 = .ok (.iaload, 1) := by decide +kernel
theorem dX2_fewestFrom_44 : decode cX2_fewestFrom 44 = .ok (.iand, 1) := by decide +kernel
theorem dX2_fewestFrom_45 : decode cX2_fewestFrom 45 = .ok (.ifCond .ne 54, 3) := by decide +kernel
theorem dX2_fewestFrom_48 : decode cX2_fewestFrom 48 = .ok (.aload_n 1, 1) := by decide +kernel
theorem dX2_fewestFrom_49 : decode cX2_fewestFrom 49 = .ok (.iload 6, 2) := by decide +kernel
theorem dX2_fewestFrom_51 : decode cX2_fewestFrom 51 = .ok (.dup2, 1) := by decide +kernel
theorem dX2_fewestFrom_52 : decode cX2_fewestFrom 52 = .ok (.iaload, 1) := by decide +kernel
theorem dX2_fewestFrom_53 : decode cX2_fewestFrom 53 = .ok (.iconst 1, 1) := by decide +kernel
theorem dX2_fewestFrom_54 : decode cX2_fewestFrom 54 = .ok (.iload_n 2, 1) := by decide +kernel
theorem dX2_fewestFrom_55 : decode cX2_fewestFrom 55 = .ok (.ishl, 1) := by decide +kernel
theorem dX2_fewestFrom_56 : decode cX2_fewestFrom 56 = .ok (.ior, 1) := by decide +kernel
theorem dX2_fewestFrom_57 : decode cX2_fewestFrom 57 = .ok (.iastore, 1) := by decide +kernel
theorem dX2_fewestFrom_58 : decode cX2_fewestFrom 58 = .ok (.iload 6, 2) := by decide +kernel
theorem dX2_fewestFrom_60 : decode cX2_fewestFrom 60 = .ok (.iload_n 3, 1) := by decide +kernel
theorem dX2_fewestFrom_61 : decode cX2_fewestFrom 61 = .ok (.if_icmp .ne 9, 3) := by decide +kernel
theorem dX2_fewestFrom_64 : decode cX2_fewestFrom 64 = .ok (.iload_n 3, 1) := by decide +kernel
theorem dX2_fewestFrom_65 : decode cX2_fewestFrom 65 = .ok (.iconst 1, 1) := by decide +kernel
theorem dX2_fewestFrom_66 : decode cX2_fewestFrom 66 = .ok (.iadd, 1) := by decide +kernel
theorem dX2_fewestFrom_67 : decode cX2_fewestFrom 67 = .ok (.goto 4, 3) := by decide +kernel
theorem dX2_fewestFrom_70 : decode cX2_fewestFrom 70 = .ok (.iload_n 3, 1) := by decide +kernel
theorem dX2_fewestFrom_71 : decode cX2_fewestFrom 71 = .ok (.istore 7, 2) := by decide +kernel
theorem dX2_fewestFrom_73 : decode cX2_fewestFrom 73 = .ok (.aload_n 0, 1) := by decide +kernel
theorem dX2_fewestFrom_74 : decode cX2_fewestFrom 74 = .ok (.aload_n 1, 1) := by decide +kernel
theorem dX2_fewestFrom_75 : decode cX2_fewestFrom 75 = .ok (.iload_n 2, 1) := by decide +kernel
theorem dX2_fewestFrom_76 : decode cX2_fewestFrom 76 = .ok (.iconst 1, 1) := by decide +kernel
theorem dX2_fewestFrom_77 : decode cX2_fewestFrom 77 = .ok (.iadd, 1) := by decide +kernel
theorem dX2_fewestFrom_78 : decode cX2_fewestFrom 78 = .ok (.iload 7, 2) := by decide +kernel
theorem dX2_fewestFrom_80 : decode cX2_fewestFrom 80 = .ok (.iload 5, 2) := by decide +kernel
theorem dX2_fewestFrom_82 : decode cX2_fewestFrom 82 = .ok (.invokestatic 40, 3) := by decide +kernel
theorem dX2_fewestFrom_85 : decode cX2_fewestFrom 85 = .ok (.istore 5, 2) := by decide +kernel
theorem dX2_fewestFrom_87 : decode cX2_fewestFrom 87 = .ok (.aload_n 1, 1) := by decide +kernel
theorem dX2_fewestFrom_88 : decode cX2_fewestFrom 88 = .ok (.iload 6, 2) := by decide +kernel
theorem dX2_fewestFrom_90 : decode cX2_fewestFrom 90 = .ok (.dup2, 1) := by decide +kernel
theorem dX2_fewestFrom_91 : decode cX2_fewestFrom 91 = .ok (.iaload, 1) := by decide +kernel
theorem dX2_fewestFrom_92 : decode cX2_fewestFrom 92 = .ok (.iconst 1, 1) := by decide +kernel
theorem dX2_fewestFrom_93 : decode cX2_fewestFrom 93 = .ok (.iload_n 2, 1) := by decide +kernel
theorem dX2_fewestFrom_94 : decode cX2_fewestFrom 94 = .ok (.ishl, 1) := by decide +kernel
theorem dX2_fewestFrom_95 : decode cX2_fewestFrom 95 = .ok (.iconst (-1), 1) := by decide +kernel
theorem dX2_fewestFrom_96 : decode cX2_fewestFrom 96 = .ok (.ixor, 1) := by decide +kernel
theorem dX2_fewestFrom_97 : decode cX2_fewestFrom 97 = .ok (.iand, 1) := by decide +kernel
theorem dX2_fewestFrom_98 : decode cX2_fewestFrom 98 = .ok (.iastore, 1) := by decide +kernel
theorem dX2_fewestFrom_99 : decode cX2_fewestFrom 99 = .ok (.iinc 6 1, 3) := by decide +kernel
theorem dX2_fewestFrom_102 : decode cX2_fewestFrom 102 = .ok (.goto (-78), 3) := by decide +kernel
theorem dX2_fewestFrom_105 : decode cX2_fewestFrom 105 = .ok (.iload 5, 2) := by decide +kernel
theorem dX2_fewestFrom_107 : decode cX2_fewestFrom 107 = .ok (.ireturn, 1) := by decide +kernel
set_option maxRecDepth 20000 in
theorem ggX3_init_X0_init : GoodIn wsX3_init wsX0_init := goodIn_r _ [13, 14, 2, 3, 15, 16, 17, 18, 19, 20, 21, 22, 27, 28, 29, 30, 31, 32, 33, 34, 35, 36] (by decide +kernel) (by decide +kernel)
set_option maxRecDepth 20000 in
theorem gX3_init_X0_init : GoodIn wsX3_init (wsX0_init) := ggX3_init_X0_init
theorem dX3_init_0 : decode cX3_init 0 = .ok (.aload_n 0, 1) := by decide +kernel
theorem dX3_init_1 : decode cX3_init 1 = .ok (.invokespecial 3, 3) := by decide +kernel
theorem dX3_init_4 : decode cX3_init 4 = .ok (.aload_n 0, 1) := by decide +kernel
theorem dX3_init_5 : decode cX3_init 5 = .ok (.iconst 2, 1) := by decide +kernel
theorem dX3_init_6 : decode cX3_init 6 = .ok (.anewarray 9, 3) := by decide +kernel
theorem dX3_init_9 : decode cX3_init 9 = .ok (.putfield 11, 3) := by decide +kernel
theorem dX3_init_12 : decode cX3_init 12 = .ok (.aload_n 0, 1) := by decide +kernel
theorem dX3_init_13 : decode cX3_init 13 = .ok (.iconst 2, 1) := by decide +kernel
theorem dX3_init_14 : decode cX3_init 14 = .ok (.newarray .boolean, 2) := by decide +kernel
theorem dX3_init_16 : decode cX3_init 16 = .ok (.putfield 17, 3) := by decide +kernel
theorem dX3_init_19 : decode cX3_init 19 = .ok (.aload_n 0, 1) := by decide +kernel
theorem dX3_init_20 : decode cX3_init 20 = .ok (.bipush 6, 2) := by decide +kernel
theorem dX3_init_22 : decode cX3_init 22 = .ok (.anewarray 9, 3) := by decide +kernel
theorem dX3_init_25 : decode cX3_init 25 = .ok (.putfield 21, 3) := by decide +kernel
theorem dX3_init_28 : decode cX3_init 28 = .ok (.iconst 0, 1) := by decide +kernel
theorem dX3_init_29 : decode cX3_init 29 = .ok (.istore_n 1, 1) := by decide +kernel
theorem dX3_init_30 : decode cX3_init 30 = .ok (.iload_n 1, 1) := by decide +kernel
theorem dX3_init_31 : decode cX3_init 31 = .ok (.iconst 2, 1) := by decide +kernel
theorem dX3_init_32 : decode cX3_init 32 = .ok (.if_icmp .ge 22, 3) := by decide +kernel
theorem dX3_init_35 : decode cX3_init 35 = .ok (.aload_n 0, 1) := by decide +kernel
theorem dX3_init_36 : decode cX3_init 36 = .ok (.getfield 11, 3) := by decide +kernel
theorem dX3_init_39 : decode cX3_init 39 = .ok (.iload_n 1, 1) := by decide +kernel
theorem dX3_init_40 : decode cX3_init 40 = .ok (.new 9, 3) := by decide +kernel
theorem dX3_init_43 : decode cX3_init 43 = .ok (.dup, 1) := by decide +kernel
theorem dX3_init_44 : decode cX3_init 44 = .ok (.invokespecial 24, 3) := by decide +kernel
theorem dX3_init_47 : decode cX3_init 47 = .ok (.aastore, 1) := by decide +kernel
theorem dX3_init_48 : decode cX3_init 48 = .ok (.iinc 1 1, 3) := by decide +kernel
theorem dX3_init_51 : decode cX3_init 51 = .ok (.goto (-21), 3) := by decide +kernel
theorem dX3_init_54 : decode cX3_init 54 = .ok (.iconst 0, 1) := by decide +kernel
theorem dX3_init_55 : decode cX3_init 55 = .ok (.istore_n 1, 1) := by decide +kernel
theorem dX3_init_56 : decode cX3_init 56 = .ok (.iload_n 1, 1) := by decide +kernel
theorem dX3_init_57 : decode cX3_init 57 = .ok (.bipush 6, 2) := by decide +kernel
theorem dX3_init_59 : decode cX3_init 59 = .ok (.if_icmp .ge 22, 3) := by decide +kernel
theorem dX3_init_62 : decode cX3_init 62 = .ok (.aload_n 0, 1) := by decide +kernel
theorem dX3_init_63 : decode cX3_init 63 = .ok (.getfield 21, 3) := by decide +kernel
theorem dX3_init_66 : decode cX3_init 66 = .ok (.iload_n 1, 1) := by decide +kernel
theorem dX3_init_67 : decode cX3_init 67 = .ok (.new 9, 3) := by decide +kernel
theorem dX3_init_70 : decode cX3_init 70 = .ok (.dup, 1) := by decide +kernel
theorem dX3_init_71 : decode cX3_init 71 = .ok (.invokespecial 24, 3) := by decide +kernel
theorem dX3_init_74 : decode cX3_init 74 = .ok (.aastore, 1) := by decide +kernel
theorem dX3_init_75 : decode cX3_init 75 = .ok (.iinc 1 1, 3) := by decide +kernel
theorem dX3_init_78 : decode cX3_init 78 = .ok (.goto (-22), 3) := by decide +kernel
theorem dX3_init_81 : decode cX3_init 81 = .ok (.return_, 1) := by decide +kernel
set_option maxRecDepth 20000 in
theorem ggX3_save_X3_dropOldest : GoodIn wsX3_save wsX3_dropOldest := goodIn_r _ [7, 2, 1, 27, 28, 29, 30] (by decide +kernel) (by decide +kernel)
set_option maxRecDepth 20000 in
theorem gX3_save_X3_dropOldest : GoodIn wsX3_save (wsV RX3 29 RX3 yX3_dropOldest wsX3_dropOldest) := goodIn_app (goodIn_of _ (by decide +kernel)) ggX3_save_X3_dropOldest
set_option maxRecDepth 20000 in
theorem ggX3_save_X0_copyFrom : GoodIn wsX3_save wsX0_copyFrom := goodIn_r _ [12, 13, 14, 15, 16, 17, 18, 19, 20, 21, 22, 23, 24, 25, 26, 31, 32, 33, 34, 35, 36, 37, 38, 39, 40] (by decide +kernel) (by decide +kernel)
set_option maxRecDepth 20000 in
theorem gX3_save_X0_copyFrom : GoodIn wsX3_save (wsV RX3 32 RX0 yX0_copyFrom wsX0_copyFrom) := goodIn_app (goodIn_of _ (by decide +kernel)) ggX3_save_X0_copyFrom
theorem dX3_save_0 : decode cX3_save 0 = .ok (.aload_n 0, 1) := by decide +kernel
theorem dX3_save_1 : decode cX3_save 1 = .ok (.getfield 25, 3) := by decide +kernel
theorem dX3_save_4 : decode cX3_save 4 = .ok (.bipush 6, 2) := by decide +kernel
theorem dX3_save_6 : decode cX3_save 6 = .ok (.if_icmp .lt 7, 3) := by decide +kernel
theorem dX3_save_9 : decode cX3_save 9 = .ok (.aload_n 0, 1) := by decide +kernel
theorem dX3_save_10 : decode cX3_save 10 = .ok (.invokevirtual 29, 3) := by decide +kernel
theorem dX3_save_13 : decode cX3_save 13 = .ok (.aload_n 0, 1) := by decide +kernel
theorem dX3_save_14 : decode cX3_save 14 = .ok (.getfield 21, 3) := by decide +kernel
theorem dX3_save_17 : decode cX3_save 17 = .ok (.aload_n 0, 1) := by decide +kernel
theorem dX3_save_18 : decode cX3_save 18 = .ok (.getfield 25, 3) := by decide +kernel
theorem dX3_save_21 : decode cX3_save 21 = .ok (.aaload, 1) := by decide +kernel
theorem dX3_save_22 : decode cX3_save 22 = .ok (.aload_n 1, 1) := by decide +kernel
theorem dX3_save_23 : decode cX3_save 23 = .ok (.invokevirtual 32, 3) := by decide +kernel
theorem dX3_save_26 : decode cX3_save 26 = .ok (.aload_n 0, 1) := by decide +kernel
theorem dX3_save_27 : decode cX3_save 27 = .ok (.dup, 1) := by decide +kernel
theorem dX3_save_28 : decode cX3_save 28 = .ok (.getfield 25, 3) := by decide +kernel
theorem dX3_save_31 : decode cX3_save 31 = .ok (.iconst 1, 1) := by decide +kernel
theorem dX3_save_32 : decode cX3_save 32 = .ok (.iadd, 1) := by decide +kernel
theorem dX3_save_33 : decode cX3_save 33 = .ok (.putfield 25, 3) := by decide +kernel
theorem dX3_save_36 : decode cX3_save 36 = .ok (.return_, 1) := by decide +kernel
theorem dX3_dropOldest_0 : decode cX3_dropOldest 0 = .ok (.aload_n 0, 1) := by decide +kernel
theorem dX3_dropOldest_1 : decode cX3_dropOldest 1 = .ok (.getfield 21, 3) := by decide +kernel
theorem dX3_dropOldest_4 : decode cX3_dropOldest 4 = .ok (.iconst 0, 1) := by decide +kernel
theorem dX3_dropOldest_5 : decode cX3_dropOldest 5 = .ok (.aaload, 1) := by decide +kernel
theorem dX3_dropOldest_6 : decode cX3_dropOldest 6 = .ok (.astore_n 1, 1) := by decide +kernel
theorem dX3_dropOldest_7 : decode cX3_dropOldest 7 = .ok (.iconst 1, 1) := by decide +kernel
theorem dX3_dropOldest_8 : decode cX3_dropOldest 8 = .ok (.istore_n 2, 1) := by decide +kernel
theorem dX3_dropOldest_9 : decode cX3_dropOldest 9 = .ok (.iload_n 2, 1) := by decide +kernel
theorem dX3_dropOldest_10 : decode cX3_dropOldest 10 = .ok (.bipush 6, 2) := by decide +kernel
theorem dX3_dropOldest_12 : decode cX3_dropOldest 12 = .ok (.if_icmp .ge 23, 3) := by decide +kernel
theorem dX3_dropOldest_15 : decode cX3_dropOldest 15 = .ok (.aload_n 0, 1) := by decide +kernel
theorem dX3_dropOldest_16 : decode cX3_dropOldest 16 = .ok (.getfield 21, 3) := by decide +kernel
theorem dX3_dropOldest_19 : decode cX3_dropOldest 19 = .ok (.iload_n 2, 1) := by decide +kernel
theorem dX3_dropOldest_20 : decode cX3_dropOldest 20 = .ok (.iconst 1, 1) := by decide +kernel
theorem dX3_dropOldest_21 : decode cX3_dropOldest 21 = .ok (.isub, 1) := by decide +kernel
theorem dX3_dropOldest_22 : decode cX3_dropOldest 22 = .ok (.aload_n 0, 1) := by decide +kernel
theorem dX3_dropOldest_23 : decode cX3_dropOldest 23 = .ok (.getfield 21, 3) := by decide +kernel
theorem dX3_dropOldest_26 : decode cX3_dropOldest 26 = .ok (.iload_n 2, 1) := by decide +kernel
theorem dX3_dropOldest_27 : decode cX3_dropOldest 27 = .ok (.aaload, 1) := by decide +kernel
theorem dX3_dropOldest_28 : decode cX3_dropOldest 28 = .ok (.aastore, 1) := by decide +kernel
theorem dX3_dropOldest_29 : decode cX3_dropOldest 29 = .ok (.iinc 2 1, 3) := by decide +kernel
theorem dX3_dropOldest_32 : decode cX3_dropOldest 32 = .ok (.goto (-23), 3) := by decide +kernel
theorem dX3_dropOldest_35 : decode cX3_dropOldest 35 = .ok (.aload_n 0, 1) := by decide +kernel
theorem dX3_dropOldest_36 : decode cX3_dropOldest 36 = .ok (.getfield 21, 3) := by decide +kernel
theorem dX3_dropOldest_39 : decode cX3_dropOldest 39 = .ok (.iconst 5, 1) := by decide +kernel
theorem dX3_dropOldest_40 : decode cX3_dropOldest 40 = .ok (.aload_n 1, 1) := by decide +kernel
theorem dX3_dropOldest_41 : decode cX3_dropOldest 41 = .ok (.aastore, 1) := by decide +kernel
theorem dX3_dropOldest_42 : decode cX3_dropOldest 42 = .ok (.aload_n 0, 1) := by decide +kernel
theorem dX3_dropOldest_43 : decode cX3_dropOldest 43 = .ok (.iconst 5, 1) := by decide +kernel
theorem dX3_dropOldest_44 : decode cX3_dropOldest 44 = .ok (.putfield 25, 3) := by decide +kernel
theorem dX3_dropOldest_47 : decode cX3_dropOldest 47 = .ok (.return_, 1) := by decide +kernel
set_option maxRecDepth 20000 in
theorem ggX3_restore_X0_copyFrom : GoodIn wsX3_restore wsX0_copyFrom := goodIn_r _ [7, 8, 9, 10, 11, 12, 13, 14, 15, 16, 17, 18, 19, 20, 21, 26, 27, 28, 29, 30, 31, 32, 33, 34, 35] (by decide +kernel) (by decide +kernel)
set_option maxRecDepth 20000 in
theorem gX3_restore_X0_copyFrom : GoodIn wsX3_restore (wsV RX3 32 RX0 yX0_copyFrom wsX0_copyFrom) := goodIn_app (goodIn_of _ (by decide +kernel)) ggX3_restore_X0_copyFrom
theorem dX3_restore_0 : decode cX3_restore 0 = .ok (.aload_n 0, 1) := by decide +kernel
theorem dX3_restore_1 : decode cX3_restore 1 = .ok (.getfield 25, 3) := by decide +kernel
theorem dX3_restore_4 : decode cX3_restore 4 = .ok (.ifCond .le 26, 3) := by decide +kernel
theorem dX3_restore_7 : decode cX3_restore 7 = .ok (.aload_n 0, 1) := by decide +kernel
theorem dX3_restore_8 : decode cX3_restore 8 = .ok (.dup, 1) := by decide +kernel
theorem dX3_restore_9 : decode cX3_restore 9 = .ok (.getfield 25, 3) := by decide +kernel
theorem dX3_restore_12 : decode cX3_restore 12 = .ok (.iconst 1, 1) := by decide +kernel
theorem dX3_restore_13 : decode cX3_restore 13 = .ok (.isub, 1) := by decide +kernel
theorem dX3_restore_14 : decode cX3_restore 14 = .ok (.putfield 25, 3) := by decide +kernel
theorem dX3_restore_17 : decode cX3_restore 17 = .ok (.aload_n 1, 1) := by decide +kernel
theorem dX3_restore_18 : decode cX3_restore 18 = .ok (.aload_n 0, 1) := by decide +kernel
theorem dX3_restore_19 : decode cX3_restore 19 = .ok (.getfield 21, 3) := by decide +kernel
theorem dX3_restore_22 : decode cX3_restore 22 = .ok (.aload_n 0, 1) := by decide +kernel
theorem dX3_restore_23 : decode cX3_restore 23 = .ok (.getfield 25, 3) := by decide +kernel
theorem dX3_restore_26 : decode cX3_restore 26 = .ok (.aaload, 1) := by decide +kernel
theorem dX3_restore_27 : decode cX3_restore 27 = .ok (.invokevirtual 32, 3) := by decide +kernel
theorem dX3_restore_30 : decode cX3_restore 30 = .ok (.return_, 1) := by decide +kernel
theorem dX4_init_0 : decode cX4_init 0 = .ok (.aload_n 0, 1) := by decide +kernel
theorem dX4_init_1 : decode cX4_init 1 = .ok (.invokespecial 3, 3) := by decide +kernel
theorem dX4_init_4 : decode cX4_init 4 = .ok (.aload_n 0, 1) := by decide +kernel
theorem dX4_init_5 : decode cX4_init 5 = .ok (.bipush 60, 2) := by decide +kernel
theorem dX4_init_7 : decode cX4_init 7 = .ok (.newarray .int, 2) := by decide +kernel
theorem dX4_init_9 : decode cX4_init 9 = .ok (.putfield 9, 3) := by decide +kernel
theorem dX4_init_12 : decode cX4_init 12 = .ok (.return_, 1) := by decide +kernel
theorem dX4_isFull_0 : decode cX4_isFull 0 = .ok (.aload_n 0, 1) := by decide +kernel
theorem dX4_isFull_1 : decode cX4_isFull 1 = .ok (.getfield 15, 3) := by decide +kernel
theorem dX4_isFull_4 : decode cX4_isFull 4 = .ok (.bipush 60, 2) := by decide +kernel
theorem dX4_isFull_6 : decode cX4_isFull 6 = .ok (.if_icmp .lt 7, 3) := by decide +kernel
theorem dX4_isFull_9 : decode cX4_isFull 9 = .ok (.iconst 1, 1) := by decide +kernel
theorem dX4_isFull_10 : decode cX4_isFull 10 = .ok (.goto 4, 3) := by decide +kernel
theorem dX4_isFull_13 : decode cX4_isFull 13 = .ok (.iconst 0, 1) := by decide +kernel
theorem dX4_isFull_14 : decode cX4_isFull 14 = .ok (.ireturn, 1) := by decide +kernel
theorem dX4_add_0 : decode cX4_add 0 = .ok (.aload_n 0, 1) := by decide +kernel
theorem dX4_add_1 : decode cX4_add 1 = .ok (.getfield 15, 3) := by decide +kernel
theorem dX4_add_4 : decode cX4_add 4 = .ok (.bipush 60, 2) := by decide +kernel
theorem dX4_add_6 : decode cX4_add 6 = .ok (.if_icmp .ge 23, 3) := by decide +kernel
theorem dX4_add_9 : decode cX4_add 9 = .ok (.aload_n 0, 1) := by decide +kernel
theorem dX4_add_10 : decode cX4_add 10 = .ok (.getfield 9, 3) := by decide +kernel
theorem dX4_add_13 : decode cX4_add 13 = .ok (.aload_n 0, 1) := by decide +kernel
theorem dX4_add_14 : decode cX4_add 14 = .ok (.getfield 15, 3) := by decide +kernel
theorem dX4_add_17 : decode cX4_add 17 = .ok (.iload_n 1, 1) := by decide +kernel
theorem dX4_add_18 : decode cX4_add 18 = .ok (.iastore, 1) := by decide +kernel
theorem dX4_add_19 : decode cX4_add 19 = .ok (.aload_n 0, 1) := by decide +kernel
theorem dX4_add_20 : decode cX4_add 20 = .ok (.dup, 1) := by decide +kernel
theorem dX4_add_21 : decode cX4_add 21 = .ok (.getfield 15, 3) := by decide +kernel
theorem dX4_add_24 : decode cX4_add 24 = .ok (.iconst 1, 1) := by decide +kernel
theorem dX4_add_25 : decode cX4_add 25 = .ok (.iadd, 1) := by decide +kernel
theorem dX4_add_26 : decode cX4_add 26 = .ok (.putfield 15, 3) := by decide +kernel
theorem dX4_add_29 : decode cX4_add 29 = .ok (.return_, 1) := by decide +kernel
theorem dX4_clear_0 : decode cX4_clear 0 = .ok (.aload_n 0, 1) := by decide +kernel
theorem dX4_clear_1 : decode cX4_clear 1 = .ok (.iconst 0, 1) := by decide +kernel
theorem dX4_clear_2 : decode cX4_clear 2 = .ok (.putfield 15, 3) := by decide +kernel
theorem dX4_clear_5 : decode cX4_clear 5 = .ok (.return_, 1) := by decide +kernel
set_option maxRecDepth 20000 in
theorem ggX4_firstWrong_X4_fits : GoodIn wsX4_firstWrong wsX4_fits := goodIn_r _ [6] (by decide +kernel) (by decide +kernel)
set_option maxRecDepth 20000 in
theorem gX4_firstWrong_X4_fits : GoodIn wsX4_firstWrong (va_wsS RX4 19 yX4_fits wsX4_fits) := goodIn_app (goodIn_of _ (by decide +kernel)) ggX4_firstWrong_X4_fits
theorem dX4_firstWrong_0 : decode cX4_firstWrong 0 = .ok (.iconst 0, 1) := by decide +kernel
theorem dX4_firstWrong_1 : decode cX4_firstWrong 1 = .ok (.istore_n 1, 1) := by decide +kernel
theorem dX4_firstWrong_2 : decode cX4_firstWrong 2 = .ok (.iload_n 1, 1) := by decide +kernel
theorem dX4_firstWrong_3 : decode cX4_firstWrong 3 = .ok (.aload_n 0, 1) := by decide +kernel
theorem dX4_firstWrong_4 : decode cX4_firstWrong 4 = .ok (.getfield 15, 3) := by decide +kernel
theorem dX4_firstWrong_7 : decode cX4_firstWrong 7 = .ok (.if_icmp .ge 33, 3) := by decide +kernel
theorem dX4_firstWrong_10 : decode cX4_firstWrong 10 = .ok (.iload_n 1, 1) := by decide +kernel
theorem dX4_firstWrong_11 : decode cX4_firstWrong 11 = .ok (.bipush 60, 2) := by decide +kernel
theorem dX4_firstWrong_13 : decode cX4_firstWrong 13 = .ok (.if_icmp .ge 27, 3) := by decide +kernel
theorem dX4_firstWrong_16 : decode cX4_firstWrong 16 = .ok (.iload_n 1, 1) := by decide +kernel
theorem dX4_firstWrong_17 : decode cX4_firstWrong 17 = .ok (.bipush 6, 2) := by decide +kernel
theorem dX4_firstWrong_19 : decode cX4_firstWrong 19 = .ok (.irem, 1) := by decide +kernel
theorem dX4_firstWrong_20 : decode cX4_firstWrong 20 = .ok (.aload_n 0, 1) := by decide +kernel
theorem dX4_firstWrong_21 : decode cX4_firstWrong 21 = .ok (.getfield 9, 3) := by decide +kernel
theorem dX4_firstWrong_24 : decode cX4_firstWrong 24 = .ok (.iload_n 1, 1) := by decide +kernel
theorem dX4_firstWrong_25 : decode cX4_firstWrong 25 = .ok (.iaload, 1) := by decide +kernel
theorem dX4_firstWrong_26 : decode cX4_firstWrong 26 = .ok (.invokestatic 19, 3) := by decide +kernel
theorem dX4_firstWrong_29 : decode cX4_firstWrong 29 = .ok (.ifCond .ne 5, 3) := by decide +kernel
theorem dX4_firstWrong_32 : decode cX4_firstWrong 32 = .ok (.iload_n 1, 1) := by decide +kernel
theorem dX4_firstWrong_33 : decode cX4_firstWrong 33 = .ok (.ireturn, 1) := by decide +kernel
theorem dX4_firstWrong_34 : decode cX4_firstWrong 34 = .ok (.iinc 1 1, 3) := by decide +kernel
theorem dX4_firstWrong_37 : decode cX4_firstWrong 37 = .ok (.goto (-35), 3) := by decide +kernel
theorem dX4_firstWrong_40 : decode cX4_firstWrong 40 = .ok (.aload_n 0, 1) := by decide +kernel
theorem dX4_firstWrong_41 : decode cX4_firstWrong 41 = .ok (.getfield 15, 3) := by decide +kernel
theorem dX4_firstWrong_44 : decode cX4_firstWrong 44 = .ok (.ireturn, 1) := by decide +kernel
theorem dX4_fits_0 : decode cX4_fits 0 = .ok (.iload_n 0, 1) := by decide +kernel
theorem dX4_fits_1 : decode cX4_fits 1 = .ok (.lookupswitch 77 #[(0, 35), (1, 53), (5, 65)], 35) := by decide +kernel
theorem dX4_fits_36 : decode cX4_fits 36 = .ok (.iload_n 1, 1) := by decide +kernel
theorem dX4_fits_37 : decode cX4_fits 37 = .ok (.bipush 48, 2) := by decide +kernel
theorem dX4_fits_39 : decode cX4_fits 39 = .ok (.if_icmp .lt 13, 3) := by decide +kernel
theorem dX4_fits_42 : decode cX4_fits 42 = .ok (.iload_n 1, 1) := by decide +kernel
theorem dX4_fits_43 : decode cX4_fits 43 = .ok (.bipush 56, 2) := by decide +kernel
theorem dX4_fits_45 : decode cX4_fits 45 = .ok (.if_icmp .ge 7, 3) := by decide +kernel
theorem dX4_fits_48 : decode cX4_fits 48 = .ok (.iconst 1, 1) := by decide +kernel
theorem dX4_fits_49 : decode cX4_fits 49 = .ok (.goto 4, 3) := by decide +kernel
theorem dX4_fits_52 : decode cX4_fits 52 = .ok (.iconst 0, 1) := by decide +kernel
theorem dX4_fits_53 : decode cX4_fits 53 = .ok (.ireturn, 1) := by decide +kernel
theorem dX4_fits_54 : decode cX4_fits 54 = .ok (.iload_n 1, 1) := by decide +kernel
theorem dX4_fits_55 : decode cX4_fits 55 = .ok (.bipush 61, 2) := by decide +kernel
theorem dX4_fits_57 : decode cX4_fits 57 = .ok (.if_icmp .ne 7, 3) := by decide +kernel
theorem dX4_fits_60 : decode cX4_fits 60 = .ok (.iconst 1, 1) := by decide +kernel
theorem dX4_fits_61 : decode cX4_fits 61 = .ok (.goto 4, 3) := by decide +kernel
theorem dX4_fits_64 : decode cX4_fits 64 = .ok (.iconst 0, 1) := by decide +kernel
theorem dX4_fits_65 : decode cX4_fits 65 = .ok (.ireturn, 1) := by decide +kernel
theorem dX4_fits_66 : decode cX4_fits 66 = .ok (.iload_n 1, 1) := by decide +kernel
theorem dX4_fits_67 : decode cX4_fits 67 = .ok (.bipush 59, 2) := by decide +kernel
theorem dX4_fits_69 : decode cX4_fits 69 = .ok (.if_icmp .ne 7, 3) := by decide +kernel
theorem dX4_fits_72 : decode cX4_fits 72 = .ok (.iconst 1, 1) := by decide +kernel
theorem dX4_fits_73 : decode cX4_fits 73 = .ok (.goto 4, 3) := by decide +kernel
theorem dX4_fits_76 : decode cX4_fits 76 = .ok (.iconst 0, 1) := by decide +kernel
theorem dX4_fits_77 : decode cX4_fits 77 = .ok (.ireturn, 1) := by decide +kernel
theorem dX4_fits_78 : decode cX4_fits 78 = .ok (.iload_n 1, 1) := by decide +kernel
theorem dX4_fits_79 : decode cX4_fits 79 = .ok (.bipush 48, 2) := by decide +kernel
theorem dX4_fits_81 : decode cX4_fits 81 = .ok (.if_icmp .lt 13, 3) := by decide +kernel
theorem dX4_fits_84 : decode cX4_fits 84 = .ok (.iload_n 1, 1) := by decide +kernel
theorem dX4_fits_85 : decode cX4_fits 85 = .ok (.bipush 57, 2) := by decide +kernel
theorem dX4_fits_87 : decode cX4_fits 87 = .ok (.if_icmp .gt 7, 3) := by decide +kernel
theorem dX4_fits_90 : decode cX4_fits 90 = .ok (.iconst 1, 1) := by decide +kernel
theorem dX4_fits_91 : decode cX4_fits 91 = .ok (.goto 4, 3) := by decide +kernel
theorem dX4_fits_94 : decode cX4_fits 94 = .ok (.iconst 0, 1) := by decide +kernel
theorem dX4_fits_95 : decode cX4_fits 95 = .ok (.ireturn, 1) := by decide +kernel
set_option maxRecDepth 20000 in
theorem ggX4_tellsPots_X4_firstWrong : GoodIn wsX4_tellsPots wsX4_firstWrong := goodIn_r _ [6, 1, 7, 8, 9, 5, 10, 11, 12] (by decide +kernel) (by decide +kernel)
set_option maxRecDepth 20000 in
theorem gX4_tellsPots_X4_firstWrong : GoodIn wsX4_tellsPots (wsV RX4 23 RX4 yX4_firstWrong wsX4_firstWrong) := goodIn_app (goodIn_of _ (by decide +kernel)) ggX4_tellsPots_X4_firstWrong
theorem dX4_tellsPots_0 : decode cX4_tellsPots 0 = .ok (.aload_n 0, 1) := by decide +kernel
theorem dX4_tellsPots_1 : decode cX4_tellsPots 1 = .ok (.getfield 15, 3) := by decide +kernel
theorem dX4_tellsPots_4 : decode cX4_tellsPots 4 = .ok (.bipush 6, 2) := by decide +kernel
theorem dX4_tellsPots_6 : decode cX4_tellsPots 6 = .ok (.irem, 1) := by decide +kernel
theorem dX4_tellsPots_7 : decode cX4_tellsPots 7 = .ok (.iconst 5, 1) := by decide +kernel
theorem dX4_tellsPots_8 : decode cX4_tellsPots 8 = .ok (.if_icmp .ne 18, 3) := by decide +kernel
theorem dX4_tellsPots_11 : decode cX4_tellsPots 11 = .ok (.aload_n 0, 1) := by decide +kernel
theorem dX4_tellsPots_12 : decode cX4_tellsPots 12 = .ok (.invokevirtual 23, 3) := by decide +kernel
theorem dX4_tellsPots_15 : decode cX4_tellsPots 15 = .ok (.aload_n 0, 1) := by decide +kernel
theorem dX4_tellsPots_16 : decode cX4_tellsPots 16 = .ok (.getfield 15, 3) := by decide +kernel
theorem dX4_tellsPots_19 : decode cX4_tellsPots 19 = .ok (.if_icmp .ne 7, 3) := by decide +kernel
theorem dX4_tellsPots_22 : decode cX4_tellsPots 22 = .ok (.iconst 1, 1) := by decide +kernel
theorem dX4_tellsPots_23 : decode cX4_tellsPots 23 = .ok (.goto 4, 3) := by decide +kernel
theorem dX4_tellsPots_26 : decode cX4_tellsPots 26 = .ok (.iconst 0, 1) := by decide +kernel
theorem dX4_tellsPots_27 : decode cX4_tellsPots 27 = .ok (.ireturn, 1) := by decide +kernel
theorem dX4_giveColours_0 : decode cX4_giveColours 0 = .ok (.iconst 0, 1) := by decide +kernel
theorem dX4_giveColours_1 : decode cX4_giveColours 1 = .ok (.istore_n 2, 1) := by decide +kernel
theorem dX4_giveColours_2 : decode cX4_giveColours 2 = .ok (.iload_n 2, 1) := by decide +kernel
theorem dX4_giveColours_3 : decode cX4_giveColours 3 = .ok (.iconst 4, 1) := by decide +kernel
theorem dX4_giveColours_4 : decode cX4_giveColours 4 = .ok (.iadd, 1) := by decide +kernel
theorem dX4_giveColours_5 : decode cX4_giveColours 5 = .ok (.aload_n 0, 1) := by decide +kernel
theorem dX4_giveColours_6 : decode cX4_giveColours 6 = .ok (.getfield 15, 3) := by decide +kernel
theorem dX4_giveColours_9 : decode cX4_giveColours 9 = .ok (.if_icmp .ge 84, 3) := by decide +kernel
theorem dX4_giveColours_12 : decode cX4_giveColours 12 = .ok (.iload_n 2, 1) := by decide +kernel
theorem dX4_giveColours_13 : decode cX4_giveColours 13 = .ok (.iconst 4, 1) := by decide +kernel
theorem dX4_giveColours_14 : decode cX4_giveColours 14 = .ok (.iadd, 1) := by decide +kernel
theorem dX4_giveColours_15 : decode cX4_giveColours 15 = .ok (.bipush 60, 2) := by decide +kernel
theorem dX4_giveColours_17 : decode cX4_giveColours 17 = .ok (.if_icmp .ge 76, 3) := by decide +kernel
theorem dX4_giveColours_20 : decode cX4_giveColours 20 = .ok (.aload_n 0, 1) := by decide +kernel
theorem dX4_giveColours_21 : decode cX4_giveColours 21 = .ok (.getfield 9, 3) := by decide +kernel
theorem dX4_giveColours_24 : decode cX4_giveColours 24 = .ok (.iload_n 2, 1) := by decide +kernel
theorem dX4_giveColours_25 : decode cX4_giveColours 25 = .ok (.iaload, 1) := by decide +kernel
theorem dX4_giveColours_26 : decode cX4_giveColours 26 = .ok (.bipush 48, 2) := by decide +kernel
theorem dX4_giveColours_28 : decode cX4_giveColours 28 = .ok (.isub, 1) := by decide +kernel
theorem dX4_giveColours_29 : decode cX4_giveColours 29 = .ok (.istore_n 3, 1) := by decide +kernel
theorem dX4_giveColours_30 : decode cX4_giveColours 30 = .ok (.iload_n 3, 1) := by decide +kernel
theorem dX4_giveColours_31 : decode cX4_giveColours 31 = .ok (.ifCond .lt 56, 3) := by decide +kernel
theorem dX4_giveColours_34 : decode cX4_giveColours 34 = .ok (.iload_n 3, 1) := by decide +kernel
theorem dX4_giveColours_35 : decode cX4_giveColours 35 = .ok (.bipush 8, 2) := by decide +kernel
theorem dX4_giveColours_37 : decode cX4_giveColours 37 = .ok (.if_icmp .ge 50, 3) := by decide +kernel
theorem dX4_giveColours_40 : decode cX4_giveColours 40 = .ok (.aload_n 1, 1) := by decide +kernel
theorem dX4_giveColours_41 : decode cX4_giveColours 41 = .ok (.getfield 27, 3) := by decide +kernel
theorem dX4_giveColours_44 : decode cX4_giveColours 44 = .ok (.iload_n 3, 1) := by decide +kernel
theorem dX4_giveColours_45 : decode cX4_giveColours 45 = .ok (.bipush 100, 2) := by decide +kernel
theorem dX4_giveColours_47 : decode cX4_giveColours 47 = .ok (.aload_n 0, 1) := by decide +kernel
theorem dX4_giveColours_48 : decode cX4_giveColours 48 = .ok (.getfield 9, 3) := by decide +kernel
theorem dX4_giveColours_51 : decode cX4_giveColours 51 = .ok (.iload_n 2, 1) := by decide +kernel
theorem dX4_giveColours_52 : decode cX4_giveColours 52 = .ok (.iconst 2, 1) := by decide +kernel
theorem dX4_giveColours_53 : decode cX4_giveColours 53 = .ok (.iadd, 1) := by decide +kernel
theorem dX4_giveColours_54 : decode cX4_giveColours 54 = .ok (.iaload, 1) := by decide +kernel
theorem dX4_giveColours_55 : decode cX4_giveColours 55 = .ok (.bipush 48, 2) := by decide +kernel
theorem dX4_giveColours_57 : decode cX4_giveColours 57 = .ok (.isub, 1) := by decide +kernel
theorem dX4_giveColours_58 : decode cX4_giveColours 58 = .ok (.imul, 1) := by decide +kernel
theorem dX4_giveColours_59 : decode cX4_giveColours 59 = .ok (.bipush 10, 2) := by decide +kernel
theorem dX4_giveColours_61 : decode cX4_giveColours 61 = .ok (.aload_n 0, 1) := by decide +kernel
theorem dX4_giveColours_62 : decode cX4_giveColours 62 = .ok (.getfield 9, 3) := by decide +kernel
theorem dX4_giveColours_65 : decode cX4_giveColours 65 = .ok (.iload_n 2, 1) := by decide +kernel
theorem dX4_giveColours_66 : decode cX4_giveColours 66 = .ok (.iconst 3, 1) := by decide +kernel
theorem dX4_giveColours_67 : decode cX4_giveColours 67 = .ok (.iadd, 1) := by decide +kernel
theorem dX4_giveColours_68 : decode cX4_giveColours 68 = .ok (.iaload, 1) := by decide +kernel
theorem dX4_giveColours_69 : decode cX4_giveColours 69 = .ok (.bipush 48, 2) := by decide +kernel
theorem dX4_giveColours_71 : decode cX4_giveColours 71 = .ok (.isub, 1) := by decide +kernel
theorem dX4_giveColours_72 : decode cX4_giveColours 72 = .ok (.imul, 1) := by decide +kernel
theorem dX4_giveColours_73 : decode cX4_giveColours 73 = .ok (.iadd, 1) := by decide +kernel
theorem dX4_giveColours_74 : decode cX4_giveColours 74 = .ok (.aload_n 0, 1) := by decide +kernel
theorem dX4_giveColours_75 : decode cX4_giveColours 75 = .ok (.getfield 9, 3) := by decide +kernel
theorem dX4_giveColours_78 : decode cX4_giveColours 78 = .ok (.iload_n 2, 1) := by decide +kernel
theorem dX4_giveColours_79 : decode cX4_giveColours 79 = .ok (.iconst 4, 1) := by decide +kernel
theorem dX4_giveColours_80 : decode cX4_giveColours 80 = .ok (.iadd, 1) := by decide +kernel
theorem dX4_giveColours_81 : decode cX4_giveColours 81 = .ok (.iaload, 1) := by decide +kernel
theorem dX4_giveColours_82 : decode cX4_giveColours 82 = .ok (.bipush 48, 2) := by decide +kernel
theorem dX4_giveColours_84 : decode cX4_giveColours 84 = .ok (.isub, 1) := by decide +kernel
theorem dX4_giveColours_85 : decode cX4_giveColours 85 = .ok (.iadd, 1) := by decide +kernel
theorem dX4_giveColours_86 : decode cX4_giveColours 86 = .ok (.iastore, 1) := by decide +kernel
theorem dX4_giveColours_87 : decode cX4_giveColours 87 = .ok (.iinc 2 6, 3) := by decide +kernel
theorem dX4_giveColours_90 : decode cX4_giveColours 90 = .ok (.goto (-88), 3) := by decide +kernel
theorem dX4_giveColours_93 : decode cX4_giveColours 93 = .ok (.return_, 1) := by decide +kernel
set_option maxRecDepth 20000 in
theorem ggX5_init_X0_init : GoodIn wsX5_init wsX0_init := goodIn_r _ [22, 23, 2, 3, 24, 25, 26, 27, 28, 29, 30, 31, 53, 54, 55, 56, 57, 58, 59, 60, 61, 62] (by decide +kernel) (by decide +kernel)
set_option maxRecDepth 20000 in
theorem gX5_init_X0_init : GoodIn wsX5_init (wsX0_init) := ggX5_init_X0_init
set_option maxRecDepth 20000 in
theorem ggX5_init_X3_init : GoodIn wsX5_init wsX3_init := goodIn_r _ [34, 35, 2, 3, 36, 37, 38, 39, 40, 5, 6, 41, 21, 22, 23, 24, 25, 26, 27, 28, 29, 30, 31, 67, 68, 69, 70, 53, 54, 55, 56, 57, 58, 59, 60, 61, 62] (by decide +kernel) (by decide +kernel)
set_option maxRecDepth 20000 in
theorem gX5_init_X3_init : GoodIn wsX5_init (wsX3_init) := ggX5_init_X3_init
set_option maxRecDepth 20000 in
theorem ggX5_init_X4_init : GoodIn wsX5_init wsX4_init := goodIn_r _ [43, 44, 2, 3, 24, 45, 71, 72] (by decide +kernel) (by decide +kernel)
set_option maxRecDepth 20000 in
theorem gX5_init_X4_init_n25 : GoodIn wsX5_init (wsX4_init) := ggX5_init_X4_init
set_option maxRecDepth 20000 in
theorem ggX5_init_X2_init : GoodIn wsX5_init wsX2_init := goodIn_r _ [47, 48, 2, 3, 24, 49, 38, 50, 51, 52, 73, 74, 75, 76] (by decide +kernel) (by decide +kernel)
set_option maxRecDepth 20000 in
theorem gX5_init_X2_init_n32 : GoodIn wsX5_init (wsX2_init) := ggX5_init_X2_init
theorem dX5_init_0 : decode cX5_init 0 = .ok (.aload_n 0, 1) := by decide +kernel
theorem dX5_init_1 : decode cX5_init 1 = .ok (.invokespecial 3, 3) := by decide +kernel
theorem dX5_init_4 : decode cX5_init 4 = .ok (.aload_n 0, 1) := by decide +kernel
theorem dX5_init_5 : decode cX5_init 5 = .ok (.new 9, 3) := by decide +kernel
theorem dX5_init_8 : decode cX5_init 8 = .ok (.dup, 1) := by decide +kernel
theorem dX5_init_9 : decode cX5_init 9 = .ok (.invokespecial 11, 3) := by decide +kernel
theorem dX5_init_12 : decode cX5_init 12 = .ok (.putfield 12, 3) := by decide +kernel
theorem dX5_init_15 : decode cX5_init 15 = .ok (.aload_n 0, 1) := by decide +kernel
theorem dX5_init_16 : decode cX5_init 16 = .ok (.new 16, 3) := by decide +kernel
theorem dX5_init_19 : decode cX5_init 19 = .ok (.dup, 1) := by decide +kernel
theorem dX5_init_20 : decode cX5_init 20 = .ok (.invokespecial 18, 3) := by decide +kernel
theorem dX5_init_23 : decode cX5_init 23 = .ok (.putfield 19, 3) := by decide +kernel
theorem dX5_init_26 : decode cX5_init 26 = .ok (.aload_n 0, 1) := by decide +kernel
theorem dX5_init_27 : decode cX5_init 27 = .ok (.new 23, 3) := by decide +kernel
theorem dX5_init_30 : decode cX5_init 30 = .ok (.dup, 1) := by decide +kernel
theorem dX5_init_31 : decode cX5_init 31 = .ok (.invokespecial 25, 3) := by decide +kernel
theorem dX5_init_34 : decode cX5_init 34 = .ok (.putfield 26, 3) := by decide +kernel
theorem dX5_init_37 : decode cX5_init 37 = .ok (.aload_n 0, 1) := by decide +kernel
theorem dX5_init_38 : decode cX5_init 38 = .ok (.new 30, 3) := by decide +kernel
theorem dX5_init_41 : decode cX5_init 41 = .ok (.dup, 1) := by decide +kernel
theorem dX5_init_42 : decode cX5_init 42 = .ok (.invokespecial 32, 3) := by decide +kernel
theorem dX5_init_45 : decode cX5_init 45 = .ok (.putfield 33, 3) := by decide +kernel
theorem dX5_init_48 : decode cX5_init 48 = .ok (.return_, 1) := by decide +kernel
set_option maxRecDepth 20000 in
theorem ggX5_mix_X5_needPot : GoodIn wsX5_mix wsX5_needPot := goodIn_ca (goodIn_r _ [6, 7, 8] (by decide +kernel) (by decide +kernel)) (goodIn_sub (fun _ h => List.mem_cons_of_mem _ (List.mem_append_left _ (List.mem_append_right _ h))) (by decide +kernel))
set_option maxRecDepth 20000 in
theorem gX5_mix_X5_needPot : GoodIn wsX5_mix (va_wsS RX5 37 yX5_needPot wsX5_needPot) := goodIn_app (goodIn_of _ (by decide +kernel)) ggX5_mix_X5_needPot
set_option maxRecDepth 20000 in
theorem ggX5_mix_X5_needWithin : GoodIn wsX5_mix wsX5_needWithin := goodIn_ca (goodIn_r _ [11, 12, 13] (by decide +kernel) (by decide +kernel)) (goodIn_sub (fun _ h => List.mem_cons_of_mem _ (List.mem_append_right _ h)) (by decide +kernel))
set_option maxRecDepth 20000 in
theorem gX5_mix_X5_needWithin : GoodIn wsX5_mix (va_wsS RX5 41 yX5_needWithin wsX5_needWithin) := goodIn_app (goodIn_of _ (by decide +kernel)) ggX5_mix_X5_needWithin
set_option maxRecDepth 20000 in
theorem ggX5_mix_X3_save : GoodIn wsX5_mix wsX3_save := goodIn_r _ [18, 19, 20, 21, 22, 23, 17, 24, 25, 26, 27, 28, 29, 30, 31, 32, 33, 34, 35, 36, 37, 38, 39, 40, 41, 42, 43, 66, 67, 68, 69, 56, 57, 58, 59, 60, 61, 62, 63, 64, 65] (by decide +kernel) (by decide +kernel)
set_option maxRecDepth 20000 in
theorem gX5_mix_X3_save : GoodIn wsX5_mix (wsV RX5 45 RX3 yX3_save wsX3_save) := goodIn_app (goodIn_of _ (by decide +kernel)) ggX5_mix_X3_save
set_option maxRecDepth 20000 in
theorem ggX5_mix_X1_partOf : GoodIn wsX5_mix wsX1_partOf := goodIn_r _ [47] (by decide +kernel) (by decide +kernel)
set_option maxRecDepth 20000 in
theorem gX5_mix_X1_partOf : GoodIn wsX5_mix (va_wsS RX5 53 yX1_partOf wsX1_partOf) := goodIn_app (goodIn_of _ (by decide +kernel)) ggX5_mix_X1_partOf
set_option maxRecDepth 20000 in
theorem ggX5_mix_X1_withPart : GoodIn wsX5_mix wsX1_withPart := goodIn_r _ [50, 51, 45, 46, 47] (by decide +kernel) (by decide +kernel)
set_option maxRecDepth 20000 in
theorem gX5_mix_X1_withPart : GoodIn wsX5_mix (va_wsS RX5 59 yX1_withPart wsX1_withPart) := goodIn_app (goodIn_of _ (by decide +kernel)) ggX5_mix_X1_withPart
theorem dX5_mix_0 : decode cX5_mix 0 = .ok (.iload_n 1, 1) := by decide +kernel
theorem dX5_mix_1 : decode cX5_mix 1 = .ok (.invokestatic 37, 3) := by decide +kernel
theorem dX5_mix_4 : decode cX5_mix 4 = .ok (.iload_n 2, 1) := by decide +kernel
theorem dX5_mix_5 : decode cX5_mix 5 = .ok (.iconst 0, 1) := by decide +kernel
theorem dX5_mix_6 : decode cX5_mix 6 = .ok (.iconst 2, 1) := by decide +kernel
theorem dX5_mix_7 : decode cX5_mix 7 = .ok (.invokestatic 41, 3) := by decide +kernel
theorem dX5_mix_10 : decode cX5_mix 10 = .ok (.iload_n 3, 1) := by decide +kernel
theorem dX5_mix_11 : decode cX5_mix 11 = .ok (.iconst 0, 1) := by decide +kernel
theorem dX5_mix_12 : decode cX5_mix 12 = .ok (.bipush 9, 2) := by decide +kernel
theorem dX5_mix_14 : decode cX5_mix 14 = .ok (.invokestatic 41, 3) := by decide +kernel
theorem dX5_mix_17 : decode cX5_mix 17 = .ok (.aload_n 0, 1) := by decide +kernel
theorem dX5_mix_18 : decode cX5_mix 18 = .ok (.getfield 19, 3) := by decide +kernel
theorem dX5_mix_21 : decode cX5_mix 21 = .ok (.aload_n 0, 1) := by decide +kernel
theorem dX5_mix_22 : decode cX5_mix 22 = .ok (.getfield 12, 3) := by decide +kernel
theorem dX5_mix_25 : decode cX5_mix 25 = .ok (.invokevirtual 45, 3) := by decide +kernel
theorem dX5_mix_28 : decode cX5_mix 28 = .ok (.aload_n 0, 1) := by decide +kernel
theorem dX5_mix_29 : decode cX5_mix 29 = .ok (.getfield 12, 3) := by decide +kernel
theorem dX5_mix_32 : decode cX5_mix 32 = .ok (.getfield 49, 3) := by decide +kernel
theorem dX5_mix_35 : decode cX5_mix 35 = .ok (.iload_n 1, 1) := by decide +kernel
theorem dX5_mix_36 : decode cX5_mix 36 = .ok (.iaload, 1) := by decide +kernel
theorem dX5_mix_37 : decode cX5_mix 37 = .ok (.iload_n 2, 1) := by decide +kernel
theorem dX5_mix_38 : decode cX5_mix 38 = .ok (.invokestatic 53, 3) := by decide +kernel
theorem dX5_mix_41 : decode cX5_mix 41 = .ok (.istore 4, 2) := by decide +kernel
theorem dX5_mix_43 : decode cX5_mix 43 = .ok (.aload_n 0, 1) := by decide +kernel
theorem dX5_mix_44 : decode cX5_mix 44 = .ok (.getfield 12, 3) := by decide +kernel
theorem dX5_mix_47 : decode cX5_mix 47 = .ok (.getfield 49, 3) := by decide +kernel
theorem dX5_mix_50 : decode cX5_mix 50 = .ok (.iload_n 1, 1) := by decide +kernel
theorem dX5_mix_51 : decode cX5_mix 51 = .ok (.aload_n 0, 1) := by decide +kernel
theorem dX5_mix_52 : decode cX5_mix 52 = .ok (.getfield 12, 3) := by decide +kernel
theorem dX5_mix_55 : decode cX5_mix 55 = .ok (.getfield 49, 3) := by decide +kernel
theorem dX5_mix_58 : decode cX5_mix 58 = .ok (.iload_n 1, 1) := by decide +kernel
theorem dX5_mix_59 : decode cX5_mix 59 = .ok (.iaload, 1) := by decide +kernel
theorem dX5_mix_60 : decode cX5_mix 60 = .ok (.iload_n 2, 1) := by decide +kernel
theorem dX5_mix_61 : decode cX5_mix 61 = .ok (.iload_n 3, 1) := by decide +kernel
theorem dX5_mix_62 : decode cX5_mix 62 = .ok (.invokestatic 59, 3) := by decide +kernel
theorem dX5_mix_65 : decode cX5_mix 65 = .ok (.iastore, 1) := by decide +kernel
theorem dX5_mix_66 : decode cX5_mix 66 = .ok (.iload 4, 2) := by decide +kernel
theorem dX5_mix_68 : decode cX5_mix 68 = .ok (.ireturn, 1) := by decide +kernel
set_option maxRecDepth 20000 in
theorem ggX5_painter_X5_needPainter : GoodIn wsX5_painter wsX5_needPainter := goodIn_ca (goodIn_r _ [6, 7, 8] (by decide +kernel) (by decide +kernel)) (goodIn_sub (fun _ h => List.mem_cons_of_mem _ (List.mem_append_left _ (List.mem_append_right _ h))) (by decide +kernel))
set_option maxRecDepth 20000 in
theorem gX5_painter_X5_needPainter : GoodIn wsX5_painter (va_wsS RX5 63 yX5_needPainter wsX5_needPainter) := goodIn_app (goodIn_of _ (by decide +kernel)) ggX5_painter_X5_needPainter
set_option maxRecDepth 20000 in
theorem ggX5_painter_X5_needWithin : GoodIn wsX5_painter wsX5_needWithin := goodIn_ca (goodIn_r _ [11, 12, 13] (by decide +kernel) (by decide +kernel)) (goodIn_sub (fun _ h => List.mem_cons_of_mem _ (List.mem_append_right _ h)) (by decide +kernel))
set_option maxRecDepth 20000 in
theorem gX5_painter_X5_needWithin : GoodIn wsX5_painter (va_wsS RX5 41 yX5_needWithin wsX5_needWithin) := goodIn_app (goodIn_of _ (by decide +kernel)) ggX5_painter_X5_needWithin
set_option maxRecDepth 20000 in
theorem ggX5_painter_X3_save : GoodIn wsX5_painter wsX3_save := goodIn_r _ [18, 19, 20, 21, 22, 23, 17, 24, 25, 26, 27, 28, 29, 30, 31, 32, 33, 34, 35, 36, 37, 38, 39, 40, 41, 42, 43, 58, 59, 60, 61, 48, 49, 50, 51, 52, 53, 54, 55, 56, 57] (by decide +kernel) (by decide +kernel)
set_option maxRecDepth 20000 in
theorem gX5_painter_X3_save : GoodIn wsX5_painter (wsV RX5 45 RX3 yX3_save wsX3_save) := goodIn_app (goodIn_of _ (by decide +kernel)) ggX5_painter_X3_save
theorem dX5_painter_0 : decode cX5_painter 0 = .ok (.iload_n 1, 1) := by decide +kernel
theorem dX5_painter_1 : decode cX5_painter 1 = .ok (.invokestatic 63, 3) := by decide +kernel
theorem dX5_painter_4 : decode cX5_painter 4 = .ok (.iload_n 2, 1) := by decide +kernel
theorem dX5_painter_5 : decode cX5_painter 5 = .ok (.iconst 0, 1) := by decide +kernel
theorem dX5_painter_6 : decode cX5_painter 6 = .ok (.iconst 1, 1) := by decide +kernel
theorem dX5_painter_7 : decode cX5_painter 7 = .ok (.invokestatic 41, 3) := by decide +kernel
theorem dX5_painter_10 : decode cX5_painter 10 = .ok (.iload_n 3, 1) := by decide +kernel
theorem dX5_painter_11 : decode cX5_painter 11 = .ok (.iconst 0, 1) := by decide +kernel
theorem dX5_painter_12 : decode cX5_painter 12 = .ok (.iload_n 2, 1) := by decide +kernel
theorem dX5_painter_13 : decode cX5_painter 13 = .ok (.ifCond .ne 7, 3) := by decide +kernel
theorem dX5_painter_16 : decode cX5_painter 16 = .ok (.iconst 3, 1) := by decide +kernel
theorem dX5_painter_17 : decode cX5_painter 17 = .ok (.goto 5, 3) := by decide +kernel
theorem dX5_painter_20 : decode cX5_painter 20 = .ok (.bipush 27, 2) := by decide +kernel
theorem dX5_painter_22 : decode cX5_painter 22 = .ok (.invokestatic 41, 3) := by decide +kernel
theorem dX5_painter_25 : decode cX5_painter 25 = .ok (.aload_n 0, 1) := by decide +kernel
theorem dX5_painter_26 : decode cX5_painter 26 = .ok (.getfield 19, 3) := by decide +kernel
theorem dX5_painter_29 : decode cX5_painter 29 = .ok (.aload_n 0, 1) := by decide +kernel
theorem dX5_painter_30 : decode cX5_painter 30 = .ok (.getfield 12, 3) := by decide +kernel
theorem dX5_painter_33 : decode cX5_painter 33 = .ok (.invokevirtual 45, 3) := by decide +kernel
theorem dX5_painter_36 : decode cX5_painter 36 = .ok (.iload_n 2, 1) := by decide +kernel
theorem dX5_painter_37 : decode cX5_painter 37 = .ok (.ifCond .ne 13, 3) := by decide +kernel
theorem dX5_painter_40 : decode cX5_painter 40 = .ok (.aload_n 0, 1) := by decide +kernel
theorem dX5_painter_41 : decode cX5_painter 41 = .ok (.getfield 12, 3) := by decide +kernel
theorem dX5_painter_44 : decode cX5_painter 44 = .ok (.getfield 66, 3) := by decide +kernel
theorem dX5_painter_47 : decode cX5_painter 47 = .ok (.goto 10, 3) := by decide +kernel
theorem dX5_painter_50 : decode cX5_painter 50 = .ok (.aload_n 0, 1) := by decide +kernel
theorem dX5_painter_51 : decode cX5_painter 51 = .ok (.getfield 12, 3) := by decide +kernel
theorem dX5_painter_54 : decode cX5_painter 54 = .ok (.getfield 69, 3) := by decide +kernel
theorem dX5_painter_57 : decode cX5_painter 57 = .ok (.astore 4, 2) := by decide +kernel
theorem dX5_painter_59 : decode cX5_painter 59 = .ok (.aload 4, 2) := by decide +kernel
theorem dX5_painter_61 : decode cX5_painter 61 = .ok (.iload_n 1, 1) := by decide +kernel
theorem dX5_painter_62 : decode cX5_painter 62 = .ok (.iaload, 1) := by decide +kernel
theorem dX5_painter_63 : decode cX5_painter 63 = .ok (.istore 5, 2) := by decide +kernel
theorem dX5_painter_65 : decode cX5_painter 65 = .ok (.aload 4, 2) := by decide +kernel
theorem dX5_painter_67 : decode cX5_painter 67 = .ok (.iload_n 1, 1) := by decide +kernel
theorem dX5_painter_68 : decode cX5_painter 68 = .ok (.iload_n 3, 1) := by decide +kernel
theorem dX5_painter_69 : decode cX5_painter 69 = .ok (.iastore, 1) := by decide +kernel
theorem dX5_painter_70 : decode cX5_painter 70 = .ok (.iload 5, 2) := by decide +kernel
theorem dX5_painter_72 : decode cX5_painter 72 = .ok (.ireturn, 1) := by decide +kernel
set_option maxRecDepth 20000 in
theorem ggX5_borrow_X5_needPainter : GoodIn wsX5_borrow wsX5_needPainter := goodIn_ca (goodIn_r _ [6, 7, 8] (by decide +kernel) (by decide +kernel)) (goodIn_sub (fun _ h => List.mem_cons_of_mem _ (List.mem_append_right _ h)) (by decide +kernel))
set_option maxRecDepth 20000 in
theorem gX5_borrow_X5_needPainter : GoodIn wsX5_borrow (va_wsS RX5 63 yX5_needPainter wsX5_needPainter) := goodIn_app (goodIn_of _ (by decide +kernel)) ggX5_borrow_X5_needPainter
set_option maxRecDepth 20000 in
theorem ggX5_borrow_X3_save : GoodIn wsX5_borrow wsX3_save := goodIn_r _ [13, 14, 15, 16, 17, 18, 12, 19, 20, 21, 22, 23, 24, 25, 26, 27, 28, 29, 30, 31, 32, 33, 34, 35, 36, 37, 38, 53, 54, 55, 56, 43, 44, 45, 46, 47, 48, 49, 50, 51, 52] (by decide +kernel) (by decide +kernel)
set_option maxRecDepth 20000 in
theorem gX5_borrow_X3_save : GoodIn wsX5_borrow (wsV RX5 45 RX3 yX3_save wsX3_save) := goodIn_app (goodIn_of _ (by decide +kernel)) ggX5_borrow_X3_save
theorem dX5_borrow_0 : decode cX5_borrow 0 = .ok (.iload_n 1, 1) := by decide +kernel
theorem dX5_borrow_1 : decode cX5_borrow 1 = .ok (.invokestatic 63, 3) := by decide +kernel
theorem dX5_borrow_4 : decode cX5_borrow 4 = .ok (.iload_n 2, 1) := by decide +kernel
theorem dX5_borrow_5 : decode cX5_borrow 5 = .ok (.invokestatic 63, 3) := by decide +kernel
theorem dX5_borrow_8 : decode cX5_borrow 8 = .ok (.aload_n 0, 1) := by decide +kernel
theorem dX5_borrow_9 : decode cX5_borrow 9 = .ok (.getfield 19, 3) := by decide +kernel
theorem dX5_borrow_12 : decode cX5_borrow 12 = .ok (.aload_n 0, 1) := by decide +kernel
theorem dX5_borrow_13 : decode cX5_borrow 13 = .ok (.getfield 12, 3) := by decide +kernel
theorem dX5_borrow_16 : decode cX5_borrow 16 = .ok (.invokevirtual 45, 3) := by decide +kernel
theorem dX5_borrow_19 : decode cX5_borrow 19 = .ok (.aload_n 0, 1) := by decide +kernel
theorem dX5_borrow_20 : decode cX5_borrow 20 = .ok (.getfield 12, 3) := by decide +kernel
theorem dX5_borrow_23 : decode cX5_borrow 23 = .ok (.getfield 72, 3) := by decide +kernel
theorem dX5_borrow_26 : decode cX5_borrow 26 = .ok (.iload_n 1, 1) := by decide +kernel
theorem dX5_borrow_27 : decode cX5_borrow 27 = .ok (.iaload, 1) := by decide +kernel
theorem dX5_borrow_28 : decode cX5_borrow 28 = .ok (.istore_n 3, 1) := by decide +kernel
theorem dX5_borrow_29 : decode cX5_borrow 29 = .ok (.aload_n 0, 1) := by decide +kernel
theorem dX5_borrow_30 : decode cX5_borrow 30 = .ok (.getfield 12, 3) := by decide +kernel
theorem dX5_borrow_33 : decode cX5_borrow 33 = .ok (.getfield 72, 3) := by decide +kernel
theorem dX5_borrow_36 : decode cX5_borrow 36 = .ok (.iload_n 1, 1) := by decide +kernel
theorem dX5_borrow_37 : decode cX5_borrow 37 = .ok (.iload_n 2, 1) := by decide +kernel
theorem dX5_borrow_38 : decode cX5_borrow 38 = .ok (.iload_n 1, 1) := by decide +kernel
theorem dX5_borrow_39 : decode cX5_borrow 39 = .ok (.if_icmp .ne 7, 3) := by decide +kernel
theorem dX5_borrow_42 : decode cX5_borrow 42 = .ok (.iconst (-1), 1) := by decide +kernel
theorem dX5_borrow_43 : decode cX5_borrow 43 = .ok (.goto 4, 3) := by decide +kernel
theorem dX5_borrow_46 : decode cX5_borrow 46 = .ok (.iload_n 2, 1) := by decide +kernel
theorem dX5_borrow_47 : decode cX5_borrow 47 = .ok (.iastore, 1) := by decide +kernel
theorem dX5_borrow_48 : decode cX5_borrow 48 = .ok (.iload_n 3, 1) := by decide +kernel
theorem dX5_borrow_49 : decode cX5_borrow 49 = .ok (.ireturn, 1) := by decide +kernel
set_option maxRecDepth 20000 in
theorem ggX5_label_X5_needPot : GoodIn wsX5_label wsX5_needPot := goodIn_ca (goodIn_r _ [6, 7, 8] (by decide +kernel) (by decide +kernel)) (goodIn_sub (fun _ h => List.mem_cons_of_mem _ (List.mem_append_left _ (List.mem_append_right _ h))) (by decide +kernel))
set_option maxRecDepth 20000 in
theorem gX5_label_X5_needPot : GoodIn wsX5_label (va_wsS RX5 37 yX5_needPot wsX5_needPot) := goodIn_app (goodIn_of _ (by decide +kernel)) ggX5_label_X5_needPot
set_option maxRecDepth 20000 in
theorem ggX5_label_X5_needWithin : GoodIn wsX5_label wsX5_needWithin := goodIn_ca (goodIn_r _ [11, 12, 13] (by decide +kernel) (by decide +kernel)) (goodIn_sub (fun _ h => List.mem_cons_of_mem _ (List.mem_append_right _ h)) (by decide +kernel))
set_option maxRecDepth 20000 in
theorem gX5_label_X5_needWithin : GoodIn wsX5_label (va_wsS RX5 41 yX5_needWithin wsX5_needWithin) := goodIn_app (goodIn_of _ (by decide +kernel)) ggX5_label_X5_needWithin
set_option maxRecDepth 20000 in
theorem ggX5_label_X3_save : GoodIn wsX5_label wsX3_save := goodIn_r _ [18, 19, 20, 21, 22, 23, 17, 24, 25, 26, 27, 28, 29, 30, 31, 32, 33, 34, 35, 36, 37, 38, 39, 40, 41, 42, 43, 58, 59, 60, 61, 48, 49, 50, 51, 52, 53, 54, 55, 56, 57] (by decide +kernel) (by decide +kernel)
set_option maxRecDepth 20000 in
theorem gX5_label_X3_save : GoodIn wsX5_label (wsV RX5 45 RX3 yX3_save wsX3_save) := goodIn_app (goodIn_of _ (by decide +kernel)) ggX5_label_X3_save
theorem dX5_label_0 : decode cX5_label 0 = .ok (.iload_n 1, 1) := by decide +kernel
theorem dX5_label_1 : decode cX5_label 1 = .ok (.invokestatic 37, 3) := by decide +kernel
theorem dX5_label_4 : decode cX5_label 4 = .ok (.iload_n 2, 1) := by decide +kernel
theorem dX5_label_5 : decode cX5_label 5 = .ok (.iconst (-1), 1) := by decide +kernel
theorem dX5_label_6 : decode cX5_label 6 = .ok (.bipush 7, 2) := by decide +kernel
theorem dX5_label_8 : decode cX5_label 8 = .ok (.invokestatic 41, 3) := by decide +kernel
theorem dX5_label_11 : decode cX5_label 11 = .ok (.aload_n 0, 1) := by decide +kernel
theorem dX5_label_12 : decode cX5_label 12 = .ok (.getfield 19, 3) := by decide +kernel
theorem dX5_label_15 : decode cX5_label 15 = .ok (.aload_n 0, 1) := by decide +kernel
theorem dX5_label_16 : decode cX5_label 16 = .ok (.getfield 12, 3) := by decide +kernel
theorem dX5_label_19 : decode cX5_label 19 = .ok (.invokevirtual 45, 3) := by decide +kernel
theorem dX5_label_22 : decode cX5_label 22 = .ok (.aload_n 0, 1) := by decide +kernel
theorem dX5_label_23 : decode cX5_label 23 = .ok (.getfield 12, 3) := by decide +kernel
theorem dX5_label_26 : decode cX5_label 26 = .ok (.getfield 75, 3) := by decide +kernel
theorem dX5_label_29 : decode cX5_label 29 = .ok (.iload_n 1, 1) := by decide +kernel
theorem dX5_label_30 : decode cX5_label 30 = .ok (.iaload, 1) := by decide +kernel
theorem dX5_label_31 : decode cX5_label 31 = .ok (.istore_n 3, 1) := by decide +kernel
theorem dX5_label_32 : decode cX5_label 32 = .ok (.aload_n 0, 1) := by decide +kernel
theorem dX5_label_33 : decode cX5_label 33 = .ok (.getfield 12, 3) := by decide +kernel
theorem dX5_label_36 : decode cX5_label 36 = .ok (.getfield 75, 3) := by decide +kernel
theorem dX5_label_39 : decode cX5_label 39 = .ok (.iload_n 1, 1) := by decide +kernel
theorem dX5_label_40 : decode cX5_label 40 = .ok (.iload_n 2, 1) := by decide +kernel
theorem dX5_label_41 : decode cX5_label 41 = .ok (.iastore, 1) := by decide +kernel
theorem dX5_label_42 : decode cX5_label 42 = .ok (.iload_n 3, 1) := by decide +kernel
theorem dX5_label_43 : decode cX5_label 43 = .ok (.ireturn, 1) := by decide +kernel
set_option maxRecDepth 20000 in
theorem ggX5_labelAll_X5_needPainter : GoodIn wsX5_labelAll wsX5_needPainter := goodIn_ca (goodIn_r _ [6, 7, 8] (by decide +kernel) (by decide +kernel)) (goodIn_sub (fun _ h => List.mem_cons_of_mem _ (List.mem_append_right _ h)) (by decide +kernel))
set_option maxRecDepth 20000 in
theorem gX5_labelAll_X5_needPainter : GoodIn wsX5_labelAll (va_wsS RX5 63 yX5_needPainter wsX5_needPainter) := goodIn_app (goodIn_of _ (by decide +kernel)) ggX5_labelAll_X5_needPainter
set_option maxRecDepth 20000 in
theorem ggX5_labelAll_X3_save : GoodIn wsX5_labelAll wsX3_save := goodIn_r _ [13, 14, 15, 16, 17, 18, 12, 19, 20, 21, 22, 23, 24, 25, 26, 27, 28, 29, 30, 31, 32, 33, 34, 35, 36, 37, 38, 80, 81, 82, 83, 84, 85, 86, 87, 88, 89, 90, 91, 92, 93] (by decide +kernel) (by decide +kernel)
set_option maxRecDepth 20000 in
theorem gX5_labelAll_X3_save : GoodIn wsX5_labelAll (wsV RX5 45 RX3 yX3_save wsX3_save) := goodIn_app (goodIn_of _ (by decide +kernel)) ggX5_labelAll_X3_save
set_option maxRecDepth 20000 in
theorem ggX5_labelAll_X0_labelInOrder : GoodIn wsX5_labelAll wsX0_labelInOrder := goodIn_r _ [42, 30, 43, 44, 45, 23, 46, 33, 25, 47, 48, 49, 50, 32, 31, 51, 52, 53, 54, 55, 56, 57, 58, 59, 60, 61, 62, 63, 64, 84, 85, 86, 87, 88, 89, 90, 91, 92, 93] (by decide +kernel) (by decide +kernel)
set_option maxRecDepth 20000 in
theorem gX5_labelAll_X0_labelInOrder : GoodIn wsX5_labelAll (wsV RX5 78 RX0 yX0_labelInOrder wsX0_labelInOrder) := goodIn_app (goodIn_of _ (by decide +kernel)) ggX5_labelAll_X0_labelInOrder
set_option maxRecDepth 20000 in
theorem ggX5_labelAll_X0_unlikeLabels : GoodIn wsX5_labelAll wsX0_unlikeLabels := goodIn_r _ [68, 30, 69, 70, 71, 72, 73, 74, 75, 84, 85, 86, 87, 88, 89, 90, 91, 92, 93] (by decide +kernel) (by decide +kernel)
set_option maxRecDepth 20000 in
theorem gX5_labelAll_X0_unlikeLabels : GoodIn wsX5_labelAll (wsV RX5 81 RX0 yX0_unlikeLabels wsX0_unlikeLabels) := goodIn_app (goodIn_of _ (by decide +kernel)) ggX5_labelAll_X0_unlikeLabels
theorem dX5_labelAll_0 : decode cX5_labelAll 0 = .ok (.iload_n 1, 1) := by decide +kernel
theorem dX5_labelAll_1 : decode cX5_labelAll 1 = .ok (.invokestatic 63, 3) := by decide +kernel
theorem dX5_labelAll_4 : decode cX5_labelAll 4 = .ok (.aload_n 0, 1) := by decide +kernel
theorem dX5_labelAll_5 : decode cX5_labelAll 5 = .ok (.getfield 19, 3) := by decide +kernel
theorem dX5_labelAll_8 : decode cX5_labelAll 8 = .ok (.aload_n 0, 1) := by decide +kernel
theorem dX5_labelAll_9 : decode cX5_labelAll 9 = .ok (.getfield 12, 3) := by decide +kernel
theorem dX5_labelAll_12 : decode cX5_labelAll 12 = .ok (.invokevirtual 45, 3) := by decide +kernel
theorem dX5_labelAll_15 : decode cX5_labelAll 15 = .ok (.aload_n 0, 1) := by decide +kernel
theorem dX5_labelAll_16 : decode cX5_labelAll 16 = .ok (.getfield 12, 3) := by decide +kernel
theorem dX5_labelAll_19 : decode cX5_labelAll 19 = .ok (.iload_n 1, 1) := by decide +kernel
theorem dX5_labelAll_20 : decode cX5_labelAll 20 = .ok (.invokevirtual 78, 3) := by decide +kernel
theorem dX5_labelAll_23 : decode cX5_labelAll 23 = .ok (.aload_n 0, 1) := by decide +kernel
theorem dX5_labelAll_24 : decode cX5_labelAll 24 = .ok (.getfield 12, 3) := by decide +kernel
theorem dX5_labelAll_27 : decode cX5_labelAll 27 = .ok (.invokevirtual 81, 3) := by decide +kernel
theorem dX5_labelAll_30 : decode cX5_labelAll 30 = .ok (.ireturn, 1) := by decide +kernel
set_option maxRecDepth 20000 in
theorem ggX5_hang_X5_needPot : GoodIn wsX5_hang wsX5_needPot := goodIn_ca (goodIn_r _ [6, 7, 8] (by decide +kernel) (by decide +kernel)) (goodIn_sub (fun _ h => List.mem_cons_of_mem _ (List.mem_append_left _ (List.mem_append_right _ h))) (by decide +kernel))
set_option maxRecDepth 20000 in
theorem gX5_hang_X5_needPot : GoodIn wsX5_hang (va_wsS RX5 37 yX5_needPot wsX5_needPot) := goodIn_app (goodIn_of _ (by decide +kernel)) ggX5_hang_X5_needPot
set_option maxRecDepth 20000 in
theorem ggX5_hang_X5_needUnlike : GoodIn wsX5_hang wsX5_needUnlike := goodIn_ca (goodIn_r _ [11, 12, 13] (by decide +kernel) (by decide +kernel)) (goodIn_sub (fun _ h => List.mem_cons_of_mem _ (List.mem_append_right _ h)) (by decide +kernel))
set_option maxRecDepth 20000 in
theorem gX5_hang_X5_needUnlike : GoodIn wsX5_hang (va_wsS RX5 85 yX5_needUnlike wsX5_needUnlike) := goodIn_app (goodIn_of _ (by decide +kernel)) ggX5_hang_X5_needUnlike
set_option maxRecDepth 20000 in
theorem ggX5_hang_X3_save : GoodIn wsX5_hang wsX3_save := goodIn_r _ [18, 19, 20, 21, 22, 23, 17, 24, 25, 26, 27, 28, 29, 30, 31, 32, 33, 34, 35, 36, 37, 38, 39, 40, 41, 42, 43, 52, 53, 54, 55, 56, 57, 58, 59, 60, 61, 62, 63, 64, 65] (by decide +kernel) (by decide +kernel)
set_option maxRecDepth 20000 in
theorem gX5_hang_X3_save : GoodIn wsX5_hang (wsV RX5 45 RX3 yX3_save wsX3_save) := goodIn_app (goodIn_of _ (by decide +kernel)) ggX5_hang_X3_save
set_option maxRecDepth 20000 in
theorem ggX5_hang_X0_addChart : GoodIn wsX5_hang wsX0_addChart := goodIn_r _ [47, 41, 43, 39, 40, 56, 57, 58, 59, 60, 61, 62, 63, 64, 65] (by decide +kernel) (by decide +kernel)
set_option maxRecDepth 20000 in
theorem gX5_hang_X0_addChart : GoodIn wsX5_hang (wsV RX5 89 RX0 yX0_addChart wsX0_addChart) := goodIn_app (goodIn_of _ (by decide +kernel)) ggX5_hang_X0_addChart
theorem dX5_hang_0 : decode cX5_hang 0 = .ok (.iload_n 1, 1) := by decide +kernel
theorem dX5_hang_1 : decode cX5_hang 1 = .ok (.invokestatic 37, 3) := by decide +kernel
theorem dX5_hang_4 : decode cX5_hang 4 = .ok (.iload_n 2, 1) := by decide +kernel
theorem dX5_hang_5 : decode cX5_hang 5 = .ok (.invokestatic 37, 3) := by decide +kernel
theorem dX5_hang_8 : decode cX5_hang 8 = .ok (.iload_n 1, 1) := by decide +kernel
theorem dX5_hang_9 : decode cX5_hang 9 = .ok (.iload_n 2, 1) := by decide +kernel
theorem dX5_hang_10 : decode cX5_hang 10 = .ok (.invokestatic 85, 3) := by decide +kernel
theorem dX5_hang_13 : decode cX5_hang 13 = .ok (.aload_n 0, 1) := by decide +kernel
theorem dX5_hang_14 : decode cX5_hang 14 = .ok (.getfield 19, 3) := by decide +kernel
theorem dX5_hang_17 : decode cX5_hang 17 = .ok (.aload_n 0, 1) := by decide +kernel
theorem dX5_hang_18 : decode cX5_hang 18 = .ok (.getfield 12, 3) := by decide +kernel
theorem dX5_hang_21 : decode cX5_hang 21 = .ok (.invokevirtual 45, 3) := by decide +kernel
theorem dX5_hang_24 : decode cX5_hang 24 = .ok (.aload_n 0, 1) := by decide +kernel
theorem dX5_hang_25 : decode cX5_hang 25 = .ok (.getfield 12, 3) := by decide +kernel
theorem dX5_hang_28 : decode cX5_hang 28 = .ok (.iload_n 1, 1) := by decide +kernel
theorem dX5_hang_29 : decode cX5_hang 29 = .ok (.iload_n 2, 1) := by decide +kernel
theorem dX5_hang_30 : decode cX5_hang 30 = .ok (.invokevirtual 89, 3) := by decide +kernel
theorem dX5_hang_33 : decode cX5_hang 33 = .ok (.ireturn, 1) := by decide +kernel
set_option maxRecDepth 20000 in
theorem ggX5_takeDown_X5_needChart : GoodIn wsX5_takeDown wsX5_needChart := goodIn_ca (goodIn_r _ [7, 8, 9, 2, 74, 75, 76, 77, 78, 79, 80, 81, 82, 83, 84, 85, 86, 87] (by decide +kernel) (by decide +kernel)) (goodIn_sub (fun _ h => List.mem_cons_of_mem _ (List.mem_append_right _ h)) (by decide +kernel))
set_option maxRecDepth 20000 in
theorem gX5_takeDown_X5_needChart : GoodIn wsX5_takeDown (wsV RX5 92 RX5 yX5_needChart wsX5_needChart) := goodIn_app (goodIn_of _ (by decide +kernel)) ggX5_takeDown_X5_needChart
set_option maxRecDepth 20000 in
theorem ggX5_takeDown_X3_save : GoodIn wsX5_takeDown wsX3_save := goodIn_r _ [14, 15, 16, 17, 18, 19, 13, 20, 21, 22, 23, 24, 25, 26, 27, 28, 29, 30, 31, 32, 33, 34, 35, 36, 37, 38, 39, 88, 89, 90, 91, 78, 79, 80, 81, 82, 83, 84, 85, 86, 87] (by decide +kernel) (by decide +kernel)
set_option maxRecDepth 20000 in
theorem gX5_takeDown_X3_save : GoodIn wsX5_takeDown (wsV RX5 45 RX3 yX3_save wsX3_save) := goodIn_app (goodIn_of _ (by decide +kernel)) ggX5_takeDown_X3_save
set_option maxRecDepth 20000 in
theorem ggX5_takeDown_X0_readersOf : GoodIn wsX5_takeDown wsX0_readersOf := goodIn_r _ [43, 35, 36, 44, 45, 46, 24, 47, 34, 26, 48, 49, 50, 51, 33, 32, 52, 53, 54, 55, 56, 57, 58, 59, 60, 61, 62, 78, 79, 80, 81, 82, 83, 84, 85, 86, 87] (by decide +kernel) (by decide +kernel)
set_option maxRecDepth 20000 in
theorem gX5_takeDown_X0_readersOf : GoodIn wsX5_takeDown (wsV RX5 95 RX0 yX0_readersOf wsX0_readersOf) := goodIn_app (goodIn_of _ (by decide +kernel)) ggX5_takeDown_X0_readersOf
set_option maxRecDepth 20000 in
theorem ggX5_takeDown_J6_bitCount_0f7a4 : GoodIn wsX5_takeDown wsJ6_bitCount_0f7a4 := goodIn_r _ [66, 67, 68, 69] (by decide +kernel) (by decide +kernel)
set_option maxRecDepth 20000 in
theorem gX5_takeDown_J6_bitCount_0f7a4 : GoodIn wsX5_takeDown (va_wsS RX5 99 yJ6_bitCount_0f7a4 wsJ6_bitCount_0f7a4) := goodIn_app (goodIn_of _ (by decide +kernel)) ggX5_takeDown_J6_bitCount_0f7a4
set_option maxRecDepth 20000 in
theorem ggX5_takeDown_X0_removeChart : GoodIn wsX5_takeDown wsX0_removeChart := goodIn_r _ [73, 37, 35, 36, 78, 79, 80, 81, 82, 83, 84, 85, 86, 87] (by decide +kernel) (by decide +kernel)
set_option maxRecDepth 20000 in
theorem gX5_takeDown_X0_removeChart : GoodIn wsX5_takeDown (wsV RX5 104 RX0 yX0_removeChart wsX0_removeChart) := goodIn_app (goodIn_of _ (by decide +kernel)) ggX5_takeDown_X0_removeChart
theorem dX5_takeDown_0 : decode cX5_takeDown 0 = .ok (.aload_n 0, 1) := by decide +kernel
theorem dX5_takeDown_1 : decode cX5_takeDown 1 = .ok (.iload_n 1, 1) := by decide +kernel
theorem dX5_takeDown_2 : decode cX5_takeDown 2 = .ok (.invokevirtual 92, 3) := by decide +kernel
theorem dX5_takeDown_5 : decode cX5_takeDown 5 = .ok (.aload_n 0, 1) := by decide +kernel
theorem dX5_takeDown_6 : decode cX5_takeDown 6 = .ok (.getfield 19, 3) := by decide +kernel
theorem dX5_takeDown_9 : decode cX5_takeDown 9 = .ok (.aload_n 0, 1) := by decide +kernel
theorem dX5_takeDown_10 : decode cX5_takeDown 10 = .ok (.getfield 12, 3) := by decide +kernel
theorem dX5_takeDown_13 : decode cX5_takeDown 13 = .ok (.invokevirtual 45, 3) := by decide +kernel
theorem dX5_takeDown_16 : decode cX5_takeDown 16 = .ok (.aload_n 0, 1) := by decide +kernel
theorem dX5_takeDown_17 : decode cX5_takeDown 17 = .ok (.getfield 12, 3) := by decide +kernel
theorem dX5_takeDown_20 : decode cX5_takeDown 20 = .ok (.iload_n 1, 1) := by decide +kernel
theorem dX5_takeDown_21 : decode cX5_takeDown 21 = .ok (.invokevirtual 95, 3) := by decide +kernel
theorem dX5_takeDown_24 : decode cX5_takeDown 24 = .ok (.invokestatic 99, 3) := by decide +kernel
theorem dX5_takeDown_27 : decode cX5_takeDown 27 = .ok (.istore_n 2, 1) := by decide +kernel
theorem dX5_takeDown_28 : decode cX5_takeDown 28 = .ok (.aload_n 0, 1) := by decide +kernel
theorem dX5_takeDown_29 : decode cX5_takeDown 29 = .ok (.getfield 12, 3) := by decide +kernel
theorem dX5_takeDown_32 : decode cX5_takeDown 32 = .ok (.iload_n 1, 1) := by decide +kernel
theorem dX5_takeDown_33 : decode cX5_takeDown 33 = .ok (.invokevirtual 104, 3) := by decide +kernel
theorem dX5_takeDown_36 : decode cX5_takeDown 36 = .ok (.iload_n 2, 1) := by decide +kernel
theorem dX5_takeDown_37 : decode cX5_takeDown 37 = .ok (.ireturn, 1) := by decide +kernel
set_option maxRecDepth 20000 in
theorem ggX5_correct_X5_needChart : GoodIn wsX5_correct wsX5_needChart := goodIn_ca (goodIn_r _ [7, 8, 9, 2, 70, 71, 72, 73, 74, 75, 76, 77, 78, 79, 80, 81, 82, 83] (by decide +kernel) (by decide +kernel)) (goodIn_sub (fun _ h => List.mem_cons_of_mem _ (List.mem_append_right _ h)) (by decide +kernel))
set_option maxRecDepth 20000 in
theorem gX5_correct_X5_needChart : GoodIn wsX5_correct (wsV RX5 92 RX5 yX5_needChart wsX5_needChart) := goodIn_app (goodIn_of _ (by decide +kernel)) ggX5_correct_X5_needChart
set_option maxRecDepth 20000 in
theorem ggX5_correct_X5_needPainter : GoodIn wsX5_correct wsX5_needPainter := goodIn_ca (goodIn_r _ [12, 8, 9] (by decide +kernel) (by decide +kernel)) (goodIn_sub (fun _ h => List.mem_cons_of_mem _ (List.mem_append_right _ h)) (by decide +kernel))
set_option maxRecDepth 20000 in
theorem gX5_correct_X5_needPainter : GoodIn wsX5_correct (va_wsS RX5 63 yX5_needPainter wsX5_needPainter) := goodIn_app (goodIn_of _ (by decide +kernel)) ggX5_correct_X5_needPainter
set_option maxRecDepth 20000 in
theorem ggX5_correct_X3_save : GoodIn wsX5_correct wsX3_save := goodIn_r _ [17, 18, 19, 20, 21, 22, 16, 23, 24, 25, 26, 27, 28, 29, 30, 31, 32, 33, 34, 35, 36, 37, 38, 39, 40, 41, 42, 84, 85, 86, 87, 74, 75, 76, 77, 78, 79, 80, 81, 82, 83] (by decide +kernel) (by decide +kernel)
set_option maxRecDepth 20000 in
theorem gX5_correct_X3_save : GoodIn wsX5_correct (wsV RX5 45 RX3 yX3_save wsX3_save) := goodIn_app (goodIn_of _ (by decide +kernel)) ggX5_correct_X3_save
set_option maxRecDepth 20000 in
theorem ggX5_correct_X0_makeReadable : GoodIn wsX5_correct wsX0_makeReadable := goodIn_r _ [46, 38, 39, 42, 29, 41, 47, 48, 49, 27, 50, 37, 51, 52, 53, 54, 55, 56, 57, 58, 59, 60, 61, 62, 63, 64, 65, 66, 67, 68, 36, 35, 69, 74, 75, 76, 77, 78, 79, 80, 81, 82, 83] (by decide +kernel) (by decide +kernel)
set_option maxRecDepth 20000 in
theorem gX5_correct_X0_makeReadable : GoodIn wsX5_correct (wsV RX5 107 RX0 yX0_makeReadable wsX0_makeReadable) := goodIn_app (goodIn_of _ (by decide +kernel)) ggX5_correct_X0_makeReadable
theorem dX5_correct_0 : decode cX5_correct 0 = .ok (.aload_n 0, 1) := by decide +kernel
theorem dX5_correct_1 : decode cX5_correct 1 = .ok (.iload_n 1, 1) := by decide +kernel
theorem dX5_correct_2 : decode cX5_correct 2 = .ok (.invokevirtual 92, 3) := by decide +kernel
theorem dX5_correct_5 : decode cX5_correct 5 = .ok (.iload_n 2, 1) := by decide +kernel
theorem dX5_correct_6 : decode cX5_correct 6 = .ok (.invokestatic 63, 3) := by decide +kernel
theorem dX5_correct_9 : decode cX5_correct 9 = .ok (.aload_n 0, 1) := by decide +kernel
theorem dX5_correct_10 : decode cX5_correct 10 = .ok (.getfield 19, 3) := by decide +kernel
theorem dX5_correct_13 : decode cX5_correct 13 = .ok (.aload_n 0, 1) := by decide +kernel
theorem dX5_correct_14 : decode cX5_correct 14 = .ok (.getfield 12, 3) := by decide +kernel
theorem dX5_correct_17 : decode cX5_correct 17 = .ok (.invokevirtual 45, 3) := by decide +kernel
theorem dX5_correct_20 : decode cX5_correct 20 = .ok (.aload_n 0, 1) := by decide +kernel
theorem dX5_correct_21 : decode cX5_correct 21 = .ok (.getfield 12, 3) := by decide +kernel
theorem dX5_correct_24 : decode cX5_correct 24 = .ok (.iload_n 1, 1) := by decide +kernel
theorem dX5_correct_25 : decode cX5_correct 25 = .ok (.iload_n 2, 1) := by decide +kernel
theorem dX5_correct_26 : decode cX5_correct 26 = .ok (.invokevirtual 107, 3) := by decide +kernel
theorem dX5_correct_29 : decode cX5_correct 29 = .ok (.ireturn, 1) := by decide +kernel
set_option maxRecDepth 20000 in
theorem ggX5_append_X5_needWithin : GoodIn wsX5_append wsX5_needWithin := goodIn_ca (goodIn_r _ [7, 8, 9] (by decide +kernel) (by decide +kernel)) (goodIn_sub (fun _ h => List.mem_cons_of_mem _ (List.mem_append_right _ h)) (by decide +kernel))
set_option maxRecDepth 20000 in
theorem gX5_append_X5_needWithin : GoodIn wsX5_append (va_wsS RX5 41 yX5_needWithin wsX5_needWithin) := goodIn_app (goodIn_of _ (by decide +kernel)) ggX5_append_X5_needWithin
set_option maxRecDepth 20000 in
theorem ggX5_append_X4_isFull : GoodIn wsX5_append wsX4_isFull := goodIn_r _ [14, 15, 25, 26] (by decide +kernel) (by decide +kernel)
set_option maxRecDepth 20000 in
theorem gX5_append_X4_isFull : GoodIn wsX5_append (wsV RX5 110 RX4 yX4_isFull wsX4_isFull) := goodIn_app (goodIn_of _ (by decide +kernel)) ggX5_append_X4_isFull
set_option maxRecDepth 20000 in
theorem ggX5_append_X4_add : GoodIn wsX5_append wsX4_add := goodIn_r _ [19, 15, 20, 25, 26] (by decide +kernel) (by decide +kernel)
set_option maxRecDepth 20000 in
theorem gX5_append_X4_add : GoodIn wsX5_append (wsV RX5 121 RX4 yX4_add wsX4_add) := goodIn_app (goodIn_of _ (by decide +kernel)) ggX5_append_X4_add
theorem dX5_append_0 : decode cX5_append 0 = .ok (.iload_n 1, 1) := by decide +kernel
theorem dX5_append_1 : decode cX5_append 1 = .ok (.bipush 33, 2) := by decide +kernel
theorem dX5_append_3 : decode cX5_append 3 = .ok (.bipush 126, 2) := by decide +kernel
theorem dX5_append_5 : decode cX5_append 5 = .ok (.invokestatic 41, 3) := by decide +kernel
theorem dX5_append_8 : decode cX5_append 8 = .ok (.aload_n 0, 1) := by decide +kernel
theorem dX5_append_9 : decode cX5_append 9 = .ok (.getfield 26, 3) := by decide +kernel
theorem dX5_append_12 : decode cX5_append 12 = .ok (.invokevirtual 110, 3) := by decide +kernel
theorem dX5_append_15 : decode cX5_append 15 = .ok (.ifCond .eq 13, 3) := by decide +kernel
theorem dX5_append_18 : decode cX5_append 18 = .ok (.new 114, 3) := by decide +kernel
theorem dX5_append_21 : decode cX5_append 21 = .ok (.dup, 1) := by decide +kernel
theorem dX5_append_22 : decode cX5_append 22 = .ok (.ldc 116, 2) := by decide +kernel
theorem dX5_append_24 : decode cX5_append 24 = .ok (.invokespecial 118, 3) := by decide +kernel
theorem dX5_append_27 : decode cX5_append 27 = .ok (.athrow, 1) := by decide +kernel
theorem dX5_append_28 : decode cX5_append 28 = .ok (.aload_n 0, 1) := by decide +kernel
theorem dX5_append_29 : decode cX5_append 29 = .ok (.getfield 26, 3) := by decide +kernel
theorem dX5_append_32 : decode cX5_append 32 = .ok (.iload_n 1, 1) := by decide +kernel
theorem dX5_append_33 : decode cX5_append 33 = .ok (.invokevirtual 121, 3) := by decide +kernel
theorem dX5_append_36 : decode cX5_append 36 = .ok (.aload_n 0, 1) := by decide +kernel
theorem dX5_append_37 : decode cX5_append 37 = .ok (.getfield 26, 3) := by decide +kernel
theorem dX5_append_40 : decode cX5_append 40 = .ok (.getfield 124, 3) := by decide +kernel
theorem dX5_append_43 : decode cX5_append 43 = .ok (.ireturn, 1) := by decide +kernel
set_option maxRecDepth 20000 in
theorem ggX5_clearBuffer_X4_clear : GoodIn wsX5_clearBuffer wsX4_clear := goodIn_r _ [6, 7, 12, 13] (by decide +kernel) (by decide +kernel)
set_option maxRecDepth 20000 in
theorem gX5_clearBuffer_X4_clear : GoodIn wsX5_clearBuffer (wsV RX5 128 RX4 yX4_clear wsX4_clear) := goodIn_app (goodIn_of _ (by decide +kernel)) ggX5_clearBuffer_X4_clear
theorem dX5_clearBuffer_0 : decode cX5_clearBuffer 0 = .ok (.aload_n 0, 1) := by decide +kernel
theorem dX5_clearBuffer_1 : decode cX5_clearBuffer 1 = .ok (.getfield 26, 3) := by decide +kernel
theorem dX5_clearBuffer_4 : decode cX5_clearBuffer 4 = .ok (.getfield 124, 3) := by decide +kernel
theorem dX5_clearBuffer_7 : decode cX5_clearBuffer 7 = .ok (.istore_n 1, 1) := by decide +kernel
theorem dX5_clearBuffer_8 : decode cX5_clearBuffer 8 = .ok (.aload_n 0, 1) := by decide +kernel
theorem dX5_clearBuffer_9 : decode cX5_clearBuffer 9 = .ok (.getfield 26, 3) := by decide +kernel
theorem dX5_clearBuffer_12 : decode cX5_clearBuffer 12 = .ok (.invokevirtual 128, 3) := by decide +kernel
theorem dX5_clearBuffer_15 : decode cX5_clearBuffer 15 = .ok (.iload_n 1, 1) := by decide +kernel
theorem dX5_clearBuffer_16 : decode cX5_clearBuffer 16 = .ok (.ireturn, 1) := by decide +kernel
set_option maxRecDepth 20000 in
theorem ggX5_firstError_X4_firstWrong : GoodIn wsX5_firstError wsX4_firstWrong := goodIn_r _ [6, 7, 8, 9, 10, 5, 11, 16, 17] (by decide +kernel) (by decide +kernel)
set_option maxRecDepth 20000 in
theorem gX5_firstError_X4_firstWrong : GoodIn wsX5_firstError (wsV RX5 131 RX4 yX4_firstWrong wsX4_firstWrong) := goodIn_app (goodIn_of _ (by decide +kernel)) ggX5_firstError_X4_firstWrong
theorem dX5_firstError_0 : decode cX5_firstError 0 = .ok (.aload_n 0, 1) := by decide +kernel
theorem dX5_firstError_1 : decode cX5_firstError 1 = .ok (.getfield 26, 3) := by decide +kernel
theorem dX5_firstError_4 : decode cX5_firstError 4 = .ok (.invokevirtual 131, 3) := by decide +kernel
theorem dX5_firstError_7 : decode cX5_firstError 7 = .ok (.ireturn, 1) := by decide +kernel
set_option maxRecDepth 20000 in
theorem ggX5_load_X4_tellsPots : GoodIn wsX5_load wsX4_tellsPots := goodIn_r _ [10, 11, 12, 13, 14, 9, 15, 16, 17, 18, 19, 91, 92] (by decide +kernel) (by decide +kernel)
set_option maxRecDepth 20000 in
theorem gX5_load_X4_tellsPots : GoodIn wsX5_load (wsV RX5 134 RX4 yX4_tellsPots wsX4_tellsPots) := goodIn_app (goodIn_of _ (by decide +kernel)) ggX5_load_X4_tellsPots
set_option maxRecDepth 20000 in
theorem ggX5_load_X3_save : GoodIn wsX5_load wsX3_save := goodIn_r _ [24, 25, 26, 27, 28, 29, 23, 30, 31, 32, 33, 34, 35, 36, 37, 38, 39, 40, 41, 42, 43, 44, 45, 46, 47, 48, 49, 93, 94, 95, 96, 81, 82, 83, 84, 85, 86, 87, 88, 89, 90] (by decide +kernel) (by decide +kernel)
set_option maxRecDepth 20000 in
theorem gX5_load_X3_save : GoodIn wsX5_load (wsV RX5 45 RX3 yX3_save wsX3_save) := goodIn_app (goodIn_of _ (by decide +kernel)) ggX5_load_X3_save
set_option maxRecDepth 20000 in
theorem ggX5_load_X4_giveColours : GoodIn wsX5_load wsX4_giveColours := goodIn_r _ [53, 11, 16, 91, 92, 81, 82, 83, 84, 85, 86, 87, 88, 89, 90] (by decide +kernel) (by decide +kernel)
set_option maxRecDepth 20000 in
theorem gX5_load_X4_giveColours : GoodIn wsX5_load (wsV RX5 142 RX4 yX4_giveColours wsX4_giveColours) := goodIn_app (goodIn_of _ (by decide +kernel)) ggX5_load_X4_giveColours
set_option maxRecDepth 20000 in
theorem ggX5_load_X4_clear : GoodIn wsX5_load wsX4_clear := goodIn_r _ [57, 11, 91, 92] (by decide +kernel) (by decide +kernel)
set_option maxRecDepth 20000 in
theorem gX5_load_X4_clear : GoodIn wsX5_load (wsV RX5 128 RX4 yX4_clear wsX4_clear) := goodIn_app (goodIn_of _ (by decide +kernel)) ggX5_load_X4_clear
set_option maxRecDepth 20000 in
theorem ggX5_load_X0_pairsTold : GoodIn wsX5_load wsX0_pairsTold := goodIn_r _ [61, 36, 62, 63, 64, 34, 65, 43, 42, 66, 67, 68, 69, 70, 71, 72, 73, 74, 75, 76, 81, 82, 83, 84, 85, 86, 87, 88, 89, 90] (by decide +kernel) (by decide +kernel)
set_option maxRecDepth 20000 in
theorem gX5_load_X0_pairsTold : GoodIn wsX5_load (wsV RX5 145 RX0 yX0_pairsTold wsX0_pairsTold) := goodIn_app (goodIn_of _ (by decide +kernel)) ggX5_load_X0_pairsTold
theorem dX5_load_0 : decode cX5_load 0 = .ok (.aload_n 0, 1) := by decide +kernel
theorem dX5_load_1 : decode cX5_load 1 = .ok (.getfield 26, 3) := by decide +kernel
theorem dX5_load_4 : decode cX5_load 4 = .ok (.invokevirtual 134, 3) := by decide +kernel
theorem dX5_load_7 : decode cX5_load 7 = .ok (.ifCond .ne 13, 3) := by decide +kernel
theorem dX5_load_10 : decode cX5_load 10 = .ok (.new 137, 3) := by decide +kernel
theorem dX5_load_13 : decode cX5_load 13 = .ok (.dup, 1) := by decide +kernel
theorem dX5_load_14 : decode cX5_load 14 = .ok (.ldc 139, 2) := by decide +kernel
theorem dX5_load_16 : decode cX5_load 16 = .ok (.invokespecial 141, 3) := by decide +kernel
theorem dX5_load_19 : decode cX5_load 19 = .ok (.athrow, 1) := by decide +kernel
theorem dX5_load_20 : decode cX5_load 20 = .ok (.aload_n 0, 1) := by decide +kernel
theorem dX5_load_21 : decode cX5_load 21 = .ok (.getfield 19, 3) := by decide +kernel
theorem dX5_load_24 : decode cX5_load 24 = .ok (.aload_n 0, 1) := by decide +kernel
theorem dX5_load_25 : decode cX5_load 25 = .ok (.getfield 12, 3) := by decide +kernel
theorem dX5_load_28 : decode cX5_load 28 = .ok (.invokevirtual 45, 3) := by decide +kernel
theorem dX5_load_31 : decode cX5_load 31 = .ok (.aload_n 0, 1) := by decide +kernel
theorem dX5_load_32 : decode cX5_load 32 = .ok (.getfield 26, 3) := by decide +kernel
theorem dX5_load_35 : decode cX5_load 35 = .ok (.aload_n 0, 1) := by decide +kernel
theorem dX5_load_36 : decode cX5_load 36 = .ok (.getfield 12, 3) := by decide +kernel
theorem dX5_load_39 : decode cX5_load 39 = .ok (.invokevirtual 142, 3) := by decide +kernel
theorem dX5_load_42 : decode cX5_load 42 = .ok (.aload_n 0, 1) := by decide +kernel
theorem dX5_load_43 : decode cX5_load 43 = .ok (.getfield 26, 3) := by decide +kernel
theorem dX5_load_46 : decode cX5_load 46 = .ok (.invokevirtual 128, 3) := by decide +kernel
theorem dX5_load_49 : decode cX5_load 49 = .ok (.aload_n 0, 1) := by decide +kernel
theorem dX5_load_50 : decode cX5_load 50 = .ok (.getfield 12, 3) := by decide +kernel
theorem dX5_load_53 : decode cX5_load 53 = .ok (.iconst 0, 1) := by decide +kernel
theorem dX5_load_54 : decode cX5_load 54 = .ok (.aload_n 0, 1) := by decide +kernel
theorem dX5_load_55 : decode cX5_load 55 = .ok (.getfield 12, 3) := by decide +kernel
theorem dX5_load_58 : decode cX5_load 58 = .ok (.getfield 72, 3) := by decide +kernel
theorem dX5_load_61 : decode cX5_load 61 = .ok (.iconst 0, 1) := by decide +kernel
theorem dX5_load_62 : decode cX5_load 62 = .ok (.iaload, 1) := by decide +kernel
theorem dX5_load_63 : decode cX5_load 63 = .ok (.invokevirtual 145, 3) := by decide +kernel
theorem dX5_load_66 : decode cX5_load 66 = .ok (.ireturn, 1) := by decide +kernel
set_option maxRecDepth 20000 in
theorem ggX5_keep_X5_needWithin : GoodIn wsX5_keep wsX5_needWithin := goodIn_ca (goodIn_r _ [6, 7, 8] (by decide +kernel) (by decide +kernel)) (goodIn_sub (fun _ h => List.mem_cons_of_mem _ (List.mem_append_right _ h)) (by decide +kernel))
set_option maxRecDepth 20000 in
theorem gX5_keep_X5_needWithin : GoodIn wsX5_keep (va_wsS RX5 41 yX5_needWithin wsX5_needWithin) := goodIn_app (goodIn_of _ (by decide +kernel)) ggX5_keep_X5_needWithin
set_option maxRecDepth 20000 in
theorem ggX5_keep_X0_copyFrom : GoodIn wsX5_keep wsX0_copyFrom := goodIn_r _ [13, 14, 15, 16, 17, 18, 19, 20, 21, 22, 23, 24, 25, 26, 27, 40, 41, 42, 43, 44, 45, 46, 47, 48, 49] (by decide +kernel) (by decide +kernel)
set_option maxRecDepth 20000 in
theorem gX5_keep_X0_copyFrom : GoodIn wsX5_keep (wsV RX5 152 RX0 yX0_copyFrom wsX0_copyFrom) := goodIn_app (goodIn_of _ (by decide +kernel)) ggX5_keep_X0_copyFrom
set_option maxRecDepth 20000 in
theorem ggX5_keep_X0_labelled : GoodIn wsX5_keep wsX0_labelled := goodIn_r _ [31, 19, 40, 41, 42, 43, 44, 45, 46, 47, 48, 49] (by decide +kernel) (by decide +kernel)
set_option maxRecDepth 20000 in
theorem gX5_keep_X0_labelled : GoodIn wsX5_keep (wsV RX5 159 RX0 yX0_labelled wsX0_labelled) := goodIn_app (goodIn_of _ (by decide +kernel)) ggX5_keep_X0_labelled
theorem dX5_keep_0 : decode cX5_keep 0 = .ok (.iload_n 1, 1) := by decide +kernel
theorem dX5_keep_1 : decode cX5_keep 1 = .ok (.iconst 0, 1) := by decide +kernel
theorem dX5_keep_2 : decode cX5_keep 2 = .ok (.iconst 1, 1) := by decide +kernel
theorem dX5_keep_3 : decode cX5_keep 3 = .ok (.invokestatic 41, 3) := by decide +kernel
theorem dX5_keep_6 : decode cX5_keep 6 = .ok (.aload_n 0, 1) := by decide +kernel
theorem dX5_keep_7 : decode cX5_keep 7 = .ok (.getfield 19, 3) := by decide +kernel
theorem dX5_keep_10 : decode cX5_keep 10 = .ok (.getfield 148, 3) := by decide +kernel
theorem dX5_keep_13 : decode cX5_keep 13 = .ok (.iload_n 1, 1) := by decide +kernel
theorem dX5_keep_14 : decode cX5_keep 14 = .ok (.aaload, 1) := by decide +kernel
theorem dX5_keep_15 : decode cX5_keep 15 = .ok (.aload_n 0, 1) := by decide +kernel
theorem dX5_keep_16 : decode cX5_keep 16 = .ok (.getfield 12, 3) := by decide +kernel
theorem dX5_keep_19 : decode cX5_keep 19 = .ok (.invokevirtual 152, 3) := by decide +kernel
theorem dX5_keep_22 : decode cX5_keep 22 = .ok (.aload_n 0, 1) := by decide +kernel
theorem dX5_keep_23 : decode cX5_keep 23 = .ok (.getfield 19, 3) := by decide +kernel
theorem dX5_keep_26 : decode cX5_keep 26 = .ok (.getfield 155, 3) := by decide +kernel
theorem dX5_keep_29 : decode cX5_keep 29 = .ok (.iload_n 1, 1) := by decide +kernel
theorem dX5_keep_30 : decode cX5_keep 30 = .ok (.iconst 1, 1) := by decide +kernel
theorem dX5_keep_31 : decode cX5_keep 31 = .ok (.bastore, 1) := by decide +kernel
theorem dX5_keep_32 : decode cX5_keep 32 = .ok (.aload_n 0, 1) := by decide +kernel
theorem dX5_keep_33 : decode cX5_keep 33 = .ok (.getfield 12, 3) := by decide +kernel
theorem dX5_keep_36 : decode cX5_keep 36 = .ok (.invokevirtual 159, 3) := by decide +kernel
theorem dX5_keep_39 : decode cX5_keep 39 = .ok (.ireturn, 1) := by decide +kernel
set_option maxRecDepth 20000 in
theorem ggX5_goBack_X5_needWithin : GoodIn wsX5_goBack wsX5_needWithin := goodIn_ca (goodIn_r _ [8, 9, 10] (by decide +kernel) (by decide +kernel)) (goodIn_sub (fun _ h => List.mem_cons_of_mem _ (List.mem_append_right _ h)) (by decide +kernel))
set_option maxRecDepth 20000 in
theorem gX5_goBack_X5_needWithin : GoodIn wsX5_goBack (va_wsS RX5 41 yX5_needWithin wsX5_needWithin) := goodIn_app (goodIn_of _ (by decide +kernel)) ggX5_goBack_X5_needWithin
set_option maxRecDepth 20000 in
theorem ggX5_goBack_X3_save : GoodIn wsX5_goBack wsX3_save := goodIn_r _ [15, 16, 17, 18, 19, 20, 14, 21, 22, 23, 24, 25, 26, 27, 28, 29, 30, 31, 32, 33, 34, 35, 36, 37, 38, 39, 40, 50, 51, 52, 53, 54, 55, 56, 57, 58, 59, 60, 61, 62, 63] (by decide +kernel) (by decide +kernel)
set_option maxRecDepth 20000 in
theorem gX5_goBack_X3_save : GoodIn wsX5_goBack (wsV RX5 45 RX3 yX3_save wsX3_save) := goodIn_app (goodIn_of _ (by decide +kernel)) ggX5_goBack_X3_save
set_option maxRecDepth 20000 in
theorem ggX5_goBack_X0_copyFrom : GoodIn wsX5_goBack wsX0_copyFrom := goodIn_r _ [26, 27, 28, 29, 30, 31, 32, 33, 34, 35, 36, 37, 38, 39, 40, 54, 55, 56, 57, 58, 59, 60, 61, 62, 63] (by decide +kernel) (by decide +kernel)
set_option maxRecDepth 20000 in
theorem gX5_goBack_X0_copyFrom : GoodIn wsX5_goBack (wsV RX5 152 RX0 yX0_copyFrom wsX0_copyFrom) := goodIn_app (goodIn_of _ (by decide +kernel)) ggX5_goBack_X0_copyFrom
set_option maxRecDepth 20000 in
theorem ggX5_goBack_X0_labelled : GoodIn wsX5_goBack wsX0_labelled := goodIn_r _ [45, 32, 54, 55, 56, 57, 58, 59, 60, 61, 62, 63] (by decide +kernel) (by decide +kernel)
set_option maxRecDepth 20000 in
theorem gX5_goBack_X0_labelled : GoodIn wsX5_goBack (wsV RX5 159 RX0 yX0_labelled wsX0_labelled) := goodIn_app (goodIn_of _ (by decide +kernel)) ggX5_goBack_X0_labelled
theorem dX5_goBack_0 : decode cX5_goBack 0 = .ok (.iload_n 1, 1) := by decide +kernel
theorem dX5_goBack_1 : decode cX5_goBack 1 = .ok (.iconst 0, 1) := by decide +kernel
theorem dX5_goBack_2 : decode cX5_goBack 2 = .ok (.iconst 1, 1) := by decide +kernel
theorem dX5_goBack_3 : decode cX5_goBack 3 = .ok (.invokestatic 41, 3) := by decide +kernel
theorem dX5_goBack_6 : decode cX5_goBack 6 = .ok (.aload_n 0, 1) := by decide +kernel
theorem dX5_goBack_7 : decode cX5_goBack 7 = .ok (.getfield 19, 3) := by decide +kernel
theorem dX5_goBack_10 : decode cX5_goBack 10 = .ok (.getfield 155, 3) := by decide +kernel
theorem dX5_goBack_13 : decode cX5_goBack 13 = .ok (.iload_n 1, 1) := by decide +kernel
theorem dX5_goBack_14 : decode cX5_goBack 14 = .ok (.baload, 1) := by decide +kernel
theorem dX5_goBack_15 : decode cX5_goBack 15 = .ok (.ifCond .ne 13, 3) := by decide +kernel
theorem dX5_goBack_18 : decode cX5_goBack 18 = .ok (.new 114, 3) := by decide +kernel
theorem dX5_goBack_21 : decode cX5_goBack 21 = .ok (.dup, 1) := by decide +kernel
theorem dX5_goBack_22 : decode cX5_goBack 22 = .ok (.ldc 162, 2) := by decide +kernel
theorem dX5_goBack_24 : decode cX5_goBack 24 = .ok (.invokespecial 118, 3) := by decide +kernel
theorem dX5_goBack_27 : decode cX5_goBack 27 = .ok (.athrow, 1) := by decide +kernel
theorem dX5_goBack_28 : decode cX5_goBack 28 = .ok (.aload_n 0, 1) := by decide +kernel
theorem dX5_goBack_29 : decode cX5_goBack 29 = .ok (.getfield 19, 3) := by decide +kernel
theorem dX5_goBack_32 : decode cX5_goBack 32 = .ok (.aload_n 0, 1) := by decide +kernel
theorem dX5_goBack_33 : decode cX5_goBack 33 = .ok (.getfield 12, 3) := by decide +kernel
theorem dX5_goBack_36 : decode cX5_goBack 36 = .ok (.invokevirtual 45, 3) := by decide +kernel
theorem dX5_goBack_39 : decode cX5_goBack 39 = .ok (.aload_n 0, 1) := by decide +kernel
theorem dX5_goBack_40 : decode cX5_goBack 40 = .ok (.getfield 12, 3) := by decide +kernel
theorem dX5_goBack_43 : decode cX5_goBack 43 = .ok (.aload_n 0, 1) := by decide +kernel
theorem dX5_goBack_44 : decode cX5_goBack 44 = .ok (.getfield 19, 3) := by decide +kernel
theorem dX5_goBack_47 : decode cX5_goBack 47 = .ok (.getfield 148, 3) := by decide +kernel
theorem dX5_goBack_50 : decode cX5_goBack 50 = .ok (.iload_n 1, 1) := by decide +kernel
theorem dX5_goBack_51 : decode cX5_goBack 51 = .ok (.aaload, 1) := by decide +kernel
theorem dX5_goBack_52 : decode cX5_goBack 52 = .ok (.invokevirtual 152, 3) := by decide +kernel
theorem dX5_goBack_55 : decode cX5_goBack 55 = .ok (.aload_n 0, 1) := by decide +kernel
theorem dX5_goBack_56 : decode cX5_goBack 56 = .ok (.getfield 12, 3) := by decide +kernel
theorem dX5_goBack_59 : decode cX5_goBack 59 = .ok (.invokevirtual 159, 3) := by decide +kernel
theorem dX5_goBack_62 : decode cX5_goBack 62 = .ok (.ireturn, 1) := by decide +kernel
set_option maxRecDepth 20000 in
theorem ggX5_undo_X3_restore : GoodIn wsX5_undo wsX3_restore := goodIn_r _ [9, 10, 11, 12, 13, 14, 15, 16, 17, 18, 19, 20, 21, 22, 23, 24, 25, 26, 27, 28, 29, 30, 35, 36, 37, 38, 39, 40, 41, 42, 43, 44, 45, 46, 47, 48] (by decide +kernel) (by decide +kernel)
set_option maxRecDepth 20000 in
theorem gX5_undo_X3_restore : GoodIn wsX5_undo (wsV RX5 169 RX3 yX3_restore wsX3_restore) := goodIn_app (goodIn_of _ (by decide +kernel)) ggX5_undo_X3_restore
theorem dX5_undo_0 : decode cX5_undo 0 = .ok (.aload_n 0, 1) := by decide +kernel
theorem dX5_undo_1 : decode cX5_undo 1 = .ok (.getfield 19, 3) := by decide +kernel
theorem dX5_undo_4 : decode cX5_undo 4 = .ok (.getfield 164, 3) := by decide +kernel
theorem dX5_undo_7 : decode cX5_undo 7 = .ok (.ifCond .gt 13, 3) := by decide +kernel
theorem dX5_undo_10 : decode cX5_undo 10 = .ok (.new 114, 3) := by decide +kernel
theorem dX5_undo_13 : decode cX5_undo 13 = .ok (.dup, 1) := by decide +kernel
theorem dX5_undo_14 : decode cX5_undo 14 = .ok (.ldc 167, 2) := by decide +kernel
theorem dX5_undo_16 : decode cX5_undo 16 = .ok (.invokespecial 118, 3) := by decide +kernel
theorem dX5_undo_19 : decode cX5_undo 19 = .ok (.athrow, 1) := by decide +kernel
theorem dX5_undo_20 : decode cX5_undo 20 = .ok (.aload_n 0, 1) := by decide +kernel
theorem dX5_undo_21 : decode cX5_undo 21 = .ok (.getfield 19, 3) := by decide +kernel
theorem dX5_undo_24 : decode cX5_undo 24 = .ok (.aload_n 0, 1) := by decide +kernel
theorem dX5_undo_25 : decode cX5_undo 25 = .ok (.getfield 12, 3) := by decide +kernel
theorem dX5_undo_28 : decode cX5_undo 28 = .ok (.invokevirtual 169, 3) := by decide +kernel
theorem dX5_undo_31 : decode cX5_undo 31 = .ok (.aload_n 0, 1) := by decide +kernel
theorem dX5_undo_32 : decode cX5_undo 32 = .ok (.getfield 19, 3) := by decide +kernel
theorem dX5_undo_35 : decode cX5_undo 35 = .ok (.getfield 164, 3) := by decide +kernel
theorem dX5_undo_38 : decode cX5_undo 38 = .ok (.ireturn, 1) := by decide +kernel
set_option maxRecDepth 20000 in
theorem ggX5_potOf_X5_needPot : GoodIn wsX5_potOf wsX5_needPot := goodIn_ca (goodIn_r _ [5, 6, 7] (by decide +kernel) (by decide +kernel)) (goodIn_sub (fun _ h => List.mem_cons_of_mem _ (List.mem_append_left _ (List.mem_append_right _ h))) (by decide +kernel))
set_option maxRecDepth 20000 in
theorem gX5_potOf_X5_needPot : GoodIn wsX5_potOf (va_wsS RX5 37 yX5_needPot wsX5_needPot) := goodIn_app (goodIn_of _ (by decide +kernel)) ggX5_potOf_X5_needPot
set_option maxRecDepth 20000 in
theorem ggX5_potOf_X5_needWithin : GoodIn wsX5_potOf wsX5_needWithin := goodIn_ca (goodIn_r _ [10, 11, 12] (by decide +kernel) (by decide +kernel)) (goodIn_sub (fun _ h => List.mem_cons_of_mem _ (List.mem_append_right _ h)) (by decide +kernel))
set_option maxRecDepth 20000 in
theorem gX5_potOf_X5_needWithin : GoodIn wsX5_potOf (va_wsS RX5 41 yX5_needWithin wsX5_needWithin) := goodIn_app (goodIn_of _ (by decide +kernel)) ggX5_potOf_X5_needWithin
set_option maxRecDepth 20000 in
theorem ggX5_potOf_X1_partOf : GoodIn wsX5_potOf wsX1_partOf := goodIn_r _ [16] (by decide +kernel) (by decide +kernel)
set_option maxRecDepth 20000 in
theorem gX5_potOf_X1_partOf : GoodIn wsX5_potOf (va_wsS RX5 53 yX1_partOf wsX1_partOf) := goodIn_app (goodIn_of _ (by decide +kernel)) ggX5_potOf_X1_partOf
set_option maxRecDepth 20000 in
theorem ggX5_potOf_X0_tellersOf : GoodIn wsX5_potOf wsX0_tellersOf := goodIn_r _ [21, 22, 23, 24, 20, 25, 26, 27, 28, 29, 30, 31, 32, 33, 34, 35, 15, 36, 37, 38, 39, 40, 41, 42, 43, 48, 49, 50, 51, 52, 53, 54, 55, 56, 57] (by decide +kernel) (by decide +kernel)
set_option maxRecDepth 20000 in
theorem gX5_potOf_X0_tellersOf : GoodIn wsX5_potOf (wsV RX5 172 RX0 yX0_tellersOf wsX0_tellersOf) := goodIn_app (goodIn_of _ (by decide +kernel)) ggX5_potOf_X0_tellersOf
theorem dX5_potOf_0 : decode cX5_potOf 0 = .ok (.iload_n 1, 1) := by decide +kernel
theorem dX5_potOf_1 : decode cX5_potOf 1 = .ok (.invokestatic 37, 3) := by decide +kernel
theorem dX5_potOf_4 : decode cX5_potOf 4 = .ok (.iload_n 2, 1) := by decide +kernel
theorem dX5_potOf_5 : decode cX5_potOf 5 = .ok (.iconst 0, 1) := by decide +kernel
theorem dX5_potOf_6 : decode cX5_potOf 6 = .ok (.iconst 4, 1) := by decide +kernel
theorem dX5_potOf_7 : decode cX5_potOf 7 = .ok (.invokestatic 41, 3) := by decide +kernel
theorem dX5_potOf_10 : decode cX5_potOf 10 = .ok (.iload_n 2, 1) := by decide +kernel
theorem dX5_potOf_11 : decode cX5_potOf 11 = .ok (.iconst 3, 1) := by decide +kernel
theorem dX5_potOf_12 : decode cX5_potOf 12 = .ok (.if_icmp .ge 17, 3) := by decide +kernel
theorem dX5_potOf_15 : decode cX5_potOf 15 = .ok (.aload_n 0, 1) := by decide +kernel
theorem dX5_potOf_16 : decode cX5_potOf 16 = .ok (.getfield 12, 3) := by decide +kernel
theorem dX5_potOf_19 : decode cX5_potOf 19 = .ok (.getfield 49, 3) := by decide +kernel
theorem dX5_potOf_22 : decode cX5_potOf 22 = .ok (.iload_n 1, 1) := by decide +kernel
theorem dX5_potOf_23 : decode cX5_potOf 23 = .ok (.iaload, 1) := by decide +kernel
theorem dX5_potOf_24 : decode cX5_potOf 24 = .ok (.iload_n 2, 1) := by decide +kernel
theorem dX5_potOf_25 : decode cX5_potOf 25 = .ok (.invokestatic 53, 3) := by decide +kernel
theorem dX5_potOf_28 : decode cX5_potOf 28 = .ok (.ireturn, 1) := by decide +kernel
theorem dX5_potOf_29 : decode cX5_potOf 29 = .ok (.iload_n 2, 1) := by decide +kernel
theorem dX5_potOf_30 : decode cX5_potOf 30 = .ok (.iconst 3, 1) := by decide +kernel
theorem dX5_potOf_31 : decode cX5_potOf 31 = .ok (.if_icmp .ne 15, 3) := by decide +kernel
theorem dX5_potOf_34 : decode cX5_potOf 34 = .ok (.aload_n 0, 1) := by decide +kernel
theorem dX5_potOf_35 : decode cX5_potOf 35 = .ok (.getfield 12, 3) := by decide +kernel
theorem dX5_potOf_38 : decode cX5_potOf 38 = .ok (.getfield 75, 3) := by decide +kernel
theorem dX5_potOf_41 : decode cX5_potOf 41 = .ok (.iload_n 1, 1) := by decide +kernel
theorem dX5_potOf_42 : decode cX5_potOf 42 = .ok (.iaload, 1) := by decide +kernel
theorem dX5_potOf_43 : decode cX5_potOf 43 = .ok (.goto 11, 3) := by decide +kernel
theorem dX5_potOf_46 : decode cX5_potOf 46 = .ok (.aload_n 0, 1) := by decide +kernel
theorem dX5_potOf_47 : decode cX5_potOf 47 = .ok (.getfield 12, 3) := by decide +kernel
theorem dX5_potOf_50 : decode cX5_potOf 50 = .ok (.iload_n 1, 1) := by decide +kernel
theorem dX5_potOf_51 : decode cX5_potOf 51 = .ok (.invokevirtual 172, 3) := by decide +kernel
theorem dX5_potOf_54 : decode cX5_potOf 54 = .ok (.ireturn, 1) := by decide +kernel
