theorem dX0_init_0 : decode cX0_init 0 = .ok (.aload_n 0, 1) := by decide +kernel
theorem dX0_init_1 : decode cX0_init 1 = .ok (.invokespecial 3, 3) := by decide +kernel
theorem dX0_init_4 : decode cX0_init 4 = .ok (.aload_n 0, 1) := by decide +kernel
theorem dX0_init_5 : decode cX0_init 5 = .ok (.bipush 8, 2) := by decide +kernel
theorem dX0_init_7 : decode cX0_init 7 = .ok (.newarray .int, 2) := by decide +kernel
theorem dX0_init_9 : decode cX0_init 9 = .ok (.putfield 9, 3) := by decide +kernel
theorem dX0_init_12 : decode cX0_init 12 = .ok (.aload_n 0, 1) := by decide +kernel
theorem dX0_init_13 : decode cX0_init 13 = .ok (.bipush 8, 2) := by decide +kernel
theorem dX0_init_15 : decode cX0_init 15 = .ok (.newarray .int, 2) := by decide +kernel
theorem dX0_init_17 : decode cX0_init 17 = .ok (.putfield 15, 3) := by decide +kernel
theorem dX0_init_20 : decode cX0_init 20 = .ok (.aload_n 0, 1) := by decide +kernel
theorem dX0_init_21 : decode cX0_init 21 = .ok (.iconst 4, 1) := by decide +kernel
theorem dX0_init_22 : decode cX0_init 22 = .ok (.newarray .int, 2) := by decide +kernel
theorem dX0_init_24 : decode cX0_init 24 = .ok (.putfield 18, 3) := by decide +kernel
theorem dX0_init_27 : decode cX0_init 27 = .ok (.aload_n 0, 1) := by decide +kernel
theorem dX0_init_28 : decode cX0_init 28 = .ok (.iconst 4, 1) := by decide +kernel
theorem dX0_init_29 : decode cX0_init 29 = .ok (.newarray .int, 2) := by decide +kernel
theorem dX0_init_31 : decode cX0_init 31 = .ok (.putfield 21, 3) := by decide +kernel
theorem dX0_init_34 : decode cX0_init 34 = .ok (.aload_n 0, 1) := by decide +kernel
theorem dX0_init_35 : decode cX0_init 35 = .ok (.iconst 4, 1) := by decide +kernel
theorem dX0_init_36 : decode cX0_init 36 = .ok (.newarray .int, 2) := by decide +kernel
theorem dX0_init_38 : decode cX0_init 38 = .ok (.putfield 24, 3) := by decide +kernel
theorem dX0_init_41 : decode cX0_init 41 = .ok (.aload_n 0, 1) := by decide +kernel
theorem dX0_init_42 : decode cX0_init 42 = .ok (.bipush 6, 2) := by decide +kernel
theorem dX0_init_44 : decode cX0_init 44 = .ok (.newarray .int, 2) := by decide +kernel
theorem dX0_init_46 : decode cX0_init 46 = .ok (.putfield 27, 3) := by decide +kernel
theorem dX0_init_49 : decode cX0_init 49 = .ok (.aload_n 0, 1) := by decide +kernel
theorem dX0_init_50 : decode cX0_init 50 = .ok (.bipush 6, 2) := by decide +kernel
theorem dX0_init_52 : decode cX0_init 52 = .ok (.newarray .int, 2) := by decide +kernel
theorem dX0_init_54 : decode cX0_init 54 = .ok (.putfield 30, 3) := by decide +kernel
theorem dX0_init_57 : decode cX0_init 57 = .ok (.iconst 0, 1) := by decide +kernel
theorem dX0_init_58 : decode cX0_init 58 = .ok (.istore_n 1, 1) := by decide +kernel
theorem dX0_init_59 : decode cX0_init 59 = .ok (.iload_n 1, 1) := by decide +kernel
theorem dX0_init_60 : decode cX0_init 60 = .ok (.bipush 8, 2) := by decide +kernel
theorem dX0_init_62 : decode cX0_init 62 = .ok (.if_icmp .ge 16, 3) := by decide +kernel
theorem dX0_init_65 : decode cX0_init 65 = .ok (.aload_n 0, 1) := by decide +kernel
theorem dX0_init_66 : decode cX0_init 66 = .ok (.getfield 15, 3) := by decide +kernel
theorem dX0_init_69 : decode cX0_init 69 = .ok (.iload_n 1, 1) := by decide +kernel
theorem dX0_init_70 : decode cX0_init 70 = .ok (.iconst (-1), 1) := by decide +kernel
theorem dX0_init_71 : decode cX0_init 71 = .ok (.iastore, 1) := by decide +kernel
theorem dX0_init_72 : decode cX0_init 72 = .ok (.iinc 1 1, 3) := by decide +kernel
theorem dX0_init_75 : decode cX0_init 75 = .ok (.goto (-16), 3) := by decide +kernel
theorem dX0_init_78 : decode cX0_init 78 = .ok (.iconst 0, 1) := by decide +kernel
theorem dX0_init_79 : decode cX0_init 79 = .ok (.istore_n 1, 1) := by decide +kernel
theorem dX0_init_80 : decode cX0_init 80 = .ok (.iload_n 1, 1) := by decide +kernel
theorem dX0_init_81 : decode cX0_init 81 = .ok (.iconst 4, 1) := by decide +kernel
theorem dX0_init_82 : decode cX0_init 82 = .ok (.if_icmp .ge 30, 3) := by decide +kernel
theorem dX0_init_85 : decode cX0_init 85 = .ok (.aload_n 0, 1) := by decide +kernel
theorem dX0_init_86 : decode cX0_init 86 = .ok (.getfield 18, 3) := by decide +kernel
theorem dX0_init_89 : decode cX0_init 89 = .ok (.iload_n 1, 1) := by decide +kernel
theorem dX0_init_90 : decode cX0_init 90 = .ok (.iload_n 1, 1) := by decide +kernel
theorem dX0_init_91 : decode cX0_init 91 = .ok (.iastore, 1) := by decide +kernel
theorem dX0_init_92 : decode cX0_init 92 = .ok (.aload_n 0, 1) := by decide +kernel
theorem dX0_init_93 : decode cX0_init 93 = .ok (.getfield 21, 3) := by decide +kernel
theorem dX0_init_96 : decode cX0_init 96 = .ok (.iload_n 1, 1) := by decide +kernel
theorem dX0_init_97 : decode cX0_init 97 = .ok (.iconst 3, 1) := by decide +kernel
theorem dX0_init_98 : decode cX0_init 98 = .ok (.iastore, 1) := by decide +kernel
theorem dX0_init_99 : decode cX0_init 99 = .ok (.aload_n 0, 1) := by decide +kernel
theorem dX0_init_100 : decode cX0_init 100 = .ok (.getfield 24, 3) := by decide +kernel
theorem dX0_init_103 : decode cX0_init 103 = .ok (.iload_n 1, 1) := by decide +kernel
theorem dX0_init_104 : decode cX0_init 104 = .ok (.iconst (-1), 1) := by decide +kernel
theorem dX0_init_105 : decode cX0_init 105 = .ok (.iastore, 1) := by decide +kernel
theorem dX0_init_106 : decode cX0_init 106 = .ok (.iinc 1 1, 3) := by decide +kernel
theorem dX0_init_109 : decode cX0_init 109 = .ok (.goto (-29), 3) := by decide +kernel
theorem dX0_init_112 : decode cX0_init 112 = .ok (.return_, 1) := by decide +kernel
theorem dX0_copyFrom_0 : decode cX0_copyFrom 0 = .ok (.aload_n 1, 1) := by decide +kernel
theorem dX0_copyFrom_1 : decode cX0_copyFrom 1 = .ok (.getfield 9, 3) := by decide +kernel
theorem dX0_copyFrom_4 : decode cX0_copyFrom 4 = .ok (.iconst 0, 1) := by decide +kernel
theorem dX0_copyFrom_5 : decode cX0_copyFrom 5 = .ok (.aload_n 0, 1) := by decide +kernel
theorem dX0_copyFrom_6 : decode cX0_copyFrom 6 = .ok (.getfield 9, 3) := by decide +kernel
theorem dX0_copyFrom_9 : decode cX0_copyFrom 9 = .ok (.iconst 0, 1) := by decide +kernel
theorem dX0_copyFrom_10 : decode cX0_copyFrom 10 = .ok (.bipush 8, 2) := by decide +kernel
theorem dX0_copyFrom_12 : decode cX0_copyFrom 12 = .ok (.invokestatic 33, 3) := by decide +kernel
theorem dX0_copyFrom_15 : decode cX0_copyFrom 15 = .ok (.aload_n 1, 1) := by decide +kernel
theorem dX0_copyFrom_16 : decode cX0_copyFrom 16 = .ok (.getfield 15, 3) := by decide +kernel
theorem dX0_copyFrom_19 : decode cX0_copyFrom 19 = .ok (.iconst 0, 1) := by decide +kernel
theorem dX0_copyFrom_20 : decode cX0_copyFrom 20 = .ok (.aload_n 0, 1) := by decide +kernel
theorem dX0_copyFrom_21 : decode cX0_copyFrom 21 = .ok (.getfield 15, 3) := by decide +kernel
theorem dX0_copyFrom_24 : decode cX0_copyFrom 24 = .ok (.iconst 0, 1) := by decide +kernel
theorem dX0_copyFrom_25 : decode cX0_copyFrom 25 = .ok (.bipush 8, 2) := by decide +kernel
theorem dX0_copyFrom_27 : decode cX0_copyFrom 27 = .ok (.invokestatic 33, 3) := by decide +kernel
theorem dX0_copyFrom_30 : decode cX0_copyFrom 30 = .ok (.aload_n 1, 1) := by decide +kernel
theorem dX0_copyFrom_31 : decode cX0_copyFrom 31 = .ok (.getfield 18, 3) := by decide +kernel
theorem dX0_copyFrom_34 : decode cX0_copyFrom 34 = .ok (.iconst 0, 1) := by decide +kernel
theorem dX0_copyFrom_35 : decode cX0_copyFrom 35 = .ok (.aload_n 0, 1) := by decide +kernel
theorem dX0_copyFrom_36 : decode cX0_copyFrom 36 = .ok (.getfield 18, 3) := by decide +kernel
theorem dX0_copyFrom_39 : decode cX0_copyFrom 39 = .ok (.iconst 0, 1) := by decide +kernel
theorem dX0_copyFrom_40 : decode cX0_copyFrom 40 = .ok (.iconst 4, 1) := by decide +kernel
theorem dX0_copyFrom_41 : decode cX0_copyFrom 41 = .ok (.invokestatic 33, 3) := by decide +kernel
theorem dX0_copyFrom_44 : decode cX0_copyFrom 44 = .ok (.aload_n 1, 1) := by decide +kernel
theorem dX0_copyFrom_45 : decode cX0_copyFrom 45 = .ok (.getfield 21, 3) := by decide +kernel
theorem dX0_copyFrom_48 : decode cX0_copyFrom 48 = .ok (.iconst 0, 1) := by decide +kernel
theorem dX0_copyFrom_49 : decode cX0_copyFrom 49 = .ok (.aload_n 0, 1) := by decide +kernel
theorem dX0_copyFrom_50 : decode cX0_copyFrom 50 = .ok (.getfield 21, 3) := by decide +kernel
theorem dX0_copyFrom_53 : decode cX0_copyFrom 53 = .ok (.iconst 0, 1) := by decide +kernel
theorem dX0_copyFrom_54 : decode cX0_copyFrom 54 = .ok (.iconst 4, 1) := by decide +kernel
theorem dX0_copyFrom_55 : decode cX0_copyFrom 55 = .ok (.invokestatic 33, 3) := by decide +kernel
theorem dX0_copyFrom_58 : decode cX0_copyFrom 58 = .ok (.aload_n 1, 1) := by decide +kernel
theorem dX0_copyFrom_59 : decode cX0_copyFrom 59 = .ok (.getfield 24, 3) := by decide +kernel
theorem dX0_copyFrom_62 : decode cX0_copyFrom 62 = .ok (.iconst 0, 1) := by decide +kernel
theorem dX0_copyFrom_63 : decode cX0_copyFrom 63 = .ok (.aload_n 0, 1) := by decide +kernel
theorem dX0_copyFrom_64 : decode cX0_copyFrom 64 = .ok (.getfield 24, 3) := by decide +kernel
theorem dX0_copyFrom_67 : decode cX0_copyFrom 67 = .ok (.iconst 0, 1) := by decide +kernel
theorem dX0_copyFrom_68 : decode cX0_copyFrom 68 = .ok (.iconst 4, 1) := by decide +kernel
theorem dX0_copyFrom_69 : decode cX0_copyFrom 69 = .ok (.invokestatic 33, 3) := by decide +kernel
theorem dX0_copyFrom_72 : decode cX0_copyFrom 72 = .ok (.aload_n 1, 1) := by decide +kernel
theorem dX0_copyFrom_73 : decode cX0_copyFrom 73 = .ok (.getfield 27, 3) := by decide +kernel
theorem dX0_copyFrom_76 : decode cX0_copyFrom 76 = .ok (.iconst 0, 1) := by decide +kernel
theorem dX0_copyFrom_77 : decode cX0_copyFrom 77 = .ok (.aload_n 0, 1) := by decide +kernel
theorem dX0_copyFrom_78 : decode cX0_copyFrom 78 = .ok (.getfield 27, 3) := by decide +kernel
theorem dX0_copyFrom_81 : decode cX0_copyFrom 81 = .ok (.iconst 0, 1) := by decide +kernel
theorem dX0_copyFrom_82 : decode cX0_copyFrom 82 = .ok (.bipush 6, 2) := by decide +kernel
theorem dX0_copyFrom_84 : decode cX0_copyFrom 84 = .ok (.invokestatic 33, 3) := by decide +kernel
theorem dX0_copyFrom_87 : decode cX0_copyFrom 87 = .ok (.aload_n 1, 1) := by decide +kernel
theorem dX0_copyFrom_88 : decode cX0_copyFrom 88 = .ok (.getfield 30, 3) := by decide +kernel
theorem dX0_copyFrom_91 : decode cX0_copyFrom 91 = .ok (.iconst 0, 1) := by decide +kernel
theorem dX0_copyFrom_92 : decode cX0_copyFrom 92 = .ok (.aload_n 0, 1) := by decide +kernel
theorem dX0_copyFrom_93 : decode cX0_copyFrom 93 = .ok (.getfield 30, 3) := by decide +kernel
theorem dX0_copyFrom_96 : decode cX0_copyFrom 96 = .ok (.iconst 0, 1) := by decide +kernel
theorem dX0_copyFrom_97 : decode cX0_copyFrom 97 = .ok (.bipush 6, 2) := by decide +kernel
theorem dX0_copyFrom_99 : decode cX0_copyFrom 99 = .ok (.invokestatic 33, 3) := by decide +kernel
theorem dX0_copyFrom_102 : decode cX0_copyFrom 102 = .ok (.aload_n 0, 1) := by decide +kernel
theorem dX0_copyFrom_103 : decode cX0_copyFrom 103 = .ok (.aload_n 1, 1) := by decide +kernel
theorem dX0_copyFrom_104 : decode cX0_copyFrom 104 = .ok (.getfield 39, 3) := by decide +kernel
theorem dX0_copyFrom_107 : decode cX0_copyFrom 107 = .ok (.putfield 39, 3) := by decide +kernel
theorem dX0_copyFrom_110 : decode cX0_copyFrom 110 = .ok (.aload_n 0, 1) := by decide +kernel
theorem dX0_copyFrom_111 : decode cX0_copyFrom 111 = .ok (.aload_n 1, 1) := by decide +kernel
theorem dX0_copyFrom_112 : decode cX0_copyFrom 112 = .ok (.getfield 43, 3) := by decide +kernel
theorem dX0_copyFrom_115 : decode cX0_copyFrom 115 = .ok (.putfield 43, 3) := by decide +kernel
theorem dX0_copyFrom_118 : decode cX0_copyFrom 118 = .ok (.aload_n 0, 1) := by decide +kernel
theorem dX0_copyFrom_119 : decode cX0_copyFrom 119 = .ok (.aload_n 1, 1) := by decide +kernel
theorem dX0_copyFrom_120 : decode cX0_copyFrom 120 = .ok (.getfield 46, 3) := by decide +kernel
theorem dX0_copyFrom_123 : decode cX0_copyFrom 123 = .ok (.putfield 46, 3) := by decide +kernel
theorem dX0_copyFrom_126 : decode cX0_copyFrom 126 = .ok (.return_, 1) := by decide +kernel
set_option maxRecDepth 20000 in
theorem ggX0_tells_X0_tellsColours : GoodIn wsX0_tells wsX0_tellsColours := goodIn_r _ [7, 8, 9, 10, 11, 12, 13, 14, 15, 16, 17, 18, 19, 20, 21, 22, 23, 24, 25, 26, 27, 28, 29, 30] (by decide +kernel) (by decide +kernel)
set_option maxRecDepth 20000 in
theorem gX0_tells_X0_tellsColours : GoodIn wsX0_tells (wsV RX0 49 RX0 yX0_tellsColours wsX0_tellsColours) := goodIn_app (goodIn_of _ (by decide +kernel)) ggX0_tells_X0_tellsColours
theorem dX0_tells_0 : decode cX0_tells 0 = .ok (.aload_n 0, 1) := by decide +kernel
theorem dX0_tells_1 : decode cX0_tells 1 = .ok (.iload_n 1, 1) := by decide +kernel
theorem dX0_tells_2 : decode cX0_tells 2 = .ok (.aload_n 0, 1) := by decide +kernel
theorem dX0_tells_3 : decode cX0_tells 3 = .ok (.getfield 24, 3) := by decide +kernel
theorem dX0_tells_6 : decode cX0_tells 6 = .ok (.iload_n 1, 1) := by decide +kernel
theorem dX0_tells_7 : decode cX0_tells 7 = .ok (.iaload, 1) := by decide +kernel
theorem dX0_tells_8 : decode cX0_tells 8 = .ok (.aload_n 0, 1) := by decide +kernel
theorem dX0_tells_9 : decode cX0_tells 9 = .ok (.getfield 9, 3) := by decide +kernel
theorem dX0_tells_12 : decode cX0_tells 12 = .ok (.iload_n 2, 1) := by decide +kernel
theorem dX0_tells_13 : decode cX0_tells 13 = .ok (.iaload, 1) := by decide +kernel
theorem dX0_tells_14 : decode cX0_tells 14 = .ok (.aload_n 0, 1) := by decide +kernel
theorem dX0_tells_15 : decode cX0_tells 15 = .ok (.getfield 9, 3) := by decide +kernel
theorem dX0_tells_18 : decode cX0_tells 18 = .ok (.iload_n 3, 1) := by decide +kernel
theorem dX0_tells_19 : decode cX0_tells 19 = .ok (.iaload, 1) := by decide +kernel
theorem dX0_tells_20 : decode cX0_tells 20 = .ok (.invokevirtual 49, 3) := by decide +kernel
theorem dX0_tells_23 : decode cX0_tells 23 = .ok (.ireturn, 1) := by decide +kernel
set_option maxRecDepth 20000 in
theorem ggX0_tellsColours_X1_distance : GoodIn wsX0_tellsColours wsX1_distance := goodIn_r _ [6, 7, 8, 9, 10, 11, 12, 5, 13] (by decide +kernel) (by decide +kernel)
set_option maxRecDepth 20000 in
theorem gX0_tellsColours_X1_distance : GoodIn wsX0_tellsColours (va_wsS RX0 53 yX1_distance wsX1_distance) := goodIn_app (goodIn_of _ (by decide +kernel)) ggX0_tellsColours_X1_distance
theorem dX0_tellsColours_0 : decode cX0_tellsColours 0 = .ok (.aload_n 0, 1) := by decide +kernel
theorem dX0_tellsColours_1 : decode cX0_tellsColours 1 = .ok (.getfield 21, 3) := by decide +kernel
theorem dX0_tellsColours_4 : decode cX0_tellsColours 4 = .ok (.iload_n 1, 1) := by decide +kernel
theorem dX0_tellsColours_5 : decode cX0_tellsColours 5 = .ok (.iaload, 1) := by decide +kernel
theorem dX0_tellsColours_6 : decode cX0_tellsColours 6 = .ok (.istore 5, 2) := by decide +kernel
theorem dX0_tellsColours_8 : decode cX0_tellsColours 8 = .ok (.aload_n 0, 1) := by decide +kernel
theorem dX0_tellsColours_9 : decode cX0_tellsColours 9 = .ok (.getfield 18, 3) := by decide +kernel
theorem dX0_tellsColours_12 : decode cX0_tellsColours 12 = .ok (.iload_n 1, 1) := by decide +kernel
theorem dX0_tellsColours_13 : decode cX0_tellsColours 13 = .ok (.iaload, 1) := by decide +kernel
theorem dX0_tellsColours_14 : decode cX0_tellsColours 14 = .ok (.iload_n 3, 1) := by decide +kernel
theorem dX0_tellsColours_15 : decode cX0_tellsColours 15 = .ok (.iload 4, 2) := by decide +kernel
theorem dX0_tellsColours_17 : decode cX0_tellsColours 17 = .ok (.invokestatic 53, 3) := by decide +kernel
theorem dX0_tellsColours_20 : decode cX0_tellsColours 20 = .ok (.iload 5, 2) := by decide +kernel
theorem dX0_tellsColours_22 : decode cX0_tellsColours 22 = .ok (.if_icmp .le 5, 3) := by decide +kernel
theorem dX0_tellsColours_25 : decode cX0_tellsColours 25 = .ok (.iconst 1, 1) := by decide +kernel
theorem dX0_tellsColours_26 : decode cX0_tellsColours 26 = .ok (.ireturn, 1) := by decide +kernel
theorem dX0_tellsColours_27 : decode cX0_tellsColours 27 = .ok (.iload_n 2, 1) := by decide +kernel
theorem dX0_tellsColours_28 : decode cX0_tellsColours 28 = .ok (.iconst (-1), 1) := by decide +kernel
theorem dX0_tellsColours_29 : decode cX0_tellsColours 29 = .ok (.if_icmp .eq 24, 3) := by decide +kernel
theorem dX0_tellsColours_32 : decode cX0_tellsColours 32 = .ok (.aload_n 0, 1) := by decide +kernel
theorem dX0_tellsColours_33 : decode cX0_tellsColours 33 = .ok (.getfield 18, 3) := by decide +kernel
theorem dX0_tellsColours_36 : decode cX0_tellsColours 36 = .ok (.iload_n 2, 1) := by decide +kernel
theorem dX0_tellsColours_37 : decode cX0_tellsColours 37 = .ok (.iaload, 1) := by decide +kernel
theorem dX0_tellsColours_38 : decode cX0_tellsColours 38 = .ok (.iload_n 3, 1) := by decide +kernel
theorem dX0_tellsColours_39 : decode cX0_tellsColours 39 = .ok (.iload 4, 2) := by decide +kernel
theorem dX0_tellsColours_41 : decode cX0_tellsColours 41 = .ok (.invokestatic 53, 3) := by decide +kernel
theorem dX0_tellsColours_44 : decode cX0_tellsColours 44 = .ok (.iload 5, 2) := by decide +kernel
theorem dX0_tellsColours_46 : decode cX0_tellsColours 46 = .ok (.if_icmp .le 7, 3) := by decide +kernel
theorem dX0_tellsColours_49 : decode cX0_tellsColours 49 = .ok (.iconst 1, 1) := by decide +kernel
theorem dX0_tellsColours_50 : decode cX0_tellsColours 50 = .ok (.goto 4, 3) := by decide +kernel
theorem dX0_tellsColours_53 : decode cX0_tellsColours 53 = .ok (.iconst 0, 1) := by decide +kernel
theorem dX0_tellsColours_54 : decode cX0_tellsColours 54 = .ok (.ireturn, 1) := by decide +kernel
set_option maxRecDepth 20000 in
theorem ggX0_pairsTold_X0_tellsColours : GoodIn wsX0_pairsTold wsX0_tellsColours := goodIn_r _ [6, 7, 8, 9, 10, 11, 12, 13, 14, 15, 16, 17, 18, 19, 20, 21, 22, 23, 24, 25, 26, 27, 28, 29] (by decide +kernel) (by decide +kernel)
set_option maxRecDepth 20000 in
theorem gX0_pairsTold_X0_tellsColours : GoodIn wsX0_pairsTold (wsV RX0 49 RX0 yX0_tellsColours wsX0_tellsColours) := goodIn_app (goodIn_of _ (by decide +kernel)) ggX0_pairsTold_X0_tellsColours
theorem dX0_pairsTold_0 : decode cX0_pairsTold 0 = .ok (.iconst 0, 1) := by decide +kernel
theorem dX0_pairsTold_1 : decode cX0_pairsTold 1 = .ok (.istore_n 3, 1) := by decide +kernel
theorem dX0_pairsTold_2 : decode cX0_pairsTold 2 = .ok (.iconst 0, 1) := by decide +kernel
theorem dX0_pairsTold_3 : decode cX0_pairsTold 3 = .ok (.istore 4, 2) := by decide +kernel
theorem dX0_pairsTold_5 : decode cX0_pairsTold 5 = .ok (.iload 4, 2) := by decide +kernel
theorem dX0_pairsTold_7 : decode cX0_pairsTold 7 = .ok (.bipush 8, 2) := by decide +kernel
theorem dX0_pairsTold_9 : decode cX0_pairsTold 9 = .ok (.if_icmp .ge 54, 3) := by decide +kernel
theorem dX0_pairsTold_12 : decode cX0_pairsTold 12 = .ok (.iload 4, 2) := by decide +kernel
theorem dX0_pairsTold_14 : decode cX0_pairsTold 14 = .ok (.iconst 1, 1) := by decide +kernel
theorem dX0_pairsTold_15 : decode cX0_pairsTold 15 = .ok (.iadd, 1) := by decide +kernel
theorem dX0_pairsTold_16 : decode cX0_pairsTold 16 = .ok (.istore 5, 2) := by decide +kernel
theorem dX0_pairsTold_18 : decode cX0_pairsTold 18 = .ok (.iload 5, 2) := by decide +kernel
theorem dX0_pairsTold_20 : decode cX0_pairsTold 20 = .ok (.bipush 8, 2) := by decide +kernel
theorem dX0_pairsTold_22 : decode cX0_pairsTold 22 = .ok (.if_icmp .ge 35, 3) := by decide +kernel
theorem dX0_pairsTold_25 : decode cX0_pairsTold 25 = .ok (.aload_n 0, 1) := by decide +kernel
theorem dX0_pairsTold_26 : decode cX0_pairsTold 26 = .ok (.iload_n 1, 1) := by decide +kernel
theorem dX0_pairsTold_27 : decode cX0_pairsTold 27 = .ok (.iload_n 2, 1) := by decide +kernel
theorem dX0_pairsTold_28 : decode cX0_pairsTold 28 = .ok (.aload_n 0, 1) := by decide +kernel
theorem dX0_pairsTold_29 : decode cX0_pairsTold 29 = .ok (.getfield 9, 3) := by decide +kernel
theorem dX0_pairsTold_32 : decode cX0_pairsTold 32 = .ok (.iload 4, 2) := by decide +kernel
theorem dX0_pairsTold_34 : decode cX0_pairsTold 34 = .ok (.iaload, 1) := by decide +kernel
theorem dX0_pairsTold_35 : decode cX0_pairsTold 35 = .ok (.aload_n 0, 1) := by decide +kernel
theorem dX0_pairsTold_36 : decode cX0_pairsTold 36 = .ok (.getfield 9, 3) := by decide +kernel
theorem dX0_pairsTold_39 : decode cX0_pairsTold 39 = .ok (.iload 5, 2) := by decide +kernel
theorem dX0_pairsTold_41 : decode cX0_pairsTold 41 = .ok (.iaload, 1) := by decide +kernel
theorem dX0_pairsTold_42 : decode cX0_pairsTold 42 = .ok (.invokevirtual 49, 3) := by decide +kernel
theorem dX0_pairsTold_45 : decode cX0_pairsTold 45 = .ok (.ifCond .eq 6, 3) := by decide +kernel
theorem dX0_pairsTold_48 : decode cX0_pairsTold 48 = .ok (.iinc 3 1, 3) := by decide +kernel
theorem dX0_pairsTold_51 : decode cX0_pairsTold 51 = .ok (.iinc 5 1, 3) := by decide +kernel
theorem dX0_pairsTold_54 : decode cX0_pairsTold 54 = .ok (.goto (-36), 3) := by decide +kernel
theorem dX0_pairsTold_57 : decode cX0_pairsTold 57 = .ok (.iinc 4 1, 3) := by decide +kernel
theorem dX0_pairsTold_60 : decode cX0_pairsTold 60 = .ok (.goto (-55), 3) := by decide +kernel
theorem dX0_pairsTold_63 : decode cX0_pairsTold 63 = .ok (.iload_n 3, 1) := by decide +kernel
theorem dX0_pairsTold_64 : decode cX0_pairsTold 64 = .ok (.ireturn, 1) := by decide +kernel
set_option maxRecDepth 20000 in
theorem ggX0_pairsToldByNobody_X0_tellersOfPair : GoodIn wsX0_pairsToldByNobody wsX0_tellersOfPair := goodIn_r _ [5, 6, 7, 8, 9, 10, 4, 11, 12, 13, 14, 15, 16, 17, 18, 19, 20, 21, 22, 23, 24, 25, 26, 27, 28, 29, 30, 31, 32, 33, 34] (by decide +kernel) (by decide +kernel)
set_option maxRecDepth 20000 in
theorem gX0_pairsToldByNobody_X0_tellersOfPair : GoodIn wsX0_pairsToldByNobody (wsV RX0 59 RX0 yX0_tellersOfPair wsX0_tellersOfPair) := goodIn_app (goodIn_of _ (by decide +kernel)) ggX0_pairsToldByNobody_X0_tellersOfPair
theorem dX0_pairsToldByNobody_0 : decode cX0_pairsToldByNobody 0 = .ok (.iconst 0, 1) := by decide +kernel
theorem dX0_pairsToldByNobody_1 : decode cX0_pairsToldByNobody 1 = .ok (.istore_n 1, 1) := by decide +kernel
theorem dX0_pairsToldByNobody_2 : decode cX0_pairsToldByNobody 2 = .ok (.iconst 0, 1) := by decide +kernel
theorem dX0_pairsToldByNobody_3 : decode cX0_pairsToldByNobody 3 = .ok (.istore_n 2, 1) := by decide +kernel
theorem dX0_pairsToldByNobody_4 : decode cX0_pairsToldByNobody 4 = .ok (.iload_n 2, 1) := by decide +kernel
theorem dX0_pairsToldByNobody_5 : decode cX0_pairsToldByNobody 5 = .ok (.bipush 8, 2) := by decide +kernel
theorem dX0_pairsToldByNobody_7 : decode cX0_pairsToldByNobody 7 = .ok (.if_icmp .ge 37, 3) := by decide +kernel
theorem dX0_pairsToldByNobody_10 : decode cX0_pairsToldByNobody 10 = .ok (.iload_n 2, 1) := by decide +kernel
theorem dX0_pairsToldByNobody_11 : decode cX0_pairsToldByNobody 11 = .ok (.iconst 1, 1) := by decide +kernel
theorem dX0_pairsToldByNobody_12 : decode cX0_pairsToldByNobody 12 = .ok (.iadd, 1) := by decide +kernel
theorem dX0_pairsToldByNobody_13 : decode cX0_pairsToldByNobody 13 = .ok (.istore_n 3, 1) := by decide +kernel
theorem dX0_pairsToldByNobody_14 : decode cX0_pairsToldByNobody 14 = .ok (.iload_n 3, 1) := by decide +kernel
theorem dX0_pairsToldByNobody_15 : decode cX0_pairsToldByNobody 15 = .ok (.bipush 8, 2) := by decide +kernel
theorem dX0_pairsToldByNobody_17 : decode cX0_pairsToldByNobody 17 = .ok (.if_icmp .ge 21, 3) := by decide +kernel
theorem dX0_pairsToldByNobody_20 : decode cX0_pairsToldByNobody 20 = .ok (.aload_n 0, 1) := by decide +kernel
theorem dX0_pairsToldByNobody_21 : decode cX0_pairsToldByNobody 21 = .ok (.iload_n 2, 1) := by decide +kernel
theorem dX0_pairsToldByNobody_22 : decode cX0_pairsToldByNobody 22 = .ok (.iload_n 3, 1) := by decide +kernel
theorem dX0_pairsToldByNobody_23 : decode cX0_pairsToldByNobody 23 = .ok (.invokevirtual 59, 3) := by decide +kernel
theorem dX0_pairsToldByNobody_26 : decode cX0_pairsToldByNobody 26 = .ok (.ifCond .ne 6, 3) := by decide +kernel
theorem dX0_pairsToldByNobody_29 : decode cX0_pairsToldByNobody 29 = .ok (.iinc 1 1, 3) := by decide +kernel
theorem dX0_pairsToldByNobody_32 : decode cX0_pairsToldByNobody 32 = .ok (.iinc 3 1, 3) := by decide +kernel
theorem dX0_pairsToldByNobody_35 : decode cX0_pairsToldByNobody 35 = .ok (.goto (-21), 3) := by decide +kernel
theorem dX0_pairsToldByNobody_38 : decode cX0_pairsToldByNobody 38 = .ok (.iinc 2 1, 3) := by decide +kernel
theorem dX0_pairsToldByNobody_41 : decode cX0_pairsToldByNobody 41 = .ok (.goto (-37), 3) := by decide +kernel
theorem dX0_pairsToldByNobody_44 : decode cX0_pairsToldByNobody 44 = .ok (.iload_n 1, 1) := by decide +kernel
theorem dX0_pairsToldByNobody_45 : decode cX0_pairsToldByNobody 45 = .ok (.ireturn, 1) := by decide +kernel
set_option maxRecDepth 20000 in
theorem ggX0_tellersOfPair_X0_tellsColours : GoodIn wsX0_tellersOfPair wsX0_tellsColours := goodIn_r _ [7, 8, 9, 10, 11, 12, 13, 14, 15, 16, 17, 18, 19, 20, 21, 22, 23, 24, 25, 26, 27, 28, 29, 30] (by decide +kernel) (by decide +kernel)
set_option maxRecDepth 20000 in
theorem gX0_tellersOfPair_X0_tellsColours : GoodIn wsX0_tellersOfPair (wsV RX0 49 RX0 yX0_tellsColours wsX0_tellsColours) := goodIn_app (goodIn_of _ (by decide +kernel)) ggX0_tellersOfPair_X0_tellsColours
theorem dX0_tellersOfPair_0 : decode cX0_tellersOfPair 0 = .ok (.iconst 0, 1) := by decide +kernel
theorem dX0_tellersOfPair_1 : decode cX0_tellersOfPair 1 = .ok (.istore_n 3, 1) := by decide +kernel
theorem dX0_tellersOfPair_2 : decode cX0_tellersOfPair 2 = .ok (.iconst 0, 1) := by decide +kernel
theorem dX0_tellersOfPair_3 : decode cX0_tellersOfPair 3 = .ok (.istore 4, 2) := by decide +kernel
theorem dX0_tellersOfPair_5 : decode cX0_tellersOfPair 5 = .ok (.iload 4, 2) := by decide +kernel
theorem dX0_tellersOfPair_7 : decode cX0_tellersOfPair 7 = .ok (.iconst 4, 1) := by decide +kernel
theorem dX0_tellersOfPair_8 : decode cX0_tellersOfPair 8 = .ok (.if_icmp .ge 44, 3) := by decide +kernel
theorem dX0_tellersOfPair_11 : decode cX0_tellersOfPair 11 = .ok (.aload_n 0, 1) := by decide +kernel
theorem dX0_tellersOfPair_12 : decode cX0_tellersOfPair 12 = .ok (.iload 4, 2) := by decide +kernel
theorem dX0_tellersOfPair_14 : decode cX0_tellersOfPair 14 = .ok (.aload_n 0, 1) := by decide +kernel
theorem dX0_tellersOfPair_15 : decode cX0_tellersOfPair 15 = .ok (.getfield 24, 3) := by decide +kernel
theorem dX0_tellersOfPair_18 : decode cX0_tellersOfPair 18 = .ok (.iload 4, 2) := by decide +kernel
theorem dX0_tellersOfPair_20 : decode cX0_tellersOfPair 20 = .ok (.iaload, 1) := by decide +kernel
theorem dX0_tellersOfPair_21 : decode cX0_tellersOfPair 21 = .ok (.aload_n 0, 1) := by decide +kernel
theorem dX0_tellersOfPair_22 : decode cX0_tellersOfPair 22 = .ok (.getfield 9, 3) := by decide +kernel
theorem dX0_tellersOfPair_25 : decode cX0_tellersOfPair 25 = .ok (.iload_n 1, 1) := by decide +kernel
theorem dX0_tellersOfPair_26 : decode cX0_tellersOfPair 26 = .ok (.iaload, 1) := by decide +kernel
theorem dX0_tellersOfPair_27 : decode cX0_tellersOfPair 27 = .ok (.aload_n 0, 1) := by decide +kernel
theorem dX0_tellersOfPair_28 : decode cX0_tellersOfPair 28 = .ok (.getfield 9, 3) := by decide +kernel
theorem dX0_tellersOfPair_31 : decode cX0_tellersOfPair 31 = .ok (.iload_n 2, 1) := by decide +kernel
theorem dX0_tellersOfPair_32 : decode cX0_tellersOfPair 32 = .ok (.iaload, 1) := by decide +kernel
theorem dX0_tellersOfPair_33 : decode cX0_tellersOfPair 33 = .ok (.invokevirtual 49, 3) := by decide +kernel
theorem dX0_tellersOfPair_36 : decode cX0_tellersOfPair 36 = .ok (.ifCond .eq 10, 3) := by decide +kernel
theorem dX0_tellersOfPair_39 : decode cX0_tellersOfPair 39 = .ok (.iload_n 3, 1) := by decide +kernel
theorem dX0_tellersOfPair_40 : decode cX0_tellersOfPair 40 = .ok (.iconst 1, 1) := by decide +kernel
theorem dX0_tellersOfPair_41 : decode cX0_tellersOfPair 41 = .ok (.iload 4, 2) := by decide +kernel
theorem dX0_tellersOfPair_43 : decode cX0_tellersOfPair 43 = .ok (.ishl, 1) := by decide +kernel
theorem dX0_tellersOfPair_44 : decode cX0_tellersOfPair 44 = .ok (.ior, 1) := by decide +kernel
theorem dX0_tellersOfPair_45 : decode cX0_tellersOfPair 45 = .ok (.istore_n 3, 1) := by decide +kernel
theorem dX0_tellersOfPair_46 : decode cX0_tellersOfPair 46 = .ok (.iinc 4 1, 3) := by decide +kernel
theorem dX0_tellersOfPair_49 : decode cX0_tellersOfPair 49 = .ok (.goto (-44), 3) := by decide +kernel
theorem dX0_tellersOfPair_52 : decode cX0_tellersOfPair 52 = .ok (.iload_n 3, 1) := by decide +kernel
theorem dX0_tellersOfPair_53 : decode cX0_tellersOfPair 53 = .ok (.ireturn, 1) := by decide +kernel
set_option maxRecDepth 20000 in
theorem ggX0_tellersOf_X0_tellersOfPair : GoodIn wsX0_tellersOf wsX0_tellersOfPair := goodIn_r _ [5, 6, 7, 8, 9, 10, 4, 11, 12, 13, 14, 15, 16, 17, 18, 19, 20, 21, 22, 23, 24, 25, 26, 27, 28, 29, 30, 31, 32, 33, 34] (by decide +kernel) (by decide +kernel)
set_option maxRecDepth 20000 in
theorem gX0_tellersOf_X0_tellersOfPair : GoodIn wsX0_tellersOf (wsV RX0 59 RX0 yX0_tellersOfPair wsX0_tellersOfPair) := goodIn_app (goodIn_of _ (by decide +kernel)) ggX0_tellersOf_X0_tellersOfPair
theorem dX0_tellersOf_0 : decode cX0_tellersOf 0 = .ok (.iconst 0, 1) := by decide +kernel
theorem dX0_tellersOf_1 : decode cX0_tellersOf 1 = .ok (.istore_n 2, 1) := by decide +kernel
theorem dX0_tellersOf_2 : decode cX0_tellersOf 2 = .ok (.iconst 0, 1) := by decide +kernel
theorem dX0_tellersOf_3 : decode cX0_tellersOf 3 = .ok (.istore_n 3, 1) := by decide +kernel
theorem dX0_tellersOf_4 : decode cX0_tellersOf 4 = .ok (.iload_n 3, 1) := by decide +kernel
theorem dX0_tellersOf_5 : decode cX0_tellersOf 5 = .ok (.bipush 8, 2) := by decide +kernel
theorem dX0_tellersOf_7 : decode cX0_tellersOf 7 = .ok (.if_icmp .ge 18, 3) := by decide +kernel
theorem dX0_tellersOf_10 : decode cX0_tellersOf 10 = .ok (.iload_n 2, 1) := by decide +kernel
theorem dX0_tellersOf_11 : decode cX0_tellersOf 11 = .ok (.aload_n 0, 1) := by decide +kernel
theorem dX0_tellersOf_12 : decode cX0_tellersOf 12 = .ok (.iload_n 1, 1) := by decide +kernel
theorem dX0_tellersOf_13 : decode cX0_tellersOf 13 = .ok (.iload_n 3, 1) := by decide +kernel
theorem dX0_tellersOf_14 : decode cX0_tellersOf 14 = .ok (.invokevirtual 59, 3) := by decide +kernel
theorem dX0_tellersOf_17 : decode cX0_tellersOf 17 = .ok (.ior, 1) := by decide +kernel
theorem dX0_tellersOf_18 : decode cX0_tellersOf 18 = .ok (.istore_n 2, 1) := by decide +kernel
theorem dX0_tellersOf_19 : decode cX0_tellersOf 19 = .ok (.iinc 3 1, 3) := by decide +kernel
theorem dX0_tellersOf_22 : decode cX0_tellersOf 22 = .ok (.goto (-18), 3) := by decide +kernel
theorem dX0_tellersOf_25 : decode cX0_tellersOf 25 = .ok (.iload_n 2, 1) := by decide +kernel
theorem dX0_tellersOf_26 : decode cX0_tellersOf 26 = .ok (.ireturn, 1) := by decide +kernel
theorem dX0_labelled_0 : decode cX0_labelled 0 = .ok (.iconst 0, 1) := by decide +kernel
theorem dX0_labelled_1 : decode cX0_labelled 1 = .ok (.istore_n 1, 1) := by decide +kernel
theorem dX0_labelled_2 : decode cX0_labelled 2 = .ok (.iconst 0, 1) := by decide +kernel
theorem dX0_labelled_3 : decode cX0_labelled 3 = .ok (.istore_n 2, 1) := by decide +kernel
theorem dX0_labelled_4 : decode cX0_labelled 4 = .ok (.iload_n 2, 1) := by decide +kernel
theorem dX0_labelled_5 : decode cX0_labelled 5 = .ok (.bipush 8, 2) := by decide +kernel
theorem dX0_labelled_7 : decode cX0_labelled 7 = .ok (.if_icmp .ge 22, 3) := by decide +kernel
theorem dX0_labelled_10 : decode cX0_labelled 10 = .ok (.aload_n 0, 1) := by decide +kernel
theorem dX0_labelled_11 : decode cX0_labelled 11 = .ok (.getfield 15, 3) := by decide +kernel
theorem dX0_labelled_14 : decode cX0_labelled 14 = .ok (.iload_n 2, 1) := by decide +kernel
theorem dX0_labelled_15 : decode cX0_labelled 15 = .ok (.iaload, 1) := by decide +kernel
theorem dX0_labelled_16 : decode cX0_labelled 16 = .ok (.iconst (-1), 1) := by decide +kernel
theorem dX0_labelled_17 : decode cX0_labelled 17 = .ok (.if_icmp .eq 6, 3) := by decide +kernel
theorem dX0_labelled_20 : decode cX0_labelled 20 = .ok (.iinc 1 1, 3) := by decide +kernel
theorem dX0_labelled_23 : decode cX0_labelled 23 = .ok (.iinc 2 1, 3) := by decide +kernel
theorem dX0_labelled_26 : decode cX0_labelled 26 = .ok (.goto (-22), 3) := by decide +kernel
theorem dX0_labelled_29 : decode cX0_labelled 29 = .ok (.iload_n 1, 1) := by decide +kernel
theorem dX0_labelled_30 : decode cX0_labelled 30 = .ok (.ireturn, 1) := by decide +kernel
set_option maxRecDepth 20000 in
theorem ggX0_unlikeLabels_J6_bitCount_0f7a4 : GoodIn wsX0_unlikeLabels wsJ6_bitCount_0f7a4 := goodIn_r _ [5, 6, 7, 8] (by decide +kernel) (by decide +kernel)
set_option maxRecDepth 20000 in
theorem gX0_unlikeLabels_J6_bitCount_0f7a4 : GoodIn wsX0_unlikeLabels (va_wsS RX0 63 yJ6_bitCount_0f7a4 wsJ6_bitCount_0f7a4) := goodIn_app (goodIn_of _ (by decide +kernel)) ggX0_unlikeLabels_J6_bitCount_0f7a4
theorem dX0_unlikeLabels_0 : decode cX0_unlikeLabels 0 = .ok (.iconst 0, 1) := by decide +kernel
theorem dX0_unlikeLabels_1 : decode cX0_unlikeLabels 1 = .ok (.istore_n 1, 1) := by decide +kernel
theorem dX0_unlikeLabels_2 : decode cX0_unlikeLabels 2 = .ok (.iconst 0, 1) := by decide +kernel
theorem dX0_unlikeLabels_3 : decode cX0_unlikeLabels 3 = .ok (.istore_n 2, 1) := by decide +kernel
theorem dX0_unlikeLabels_4 : decode cX0_unlikeLabels 4 = .ok (.iload_n 2, 1) := by decide +kernel
theorem dX0_unlikeLabels_5 : decode cX0_unlikeLabels 5 = .ok (.bipush 8, 2) := by decide +kernel
theorem dX0_unlikeLabels_7 : decode cX0_unlikeLabels 7 = .ok (.if_icmp .ge 30, 3) := by decide +kernel
theorem dX0_unlikeLabels_10 : decode cX0_unlikeLabels 10 = .ok (.aload_n 0, 1) := by decide +kernel
theorem dX0_unlikeLabels_11 : decode cX0_unlikeLabels 11 = .ok (.getfield 15, 3) := by decide +kernel
theorem dX0_unlikeLabels_14 : decode cX0_unlikeLabels 14 = .ok (.iload_n 2, 1) := by decide +kernel
theorem dX0_unlikeLabels_15 : decode cX0_unlikeLabels 15 = .ok (.iaload, 1) := by decide +kernel
theorem dX0_unlikeLabels_16 : decode cX0_unlikeLabels 16 = .ok (.iconst (-1), 1) := by decide +kernel
theorem dX0_unlikeLabels_17 : decode cX0_unlikeLabels 17 = .ok (.if_icmp .eq 14, 3) := by decide +kernel
theorem dX0_unlikeLabels_20 : decode cX0_unlikeLabels 20 = .ok (.iload_n 1, 1) := by decide +kernel
theorem dX0_unlikeLabels_21 : decode cX0_unlikeLabels 21 = .ok (.iconst 1, 1) := by decide +kernel
theorem dX0_unlikeLabels_22 : decode cX0_unlikeLabels 22 = .ok (.aload_n 0, 1) := by decide +kernel
theorem dX0_unlikeLabels_23 : decode cX0_unlikeLabels 23 = .ok (.getfield 15, 3) := by decide +kernel
theorem dX0_unlikeLabels_26 : decode cX0_unlikeLabels 26 = .ok (.iload_n 2, 1) := by decide +kernel
theorem dX0_unlikeLabels_27 : decode cX0_unlikeLabels 27 = .ok (.iaload, 1) := by decide +kernel
theorem dX0_unlikeLabels_28 : decode cX0_unlikeLabels 28 = .ok (.ishl, 1) := by decide +kernel
theorem dX0_unlikeLabels_29 : decode cX0_unlikeLabels 29 = .ok (.ior, 1) := by decide +kernel
theorem dX0_unlikeLabels_30 : decode cX0_unlikeLabels 30 = .ok (.istore_n 1, 1) := by decide +kernel
theorem dX0_unlikeLabels_31 : decode cX0_unlikeLabels 31 = .ok (.iinc 2 1, 3) := by decide +kernel
theorem dX0_unlikeLabels_34 : decode cX0_unlikeLabels 34 = .ok (.goto (-30), 3) := by decide +kernel
theorem dX0_unlikeLabels_37 : decode cX0_unlikeLabels 37 = .ok (.iload_n 1, 1) := by decide +kernel
theorem dX0_unlikeLabels_38 : decode cX0_unlikeLabels 38 = .ok (.invokestatic 63, 3) := by decide +kernel
theorem dX0_unlikeLabels_41 : decode cX0_unlikeLabels 41 = .ok (.ireturn, 1) := by decide +kernel
set_option maxRecDepth 20000 in
theorem ggX0_wrongPairs_X0_tells : GoodIn wsX0_wrongPairs wsX0_tells := goodIn_r _ [6, 7, 8, 9, 10, 11, 5, 12, 13, 14, 15, 16, 17, 18, 19, 20, 21, 22, 23, 24, 25, 26, 27, 28, 29, 30, 31, 32, 33, 34, 35] (by decide +kernel) (by decide +kernel)
set_option maxRecDepth 20000 in
theorem gX0_wrongPairs_X0_tells : GoodIn wsX0_wrongPairs (wsV RX0 69 RX0 yX0_tells wsX0_tells) := goodIn_app (goodIn_of _ (by decide +kernel)) ggX0_wrongPairs_X0_tells
theorem dX0_wrongPairs_0 : decode cX0_wrongPairs 0 = .ok (.iconst 0, 1) := by decide +kernel
theorem dX0_wrongPairs_1 : decode cX0_wrongPairs 1 = .ok (.istore_n 2, 1) := by decide +kernel
theorem dX0_wrongPairs_2 : decode cX0_wrongPairs 2 = .ok (.iconst 0, 1) := by decide +kernel
theorem dX0_wrongPairs_3 : decode cX0_wrongPairs 3 = .ok (.istore_n 3, 1) := by decide +kernel
theorem dX0_wrongPairs_4 : decode cX0_wrongPairs 4 = .ok (.iload_n 3, 1) := by decide +kernel
theorem dX0_wrongPairs_5 : decode cX0_wrongPairs 5 = .ok (.bipush 8, 2) := by decide +kernel
theorem dX0_wrongPairs_7 : decode cX0_wrongPairs 7 = .ok (.if_icmp .ge 67, 3) := by decide +kernel
theorem dX0_wrongPairs_10 : decode cX0_wrongPairs 10 = .ok (.iload_n 3, 1) := by decide +kernel
theorem dX0_wrongPairs_11 : decode cX0_wrongPairs 11 = .ok (.iconst 1, 1) := by decide +kernel
theorem dX0_wrongPairs_12 : decode cX0_wrongPairs 12 = .ok (.iadd, 1) := by decide +kernel
theorem dX0_wrongPairs_13 : decode cX0_wrongPairs 13 = .ok (.istore 4, 2) := by decide +kernel
theorem dX0_wrongPairs_15 : decode cX0_wrongPairs 15 = .ok (.iload 4, 2) := by decide +kernel
theorem dX0_wrongPairs_17 : decode cX0_wrongPairs 17 = .ok (.bipush 8, 2) := by decide +kernel
theorem dX0_wrongPairs_19 : decode cX0_wrongPairs 19 = .ok (.if_icmp .ge 49, 3) := by decide +kernel
theorem dX0_wrongPairs_22 : decode cX0_wrongPairs 22 = .ok (.aload_n 0, 1) := by decide +kernel
theorem dX0_wrongPairs_23 : decode cX0_wrongPairs 23 = .ok (.getfield 15, 3) := by decide +kernel
theorem dX0_wrongPairs_26 : decode cX0_wrongPairs 26 = .ok (.iload_n 3, 1) := by decide +kernel
theorem dX0_wrongPairs_27 : decode cX0_wrongPairs 27 = .ok (.iaload, 1) := by decide +kernel
theorem dX0_wrongPairs_28 : decode cX0_wrongPairs 28 = .ok (.iconst (-1), 1) := by decide +kernel
theorem dX0_wrongPairs_29 : decode cX0_wrongPairs 29 = .ok (.if_icmp .eq 33, 3) := by decide +kernel
theorem dX0_wrongPairs_32 : decode cX0_wrongPairs 32 = .ok (.aload_n 0, 1) := by decide +kernel
theorem dX0_wrongPairs_33 : decode cX0_wrongPairs 33 = .ok (.getfield 15, 3) := by decide +kernel
theorem dX0_wrongPairs_36 : decode cX0_wrongPairs 36 = .ok (.iload_n 3, 1) := by decide +kernel
theorem dX0_wrongPairs_37 : decode cX0_wrongPairs 37 = .ok (.iaload, 1) := by decide +kernel
theorem dX0_wrongPairs_38 : decode cX0_wrongPairs 38 = .ok (.aload_n 0, 1) := by decide +kernel
theorem dX0_wrongPairs_39 : decode cX0_wrongPairs 39 = .ok (.getfield 15, 3) := by decide +kernel
theorem dX0_wrongPairs_42 : decode cX0_wrongPairs 42 = .ok (.iload 4, 2) := by decide +kernel
theorem dX0_wrongPairs_44 : decode cX0_wrongPairs 44 = .ok (.iaload, 1) := by decide +kernel
theorem dX0_wrongPairs_45 : decode cX0_wrongPairs 45 = .ok (.if_icmp .ne 17, 3) := by decide +kernel
theorem dX0_wrongPairs_48 : decode cX0_wrongPairs 48 = .ok (.aload_n 0, 1) := by decide +kernel
theorem dX0_wrongPairs_49 : decode cX0_wrongPairs 49 = .ok (.iload_n 1, 1) := by decide +kernel
theorem dX0_wrongPairs_50 : decode cX0_wrongPairs 50 = .ok (.iload_n 3, 1) := by decide +kernel
theorem dX0_wrongPairs_51 : decode cX0_wrongPairs 51 = .ok (.iload 4, 2) := by decide +kernel
theorem dX0_wrongPairs_53 : decode cX0_wrongPairs 53 = .ok (.invokevirtual 69, 3) := by decide +kernel
theorem dX0_wrongPairs_56 : decode cX0_wrongPairs 56 = .ok (.ifCond .eq 6, 3) := by decide +kernel
theorem dX0_wrongPairs_59 : decode cX0_wrongPairs 59 = .ok (.iinc 2 1, 3) := by decide +kernel
theorem dX0_wrongPairs_62 : decode cX0_wrongPairs 62 = .ok (.iinc 4 1, 3) := by decide +kernel
theorem dX0_wrongPairs_65 : decode cX0_wrongPairs 65 = .ok (.goto (-50), 3) := by decide +kernel
theorem dX0_wrongPairs_68 : decode cX0_wrongPairs 68 = .ok (.iinc 3 1, 3) := by decide +kernel
theorem dX0_wrongPairs_71 : decode cX0_wrongPairs 71 = .ok (.goto (-67), 3) := by decide +kernel
theorem dX0_wrongPairs_74 : decode cX0_wrongPairs 74 = .ok (.iload_n 2, 1) := by decide +kernel
theorem dX0_wrongPairs_75 : decode cX0_wrongPairs 75 = .ok (.ireturn, 1) := by decide +kernel
set_option maxRecDepth 20000 in
theorem ggX0_paintersServed_X0_wrongPairs : GoodIn wsX0_paintersServed wsX0_wrongPairs := goodIn_r _ [5, 6, 7, 8, 9, 4, 10, 11, 12, 13, 14, 15, 16, 17, 18, 19, 20, 21, 22, 23, 24, 25, 26, 27, 28, 29, 30, 31, 32, 33, 34, 35, 36, 37, 38, 39] (by decide +kernel) (by decide +kernel)
set_option maxRecDepth 20000 in
theorem gX0_paintersServed_X0_wrongPairs : GoodIn wsX0_paintersServed (wsV RX0 73 RX0 yX0_wrongPairs wsX0_wrongPairs) := goodIn_app (goodIn_of _ (by decide +kernel)) ggX0_paintersServed_X0_wrongPairs
theorem dX0_paintersServed_0 : decode cX0_paintersServed 0 = .ok (.iconst 0, 1) := by decide +kernel
theorem dX0_paintersServed_1 : decode cX0_paintersServed 1 = .ok (.istore_n 1, 1) := by decide +kernel
theorem dX0_paintersServed_2 : decode cX0_paintersServed 2 = .ok (.iconst 0, 1) := by decide +kernel
theorem dX0_paintersServed_3 : decode cX0_paintersServed 3 = .ok (.istore_n 2, 1) := by decide +kernel
theorem dX0_paintersServed_4 : decode cX0_paintersServed 4 = .ok (.iload_n 2, 1) := by decide +kernel
theorem dX0_paintersServed_5 : decode cX0_paintersServed 5 = .ok (.iconst 4, 1) := by decide +kernel
theorem dX0_paintersServed_6 : decode cX0_paintersServed 6 = .ok (.if_icmp .ge 20, 3) := by decide +kernel
theorem dX0_paintersServed_9 : decode cX0_paintersServed 9 = .ok (.aload_n 0, 1) := by decide +kernel
theorem dX0_paintersServed_10 : decode cX0_paintersServed 10 = .ok (.iload_n 2, 1) := by decide +kernel
theorem dX0_paintersServed_11 : decode cX0_paintersServed 11 = .ok (.invokevirtual 73, 3) := by decide +kernel
theorem dX0_paintersServed_14 : decode cX0_paintersServed 14 = .ok (.ifCond .ne 6, 3) := by decide +kernel
theorem dX0_paintersServed_17 : decode cX0_paintersServed 17 = .ok (.iinc 1 1, 3) := by decide +kernel
theorem dX0_paintersServed_20 : decode cX0_paintersServed 20 = .ok (.iinc 2 1, 3) := by decide +kernel
theorem dX0_paintersServed_23 : decode cX0_paintersServed 23 = .ok (.goto (-19), 3) := by decide +kernel
theorem dX0_paintersServed_26 : decode cX0_paintersServed 26 = .ok (.iload_n 1, 1) := by decide +kernel
theorem dX0_paintersServed_27 : decode cX0_paintersServed 27 = .ok (.ireturn, 1) := by decide +kernel
set_option maxRecDepth 20000 in
theorem ggX0_labelInOrder_X0_tells : GoodIn wsX0_labelInOrder wsX0_tells := goodIn_r _ [6, 7, 8, 9, 10, 11, 5, 12, 13, 14, 15, 16, 17, 18, 19, 20, 21, 22, 23, 24, 25, 29, 30, 31, 32, 33, 34, 35, 36, 37, 38] (by decide +kernel) (by decide +kernel)
set_option maxRecDepth 20000 in
theorem gX0_labelInOrder_X0_tells : GoodIn wsX0_labelInOrder (wsV RX0 69 RX0 yX0_tells wsX0_tells) := goodIn_app (goodIn_of _ (by decide +kernel)) ggX0_labelInOrder_X0_tells
set_option maxRecDepth 20000 in
theorem ggX0_labelInOrder_X0_leastOutside : GoodIn wsX0_labelInOrder wsX0_leastOutside := goodIn_r _ [28] (by decide +kernel) (by decide +kernel)
set_option maxRecDepth 20000 in
theorem gX0_labelInOrder_X0_leastOutside : GoodIn wsX0_labelInOrder (va_wsS RX0 76 yX0_leastOutside wsX0_leastOutside) := goodIn_app (goodIn_of _ (by decide +kernel)) ggX0_labelInOrder_X0_leastOutside
theorem dX0_labelInOrder_0 : decode cX0_labelInOrder 0 = .ok (.iconst 0, 1) := by decide +kernel
theorem dX0_labelInOrder_1 : decode cX0_labelInOrder 1 = .ok (.istore_n 2, 1) := by decide +kernel
theorem dX0_labelInOrder_2 : decode cX0_labelInOrder 2 = .ok (.iload_n 2, 1) := by decide +kernel
theorem dX0_labelInOrder_3 : decode cX0_labelInOrder 3 = .ok (.bipush 8, 2) := by decide +kernel
theorem dX0_labelInOrder_5 : decode cX0_labelInOrder 5 = .ok (.if_icmp .ge 59, 3) := by decide +kernel
theorem dX0_labelInOrder_8 : decode cX0_labelInOrder 8 = .ok (.iconst 0, 1) := by decide +kernel
theorem dX0_labelInOrder_9 : decode cX0_labelInOrder 9 = .ok (.istore_n 3, 1) := by decide +kernel
theorem dX0_labelInOrder_10 : decode cX0_labelInOrder 10 = .ok (.iconst 0, 1) := by decide +kernel
theorem dX0_labelInOrder_11 : decode cX0_labelInOrder 11 = .ok (.istore 4, 2) := by decide +kernel
theorem dX0_labelInOrder_13 : decode cX0_labelInOrder 13 = .ok (.iload 4, 2) := by decide +kernel
theorem dX0_labelInOrder_15 : decode cX0_labelInOrder 15 = .ok (.iload_n 2, 1) := by decide +kernel
theorem dX0_labelInOrder_16 : decode cX0_labelInOrder 16 = .ok (.if_icmp .ge 32, 3) := by decide +kernel
theorem dX0_labelInOrder_19 : decode cX0_labelInOrder 19 = .ok (.aload_n 0, 1) := by decide +kernel
theorem dX0_labelInOrder_20 : decode cX0_labelInOrder 20 = .ok (.iload_n 1, 1) := by decide +kernel
theorem dX0_labelInOrder_21 : decode cX0_labelInOrder 21 = .ok (.iload 4, 2) := by decide +kernel
theorem dX0_labelInOrder_23 : decode cX0_labelInOrder 23 = .ok (.iload_n 2, 1) := by decide +kernel
theorem dX0_labelInOrder_24 : decode cX0_labelInOrder 24 = .ok (.invokevirtual 69, 3) := by decide +kernel
theorem dX0_labelInOrder_27 : decode cX0_labelInOrder 27 = .ok (.ifCond .eq 15, 3) := by decide +kernel
theorem dX0_labelInOrder_30 : decode cX0_labelInOrder 30 = .ok (.iload_n 3, 1) := by decide +kernel
theorem dX0_labelInOrder_31 : decode cX0_labelInOrder 31 = .ok (.iconst 1, 1) := by decide +kernel
theorem dX0_labelInOrder_32 : decode cX0_labelInOrder 32 = .ok (.aload_n 0, 1) := by decide +kernel
theorem dX0_labelInOrder_33 : decode cX0_labelInOrder 33 = .ok (.getfield 15, 3) := by decide +kernel
theorem dX0_labelInOrder_36 : decode cX0_labelInOrder 36 = .ok (.iload 4, 2) := by decide +kernel
theorem dX0_labelInOrder_38 : decode cX0_labelInOrder 38 = .ok (.iaload, 1) := by decide +kernel
theorem dX0_labelInOrder_39 : decode cX0_labelInOrder 39 = .ok (.ishl, 1) := by decide +kernel
theorem dX0_labelInOrder_40 : decode cX0_labelInOrder 40 = .ok (.ior, 1) := by decide +kernel
theorem dX0_labelInOrder_41 : decode cX0_labelInOrder 41 = .ok (.istore_n 3, 1) := by decide +kernel
theorem dX0_labelInOrder_42 : decode cX0_labelInOrder 42 = .ok (.iinc 4 1, 3) := by decide +kernel
theorem dX0_labelInOrder_45 : decode cX0_labelInOrder 45 = .ok (.goto (-32), 3) := by decide +kernel
theorem dX0_labelInOrder_48 : decode cX0_labelInOrder 48 = .ok (.aload_n 0, 1) := by decide +kernel
theorem dX0_labelInOrder_49 : decode cX0_labelInOrder 49 = .ok (.getfield 15, 3) := by decide +kernel
theorem dX0_labelInOrder_52 : decode cX0_labelInOrder 52 = .ok (.iload_n 2, 1) := by decide +kernel
theorem dX0_labelInOrder_53 : decode cX0_labelInOrder 53 = .ok (.iload_n 3, 1) := by decide +kernel
theorem dX0_labelInOrder_54 : decode cX0_labelInOrder 54 = .ok (.invokestatic 76, 3) := by decide +kernel
theorem dX0_labelInOrder_57 : decode cX0_labelInOrder 57 = .ok (.iastore, 1) := by decide +kernel
theorem dX0_labelInOrder_58 : decode cX0_labelInOrder 58 = .ok (.iinc 2 1, 3) := by decide +kernel
theorem dX0_labelInOrder_61 : decode cX0_labelInOrder 61 = .ok (.goto (-59), 3) := by decide +kernel
theorem dX0_labelInOrder_64 : decode cX0_labelInOrder 64 = .ok (.return_, 1) := by decide +kernel
theorem dX0_leastOutside_0 : decode cX0_leastOutside 0 = .ok (.iconst 0, 1) := by decide +kernel
theorem dX0_leastOutside_1 : decode cX0_leastOutside 1 = .ok (.istore_n 1, 1) := by decide +kernel
theorem dX0_leastOutside_2 : decode cX0_leastOutside 2 = .ok (.iload_n 1, 1) := by decide +kernel
theorem dX0_leastOutside_3 : decode cX0_leastOutside 3 = .ok (.bipush 7, 2) := by decide +kernel
theorem dX0_leastOutside_5 : decode cX0_leastOutside 5 = .ok (.if_icmp .ge 17, 3) := by decide +kernel
theorem dX0_leastOutside_8 : decode cX0_leastOutside 8 = .ok (.iload_n 0, 1) := by decide +kernel
theorem dX0_leastOutside_9 : decode cX0_leastOutside 9 = .ok (.iload_n 1, 1) := by decide +kernel
theorem dX0_leastOutside_10 : decode cX0_leastOutside 10 = .ok (.ishr, 1) := by decide +kernel
theorem dX0_leastOutside_11 : decode cX0_leastOutside 11 = .ok (.iconst 1, 1) := by decide +kernel
theorem dX0_leastOutside_12 : decode cX0_leastOutside 12 = .ok (.iand, 1) := by decide +kernel
theorem dX0_leastOutside_13 : decode cX0_leastOutside 13 = .ok (.ifCond .eq 9, 3) := by decide +kernel
theorem dX0_leastOutside_16 : decode cX0_leastOutside 16 = .ok (.iinc 1 1, 3) := by decide +kernel
theorem dX0_leastOutside_19 : decode cX0_leastOutside 19 = .ok (.goto (-17), 3) := by decide +kernel
theorem dX0_leastOutside_22 : decode cX0_leastOutside 22 = .ok (.iload_n 1, 1) := by decide +kernel
theorem dX0_leastOutside_23 : decode cX0_leastOutside 23 = .ok (.ireturn, 1) := by decide +kernel
theorem dX0_addChart_0 : decode cX0_addChart 0 = .ok (.aload_n 0, 1) := by decide +kernel
theorem dX0_addChart_1 : decode cX0_addChart 1 = .ok (.getfield 39, 3) := by decide +kernel
theorem dX0_addChart_4 : decode cX0_addChart 4 = .ok (.bipush 6, 2) := by decide +kernel
theorem dX0_addChart_6 : decode cX0_addChart 6 = .ok (.if_icmp .lt 15, 3) := by decide +kernel
theorem dX0_addChart_9 : decode cX0_addChart 9 = .ok (.aload_n 0, 1) := by decide +kernel
theorem dX0_addChart_10 : decode cX0_addChart 10 = .ok (.dup, 1) := by decide +kernel
theorem dX0_addChart_11 : decode cX0_addChart 11 = .ok (.getfield 46, 3) := by decide +kernel
theorem dX0_addChart_14 : decode cX0_addChart 14 = .ok (.iconst 1, 1) := by decide +kernel
theorem dX0_addChart_15 : decode cX0_addChart 15 = .ok (.iadd, 1) := by decide +kernel
theorem dX0_addChart_16 : decode cX0_addChart 16 = .ok (.putfield 46, 3) := by decide +kernel
theorem dX0_addChart_19 : decode cX0_addChart 19 = .ok (.iconst (-1), 1) := by decide +kernel
theorem dX0_addChart_20 : decode cX0_addChart 20 = .ok (.ireturn, 1) := by decide +kernel
theorem dX0_addChart_21 : decode cX0_addChart 21 = .ok (.aload_n 0, 1) := by decide +kernel
theorem dX0_addChart_22 : decode cX0_addChart 22 = .ok (.getfield 27, 3) := by decide +kernel
theorem dX0_addChart_25 : decode cX0_addChart 25 = .ok (.aload_n 0, 1) := by decide +kernel
theorem dX0_addChart_26 : decode cX0_addChart 26 = .ok (.getfield 39, 3) := by decide +kernel
theorem dX0_addChart_29 : decode cX0_addChart 29 = .ok (.iload_n 1, 1) := by decide +kernel
theorem dX0_addChart_30 : decode cX0_addChart 30 = .ok (.iastore, 1) := by decide +kernel
theorem dX0_addChart_31 : decode cX0_addChart 31 = .ok (.aload_n 0, 1) := by decide +kernel
theorem dX0_addChart_32 : decode cX0_addChart 32 = .ok (.getfield 30, 3) := by decide +kernel
theorem dX0_addChart_35 : decode cX0_addChart 35 = .ok (.aload_n 0, 1) := by decide +kernel
theorem dX0_addChart_36 : decode cX0_addChart 36 = .ok (.getfield 39, 3) := by decide +kernel
theorem dX0_addChart_39 : decode cX0_addChart 39 = .ok (.iload_n 2, 1) := by decide +kernel
theorem dX0_addChart_40 : decode cX0_addChart 40 = .ok (.iastore, 1) := by decide +kernel
theorem dX0_addChart_41 : decode cX0_addChart 41 = .ok (.aload_n 0, 1) := by decide +kernel
theorem dX0_addChart_42 : decode cX0_addChart 42 = .ok (.dup, 1) := by decide +kernel
theorem dX0_addChart_43 : decode cX0_addChart 43 = .ok (.getfield 39, 3) := by decide +kernel
theorem dX0_addChart_46 : decode cX0_addChart 46 = .ok (.iconst 1, 1) := by decide +kernel
theorem dX0_addChart_47 : decode cX0_addChart 47 = .ok (.iadd, 1) := by decide +kernel
theorem dX0_addChart_48 : decode cX0_addChart 48 = .ok (.putfield 39, 3) := by decide +kernel
theorem dX0_addChart_51 : decode cX0_addChart 51 = .ok (.aload_n 0, 1) := by decide +kernel
theorem dX0_addChart_52 : decode cX0_addChart 52 = .ok (.getfield 39, 3) := by decide +kernel
theorem dX0_addChart_55 : decode cX0_addChart 55 = .ok (.iconst 1, 1) := by decide +kernel
theorem dX0_addChart_56 : decode cX0_addChart 56 = .ok (.isub, 1) := by decide +kernel
theorem dX0_addChart_57 : decode cX0_addChart 57 = .ok (.ireturn, 1) := by decide +kernel
theorem dX0_removeChart_0 : decode cX0_removeChart 0 = .ok (.iload_n 1, 1) := by decide +kernel
theorem dX0_removeChart_1 : decode cX0_removeChart 1 = .ok (.iconst 1, 1) := by decide +kernel
theorem dX0_removeChart_2 : decode cX0_removeChart 2 = .ok (.iadd, 1) := by decide +kernel
theorem dX0_removeChart_3 : decode cX0_removeChart 3 = .ok (.istore_n 2, 1) := by decide +kernel
theorem dX0_removeChart_4 : decode cX0_removeChart 4 = .ok (.iload_n 2, 1) := by decide +kernel
theorem dX0_removeChart_5 : decode cX0_removeChart 5 = .ok (.aload_n 0, 1) := by decide +kernel
theorem dX0_removeChart_6 : decode cX0_removeChart 6 = .ok (.getfield 39, 3) := by decide +kernel
theorem dX0_removeChart_9 : decode cX0_removeChart 9 = .ok (.if_icmp .ge 37, 3) := by decide +kernel
theorem dX0_removeChart_12 : decode cX0_removeChart 12 = .ok (.aload_n 0, 1) := by decide +kernel
theorem dX0_removeChart_13 : decode cX0_removeChart 13 = .ok (.getfield 27, 3) := by decide +kernel
theorem dX0_removeChart_16 : decode cX0_removeChart 16 = .ok (.iload_n 2, 1) := by decide +kernel
theorem dX0_removeChart_17 : decode cX0_removeChart 17 = .ok (.iconst 1, 1) := by decide +kernel
theorem dX0_removeChart_18 : decode cX0_removeChart 18 = .ok (.isub, 1) := by decide +kernel
theorem dX0_removeChart_19 : decode cX0_removeChart 19 = .ok (.aload_n 0, 1) := by decide +kernel
theorem dX0_removeChart_20 : decode cX0_removeChart 20 = .ok (.getfield 27, 3) := by decide +kernel
theorem dX0_removeChart_23 : decode cX0_removeChart 23 = .ok (.iload_n 2, 1) := by decide +kernel
theorem dX0_removeChart_24 : decode cX0_removeChart 24 = .ok (.iaload, 1) := by decide +kernel
theorem dX0_removeChart_25 : decode cX0_removeChart 25 = .ok (.iastore, 1) := by decide +kernel
theorem dX0_removeChart_26 : decode cX0_removeChart 26 = .ok (.aload_n 0, 1) := by decide +kernel
theorem dX0_removeChart_27 : decode cX0_removeChart 27 = .ok (.getfield 30, 3) := by decide +kernel
theorem dX0_removeChart_30 : decode cX0_removeChart 30 = .ok (.iload_n 2, 1) := by decide +kernel
theorem dX0_removeChart_31 : decode cX0_removeChart 31 = .ok (.iconst 1, 1) := by decide +kernel
theorem dX0_removeChart_32 : decode cX0_removeChart 32 = .ok (.isub, 1) := by decide +kernel
theorem dX0_removeChart_33 : decode cX0_removeChart 33 = .ok (.aload_n 0, 1) := by decide +kernel
theorem dX0_removeChart_34 : decode cX0_removeChart 34 = .ok (.getfield 30, 3) := by decide +kernel
theorem dX0_removeChart_37 : decode cX0_removeChart 37 = .ok (.iload_n 2, 1) := by decide +kernel
theorem dX0_removeChart_38 : decode cX0_removeChart 38 = .ok (.iaload, 1) := by decide +kernel
theorem dX0_removeChart_39 : decode cX0_removeChart 39 = .ok (.iastore, 1) := by decide +kernel
theorem dX0_removeChart_40 : decode cX0_removeChart 40 = .ok (.iinc 2 1, 3) := by decide +kernel
theorem dX0_removeChart_43 : decode cX0_removeChart 43 = .ok (.goto (-39), 3) := by decide +kernel
theorem dX0_removeChart_46 : decode cX0_removeChart 46 = .ok (.aload_n 0, 1) := by decide +kernel
theorem dX0_removeChart_47 : decode cX0_removeChart 47 = .ok (.dup, 1) := by decide +kernel
theorem dX0_removeChart_48 : decode cX0_removeChart 48 = .ok (.getfield 39, 3) := by decide +kernel
theorem dX0_removeChart_51 : decode cX0_removeChart 51 = .ok (.iconst 1, 1) := by decide +kernel
theorem dX0_removeChart_52 : decode cX0_removeChart 52 = .ok (.isub, 1) := by decide +kernel
theorem dX0_removeChart_53 : decode cX0_removeChart 53 = .ok (.putfield 39, 3) := by decide +kernel
theorem dX0_removeChart_56 : decode cX0_removeChart 56 = .ok (.return_, 1) := by decide +kernel
set_option maxRecDepth 20000 in
theorem ggX0_readersOf_X0_tellersOfPair : GoodIn wsX0_readersOf wsX0_tellersOfPair := goodIn_r _ [7, 8, 9, 10, 11, 12, 6, 13, 14, 15, 16, 17, 18, 19, 20, 21, 22, 23, 24, 25, 26, 27, 28, 29, 30, 31, 32, 33, 34, 35, 36] (by decide +kernel) (by decide +kernel)
set_option maxRecDepth 20000 in
theorem gX0_readersOf_X0_tellersOfPair : GoodIn wsX0_readersOf (wsV RX0 59 RX0 yX0_tellersOfPair wsX0_tellersOfPair) := goodIn_app (goodIn_of _ (by decide +kernel)) ggX0_readersOf_X0_tellersOfPair
theorem dX0_readersOf_0 : decode cX0_readersOf 0 = .ok (.aload_n 0, 1) := by decide +kernel
theorem dX0_readersOf_1 : decode cX0_readersOf 1 = .ok (.aload_n 0, 1) := by decide +kernel
theorem dX0_readersOf_2 : decode cX0_readersOf 2 = .ok (.getfield 27, 3) := by decide +kernel
theorem dX0_readersOf_5 : decode cX0_readersOf 5 = .ok (.iload_n 1, 1) := by decide +kernel
theorem dX0_readersOf_6 : decode cX0_readersOf 6 = .ok (.iaload, 1) := by decide +kernel
theorem dX0_readersOf_7 : decode cX0_readersOf 7 = .ok (.aload_n 0, 1) := by decide +kernel
theorem dX0_readersOf_8 : decode cX0_readersOf 8 = .ok (.getfield 30, 3) := by decide +kernel
theorem dX0_readersOf_11 : decode cX0_readersOf 11 = .ok (.iload_n 1, 1) := by decide +kernel
theorem dX0_readersOf_12 : decode cX0_readersOf 12 = .ok (.iaload, 1) := by decide +kernel
theorem dX0_readersOf_13 : decode cX0_readersOf 13 = .ok (.invokevirtual 59, 3) := by decide +kernel
theorem dX0_readersOf_16 : decode cX0_readersOf 16 = .ok (.ireturn, 1) := by decide +kernel
set_option maxRecDepth 20000 in
theorem ggX0_chartsRead_X0_tells : GoodIn wsX0_chartsRead wsX0_tells := goodIn_r _ [8, 9, 10, 11, 12, 13, 7, 14, 15, 16, 17, 18, 19, 20, 21, 22, 23, 24, 25, 26, 27, 28, 29, 30, 31, 32, 33, 34, 35, 36, 37] (by decide +kernel) (by decide +kernel)
set_option maxRecDepth 20000 in
theorem gX0_chartsRead_X0_tells : GoodIn wsX0_chartsRead (wsV RX0 69 RX0 yX0_tells wsX0_tells) := goodIn_app (goodIn_of _ (by decide +kernel)) ggX0_chartsRead_X0_tells
theorem dX0_chartsRead_0 : decode cX0_chartsRead 0 = .ok (.iconst 0, 1) := by decide +kernel
theorem dX0_chartsRead_1 : decode cX0_chartsRead 1 = .ok (.istore_n 2, 1) := by decide +kernel
theorem dX0_chartsRead_2 : decode cX0_chartsRead 2 = .ok (.iconst 0, 1) := by decide +kernel
theorem dX0_chartsRead_3 : decode cX0_chartsRead 3 = .ok (.istore_n 3, 1) := by decide +kernel
theorem dX0_chartsRead_4 : decode cX0_chartsRead 4 = .ok (.iload_n 3, 1) := by decide +kernel
theorem dX0_chartsRead_5 : decode cX0_chartsRead 5 = .ok (.aload_n 0, 1) := by decide +kernel
theorem dX0_chartsRead_6 : decode cX0_chartsRead 6 = .ok (.getfield 39, 3) := by decide +kernel
theorem dX0_chartsRead_9 : decode cX0_chartsRead 9 = .ok (.if_icmp .ge 32, 3) := by decide +kernel
theorem dX0_chartsRead_12 : decode cX0_chartsRead 12 = .ok (.aload_n 0, 1) := by decide +kernel
theorem dX0_chartsRead_13 : decode cX0_chartsRead 13 = .ok (.iload_n 1, 1) := by decide +kernel
theorem dX0_chartsRead_14 : decode cX0_chartsRead 14 = .ok (.aload_n 0, 1) := by decide +kernel
theorem dX0_chartsRead_15 : decode cX0_chartsRead 15 = .ok (.getfield 27, 3) := by decide +kernel
theorem dX0_chartsRead_18 : decode cX0_chartsRead 18 = .ok (.iload_n 3, 1) := by decide +kernel
theorem dX0_chartsRead_19 : decode cX0_chartsRead 19 = .ok (.iaload, 1) := by decide +kernel
theorem dX0_chartsRead_20 : decode cX0_chartsRead 20 = .ok (.aload_n 0, 1) := by decide +kernel
theorem dX0_chartsRead_21 : decode cX0_chartsRead 21 = .ok (.getfield 30, 3) := by decide +kernel
theorem dX0_chartsRead_24 : decode cX0_chartsRead 24 = .ok (.iload_n 3, 1) := by decide +kernel
theorem dX0_chartsRead_25 : decode cX0_chartsRead 25 = .ok (.iaload, 1) := by decide +kernel
theorem dX0_chartsRead_26 : decode cX0_chartsRead 26 = .ok (.invokevirtual 69, 3) := by decide +kernel
theorem dX0_chartsRead_29 : decode cX0_chartsRead 29 = .ok (.ifCond .eq 6, 3) := by decide +kernel
theorem dX0_chartsRead_32 : decode cX0_chartsRead 32 = .ok (.iinc 2 1, 3) := by decide +kernel
theorem dX0_chartsRead_35 : decode cX0_chartsRead 35 = .ok (.iinc 3 1, 3) := by decide +kernel
theorem dX0_chartsRead_38 : decode cX0_chartsRead 38 = .ok (.goto (-34), 3) := by decide +kernel
theorem dX0_chartsRead_41 : decode cX0_chartsRead 41 = .ok (.iload_n 2, 1) := by decide +kernel
theorem dX0_chartsRead_42 : decode cX0_chartsRead 42 = .ok (.ireturn, 1) := by decide +kernel
set_option maxRecDepth 20000 in
theorem ggX0_makeReadable_X0_nearestColour : GoodIn wsX0_makeReadable wsX0_nearestColour := goodIn_r _ [10, 4, 11, 12, 13, 14, 15, 16, 17, 18, 19, 20, 21, 22, 23, 24, 25, 26, 27, 28, 9, 29, 30, 31, 32, 33, 34, 35, 36, 37, 38, 39, 40, 41, 42] (by decide +kernel) (by decide +kernel)
set_option maxRecDepth 20000 in
theorem gX0_makeReadable_X0_nearestColour : GoodIn wsX0_makeReadable (wsV RX0 79 RX0 yX0_nearestColour wsX0_nearestColour) := goodIn_app (goodIn_of _ (by decide +kernel)) ggX0_makeReadable_X0_nearestColour
set_option maxRecDepth 20000 in
theorem ggX0_makeReadable_X1_change : GoodIn wsX0_makeReadable wsX1_change := goodIn_r _ [15, 16, 17, 14, 18, 19, 20, 21, 22, 23, 24, 25] (by decide +kernel) (by decide +kernel)
set_option maxRecDepth 20000 in
theorem gX0_makeReadable_X1_change : GoodIn wsX0_makeReadable (va_wsS RX0 82 yX1_change wsX1_change) := goodIn_app (goodIn_of _ (by decide +kernel)) ggX0_makeReadable_X1_change
theorem dX0_makeReadable_0 : decode cX0_makeReadable 0 = .ok (.aload_n 0, 1) := by decide +kernel
theorem dX0_makeReadable_1 : decode cX0_makeReadable 1 = .ok (.getfield 27, 3) := by decide +kernel
theorem dX0_makeReadable_4 : decode cX0_makeReadable 4 = .ok (.iload_n 1, 1) := by decide +kernel
theorem dX0_makeReadable_5 : decode cX0_makeReadable 5 = .ok (.iaload, 1) := by decide +kernel
theorem dX0_makeReadable_6 : decode cX0_makeReadable 6 = .ok (.istore_n 3, 1) := by decide +kernel
theorem dX0_makeReadable_7 : decode cX0_makeReadable 7 = .ok (.aload_n 0, 1) := by decide +kernel
theorem dX0_makeReadable_8 : decode cX0_makeReadable 8 = .ok (.iload_n 2, 1) := by decide +kernel
theorem dX0_makeReadable_9 : decode cX0_makeReadable 9 = .ok (.iload_n 3, 1) := by decide +kernel
theorem dX0_makeReadable_10 : decode cX0_makeReadable 10 = .ok (.aload_n 0, 1) := by decide +kernel
theorem dX0_makeReadable_11 : decode cX0_makeReadable 11 = .ok (.getfield 30, 3) := by decide +kernel
theorem dX0_makeReadable_14 : decode cX0_makeReadable 14 = .ok (.iload_n 1, 1) := by decide +kernel
theorem dX0_makeReadable_15 : decode cX0_makeReadable 15 = .ok (.iaload, 1) := by decide +kernel
theorem dX0_makeReadable_16 : decode cX0_makeReadable 16 = .ok (.invokevirtual 79, 3) := by decide +kernel
theorem dX0_makeReadable_19 : decode cX0_makeReadable 19 = .ok (.istore 4, 2) := by decide +kernel
theorem dX0_makeReadable_21 : decode cX0_makeReadable 21 = .ok (.iload 4, 2) := by decide +kernel
theorem dX0_makeReadable_23 : decode cX0_makeReadable 23 = .ok (.iconst (-1), 1) := by decide +kernel
theorem dX0_makeReadable_24 : decode cX0_makeReadable 24 = .ok (.if_icmp .ne 15, 3) := by decide +kernel
theorem dX0_makeReadable_27 : decode cX0_makeReadable 27 = .ok (.aload_n 0, 1) := by decide +kernel
theorem dX0_makeReadable_28 : decode cX0_makeReadable 28 = .ok (.dup, 1) := by decide +kernel
theorem dX0_makeReadable_29 : decode cX0_makeReadable 29 = .ok (.getfield 46, 3) := by decide +kernel
theorem dX0_makeReadable_32 : decode cX0_makeReadable 32 = .ok (.iconst 1, 1) := by decide +kernel
theorem dX0_makeReadable_33 : decode cX0_makeReadable 33 = .ok (.iadd, 1) := by decide +kernel
theorem dX0_makeReadable_34 : decode cX0_makeReadable 34 = .ok (.putfield 46, 3) := by decide +kernel
theorem dX0_makeReadable_37 : decode cX0_makeReadable 37 = .ok (.iconst (-1), 1) := by decide +kernel
theorem dX0_makeReadable_38 : decode cX0_makeReadable 38 = .ok (.ireturn, 1) := by decide +kernel
theorem dX0_makeReadable_39 : decode cX0_makeReadable 39 = .ok (.aload_n 0, 1) := by decide +kernel
theorem dX0_makeReadable_40 : decode cX0_makeReadable 40 = .ok (.getfield 9, 3) := by decide +kernel
theorem dX0_makeReadable_43 : decode cX0_makeReadable 43 = .ok (.iload_n 3, 1) := by decide +kernel
theorem dX0_makeReadable_44 : decode cX0_makeReadable 44 = .ok (.iaload, 1) := by decide +kernel
theorem dX0_makeReadable_45 : decode cX0_makeReadable 45 = .ok (.iload 4, 2) := by decide +kernel
theorem dX0_makeReadable_47 : decode cX0_makeReadable 47 = .ok (.invokestatic 82, 3) := by decide +kernel
theorem dX0_makeReadable_50 : decode cX0_makeReadable 50 = .ok (.istore 5, 2) := by decide +kernel
theorem dX0_makeReadable_52 : decode cX0_makeReadable 52 = .ok (.iload 5, 2) := by decide +kernel
theorem dX0_makeReadable_54 : decode cX0_makeReadable 54 = .ok (.ifCond .le 21, 3) := by decide +kernel
theorem dX0_makeReadable_57 : decode cX0_makeReadable 57 = .ok (.aload_n 0, 1) := by decide +kernel
theorem dX0_makeReadable_58 : decode cX0_makeReadable 58 = .ok (.getfield 9, 3) := by decide +kernel
theorem dX0_makeReadable_61 : decode cX0_makeReadable 61 = .ok (.iload_n 3, 1) := by decide +kernel
theorem dX0_makeReadable_62 : decode cX0_makeReadable 62 = .ok (.iload 4, 2) := by decide +kernel
theorem dX0_makeReadable_64 : decode cX0_makeReadable 64 = .ok (.iastore, 1) := by decide +kernel
theorem dX0_makeReadable_65 : decode cX0_makeReadable 65 = .ok (.aload_n 0, 1) := by decide +kernel
theorem dX0_makeReadable_66 : decode cX0_makeReadable 66 = .ok (.dup, 1) := by decide +kernel
theorem dX0_makeReadable_67 : decode cX0_makeReadable 67 = .ok (.getfield 43, 3) := by decide +kernel
theorem dX0_makeReadable_70 : decode cX0_makeReadable 70 = .ok (.iconst 1, 1) := by decide +kernel
theorem dX0_makeReadable_71 : decode cX0_makeReadable 71 = .ok (.iadd, 1) := by decide +kernel
theorem dX0_makeReadable_72 : decode cX0_makeReadable 72 = .ok (.putfield 43, 3) := by decide +kernel
theorem dX0_makeReadable_75 : decode cX0_makeReadable 75 = .ok (.iload 5, 2) := by decide +kernel
theorem dX0_makeReadable_77 : decode cX0_makeReadable 77 = .ok (.ireturn, 1) := by decide +kernel
set_option maxRecDepth 20000 in
theorem ggX0_nearestColour_X1_change : GoodIn wsX0_nearestColour wsX1_change := goodIn_r _ [6, 7, 8, 5, 9, 10, 11, 12, 13, 14, 15, 16] (by decide +kernel) (by decide +kernel)
set_option maxRecDepth 20000 in
theorem gX0_nearestColour_X1_change : GoodIn wsX0_nearestColour (va_wsS RX0 82 yX1_change wsX1_change) := goodIn_app (goodIn_of _ (by decide +kernel)) ggX0_nearestColour_X1_change
set_option maxRecDepth 20000 in
theorem ggX0_nearestColour_X0_tellsColours : GoodIn wsX0_nearestColour wsX0_tellsColours := goodIn_r _ [21, 22, 23, 24, 8, 5, 9, 10, 11, 12, 13, 14, 15, 16, 25, 26, 27, 28, 29, 30, 31, 32, 33, 34] (by decide +kernel) (by decide +kernel)
set_option maxRecDepth 20000 in
theorem gX0_nearestColour_X0_tellsColours : GoodIn wsX0_nearestColour (wsV RX0 49 RX0 yX0_tellsColours wsX0_tellsColours) := goodIn_app (goodIn_of _ (by decide +kernel)) ggX0_nearestColour_X0_tellsColours
theorem dX0_nearestColour_0 : decode cX0_nearestColour 0 = .ok (.iconst (-1), 1) := by decide +kernel
theorem dX0_nearestColour_1 : decode cX0_nearestColour 1 = .ok (.istore 4, 2) := by decide +kernel
theorem dX0_nearestColour_3 : decode cX0_nearestColour 3 = .ok (.bipush 28, 2) := by decide +kernel
theorem dX0_nearestColour_5 : decode cX0_nearestColour 5 = .ok (.istore 5, 2) := by decide +kernel
theorem dX0_nearestColour_7 : decode cX0_nearestColour 7 = .ok (.iconst 0, 1) := by decide +kernel
theorem dX0_nearestColour_8 : decode cX0_nearestColour 8 = .ok (.istore 6, 2) := by decide +kernel
theorem dX0_nearestColour_10 : decode cX0_nearestColour 10 = .ok (.iload 6, 2) := by decide +kernel
theorem dX0_nearestColour_12 : decode cX0_nearestColour 12 = .ok (.sipush 1000, 3) := by decide +kernel
theorem dX0_nearestColour_15 : decode cX0_nearestColour 15 = .ok (.if_icmp .ge 59, 3) := by decide +kernel
theorem dX0_nearestColour_18 : decode cX0_nearestColour 18 = .ok (.aload_n 0, 1) := by decide +kernel
theorem dX0_nearestColour_19 : decode cX0_nearestColour 19 = .ok (.getfield 9, 3) := by decide +kernel
theorem dX0_nearestColour_22 : decode cX0_nearestColour 22 = .ok (.iload_n 2, 1) := by decide +kernel
theorem dX0_nearestColour_23 : decode cX0_nearestColour 23 = .ok (.iaload, 1) := by decide +kernel
theorem dX0_nearestColour_24 : decode cX0_nearestColour 24 = .ok (.iload 6, 2) := by decide +kernel
theorem dX0_nearestColour_26 : decode cX0_nearestColour 26 = .ok (.invokestatic 82, 3) := by decide +kernel
theorem dX0_nearestColour_29 : decode cX0_nearestColour 29 = .ok (.istore 7, 2) := by decide +kernel
theorem dX0_nearestColour_31 : decode cX0_nearestColour 31 = .ok (.iload 7, 2) := by decide +kernel
theorem dX0_nearestColour_33 : decode cX0_nearestColour 33 = .ok (.iload 5, 2) := by decide +kernel
theorem dX0_nearestColour_35 : decode cX0_nearestColour 35 = .ok (.if_icmp .ge 33, 3) := by decide +kernel
theorem dX0_nearestColour_38 : decode cX0_nearestColour 38 = .ok (.aload_n 0, 1) := by decide +kernel
theorem dX0_nearestColour_39 : decode cX0_nearestColour 39 = .ok (.iload_n 1, 1) := by decide +kernel
theorem dX0_nearestColour_40 : decode cX0_nearestColour 40 = .ok (.aload_n 0, 1) := by decide +kernel
theorem dX0_nearestColour_41 : decode cX0_nearestColour 41 = .ok (.getfield 24, 3) := by decide +kernel
theorem dX0_nearestColour_44 : decode cX0_nearestColour 44 = .ok (.iload_n 1, 1) := by decide +kernel
theorem dX0_nearestColour_45 : decode cX0_nearestColour 45 = .ok (.iaload, 1) := by decide +kernel
theorem dX0_nearestColour_46 : decode cX0_nearestColour 46 = .ok (.iload 6, 2) := by decide +kernel
theorem dX0_nearestColour_48 : decode cX0_nearestColour 48 = .ok (.aload_n 0, 1) := by decide +kernel
theorem dX0_nearestColour_49 : decode cX0_nearestColour 49 = .ok (.getfield 9, 3) := by decide +kernel
theorem dX0_nearestColour_52 : decode cX0_nearestColour 52 = .ok (.iload_n 3, 1) := by decide +kernel
theorem dX0_nearestColour_53 : decode cX0_nearestColour 53 = .ok (.iaload, 1) := by decide +kernel
theorem dX0_nearestColour_54 : decode cX0_nearestColour 54 = .ok (.invokevirtual 49, 3) := by decide +kernel
theorem dX0_nearestColour_57 : decode cX0_nearestColour 57 = .ok (.ifCond .eq 11, 3) := by decide +kernel
theorem dX0_nearestColour_60 : decode cX0_nearestColour 60 = .ok (.iload 6, 2) := by decide +kernel
theorem dX0_nearestColour_62 : decode cX0_nearestColour 62 = .ok (.istore 4, 2) := by decide +kernel
theorem dX0_nearestColour_64 : decode cX0_nearestColour 64 = .ok (.iload 7, 2) := by decide +kernel
theorem dX0_nearestColour_66 : decode cX0_nearestColour 66 = .ok (.istore 5, 2) := by decide +kernel
theorem dX0_nearestColour_68 : decode cX0_nearestColour 68 = .ok (.iinc 6 1, 3) := by decide +kernel
theorem dX0_nearestColour_71 : decode cX0_nearestColour 71 = .ok (.goto (-61), 3) := by decide +kernel
theorem dX0_nearestColour_74 : decode cX0_nearestColour 74 = .ok (.iload 4, 2) := by decide +kernel
theorem dX0_nearestColour_76 : decode cX0_nearestColour 76 = .ok (.ireturn, 1) := by decide +kernel
theorem dX1_partOf_0 : decode cX1_partOf 0 = .ok (.iload_n 1, 1) := by decide +kernel
theorem dX1_partOf_1 : decode cX1_partOf 1 = .ok (.lookupswitch 40 #[(0, 27), (1, 32)], 27) := by decide +kernel
theorem dX1_partOf_28 : decode cX1_partOf 28 = .ok (.iload_n 0, 1) := by decide +kernel
theorem dX1_partOf_29 : decode cX1_partOf 29 = .ok (.bipush 100, 2) := by decide +kernel
theorem dX1_partOf_31 : decode cX1_partOf 31 = .ok (.idiv, 1) := by decide +kernel
theorem dX1_partOf_32 : decode cX1_partOf 32 = .ok (.ireturn, 1) := by decide +kernel
theorem dX1_partOf_33 : decode cX1_partOf 33 = .ok (.iload_n 0, 1) := by decide +kernel
theorem dX1_partOf_34 : decode cX1_partOf 34 = .ok (.bipush 10, 2) := by decide +kernel
theorem dX1_partOf_36 : decode cX1_partOf 36 = .ok (.idiv, 1) := by decide +kernel
theorem dX1_partOf_37 : decode cX1_partOf 37 = .ok (.bipush 10, 2) := by decide +kernel
theorem dX1_partOf_39 : decode cX1_partOf 39 = .ok (.irem, 1) := by decide +kernel
theorem dX1_partOf_40 : decode cX1_partOf 40 = .ok (.ireturn, 1) := by decide +kernel
theorem dX1_partOf_41 : decode cX1_partOf 41 = .ok (.iload_n 0, 1) := by decide +kernel
theorem dX1_partOf_42 : decode cX1_partOf 42 = .ok (.bipush 10, 2) := by decide +kernel
theorem dX1_partOf_44 : decode cX1_partOf 44 = .ok (.irem, 1) := by decide +kernel
theorem dX1_partOf_45 : decode cX1_partOf 45 = .ok (.ireturn, 1) := by decide +kernel
set_option maxRecDepth 20000 in
theorem ggX1_withPart_X1_partOf : GoodIn wsX1_withPart wsX1_partOf := goodIn_r _ [4] (by decide +kernel) (by decide +kernel)
set_option maxRecDepth 20000 in
theorem gX1_withPart_X1_partOf : GoodIn wsX1_withPart (va_wsS RX1 7 yX1_partOf wsX1_partOf) := goodIn_app (goodIn_of _ (by decide +kernel)) ggX1_withPart_X1_partOf
theorem dX1_withPart_0 : decode cX1_withPart 0 = .ok (.iload_n 1, 1) := by decide +kernel
theorem dX1_withPart_1 : decode cX1_withPart 1 = .ok (.ifCond .ne 8, 3) := by decide +kernel
theorem dX1_withPart_4 : decode cX1_withPart 4 = .ok (.bipush 100, 2) := by decide +kernel
theorem dX1_withPart_6 : decode cX1_withPart 6 = .ok (.goto 14, 3) := by decide +kernel
theorem dX1_withPart_9 : decode cX1_withPart 9 = .ok (.iload_n 1, 1) := by decide +kernel
theorem dX1_withPart_10 : decode cX1_withPart 10 = .ok (.iconst 1, 1) := by decide +kernel
theorem dX1_withPart_11 : decode cX1_withPart 11 = .ok (.if_icmp .ne 8, 3) := by decide +kernel
theorem dX1_withPart_14 : decode cX1_withPart 14 = .ok (.bipush 10, 2) := by decide +kernel
theorem dX1_withPart_16 : decode cX1_withPart 16 = .ok (.goto 4, 3) := by decide +kernel
theorem dX1_withPart_19 : decode cX1_withPart 19 = .ok (.iconst 1, 1) := by decide +kernel
theorem dX1_withPart_20 : decode cX1_withPart 20 = .ok (.istore_n 3, 1) := by decide +kernel
theorem dX1_withPart_21 : decode cX1_withPart 21 = .ok (.iload_n 0, 1) := by decide +kernel
theorem dX1_withPart_22 : decode cX1_withPart 22 = .ok (.iload_n 2, 1) := by decide +kernel
theorem dX1_withPart_23 : decode cX1_withPart 23 = .ok (.iload_n 0, 1) := by decide +kernel
theorem dX1_withPart_24 : decode cX1_withPart 24 = .ok (.iload_n 1, 1) := by decide +kernel
theorem dX1_withPart_25 : decode cX1_withPart 25 = .ok (.invokestatic 7, 3) := by decide +kernel
theorem dX1_withPart_28 : decode cX1_withPart 28 = .ok (.isub, 1) := by decide +kernel
theorem dX1_withPart_29 : decode cX1_withPart 29 = .ok (.iload_n 3, 1) := by decide +kernel
theorem dX1_withPart_30 : decode cX1_withPart 30 = .ok (.imul, 1) := by decide +kernel
theorem dX1_withPart_31 : decode cX1_withPart 31 = .ok (.iadd, 1) := by decide +kernel
theorem dX1_withPart_32 : decode cX1_withPart 32 = .ok (.ireturn, 1) := by decide +kernel
theorem dX1_seenAs_0 : decode cX1_seenAs 0 = .ok (.iload_n 1, 1) := by decide +kernel
theorem dX1_seenAs_1 : decode cX1_seenAs 1 = .ok (.bipush 100, 2) := by decide +kernel
theorem dX1_seenAs_3 : decode cX1_seenAs 3 = .ok (.idiv, 1) := by decide +kernel
theorem dX1_seenAs_4 : decode cX1_seenAs 4 = .ok (.istore_n 2, 1) := by decide +kernel
theorem dX1_seenAs_5 : decode cX1_seenAs 5 = .ok (.iload_n 1, 1) := by decide +kernel
theorem dX1_seenAs_6 : decode cX1_seenAs 6 = .ok (.bipush 10, 2) := by decide +kernel
theorem dX1_seenAs_8 : decode cX1_seenAs 8 = .ok (.idiv, 1) := by decide +kernel
theorem dX1_seenAs_9 : decode cX1_seenAs 9 = .ok (.bipush 10, 2) := by decide +kernel
theorem dX1_seenAs_11 : decode cX1_seenAs 11 = .ok (.irem, 1) := by decide +kernel
theorem dX1_seenAs_12 : decode cX1_seenAs 12 = .ok (.istore_n 3, 1) := by decide +kernel
theorem dX1_seenAs_13 : decode cX1_seenAs 13 = .ok (.iload_n 1, 1) := by decide +kernel
theorem dX1_seenAs_14 : decode cX1_seenAs 14 = .ok (.bipush 10, 2) := by decide +kernel
theorem dX1_seenAs_16 : decode cX1_seenAs 16 = .ok (.irem, 1) := by decide +kernel
theorem dX1_seenAs_17 : decode cX1_seenAs 17 = .ok (.istore 4, 2) := by decide +kernel
theorem dX1_seenAs_19 : decode cX1_seenAs 19 = .ok (.iload_n 0, 1) := by decide +kernel
theorem dX1_seenAs_20 : decode cX1_seenAs 20 = .ok (.tableswitch 62 1 3 #[28, 40, 50], 28) := by decide +kernel
theorem dX1_seenAs_48 : decode cX1_seenAs 48 = .ok (.bipush 110, 2) := by decide +kernel
theorem dX1_seenAs_50 : decode cX1_seenAs 50 = .ok (.iload_n 2, 1) := by decide +kernel
theorem dX1_seenAs_51 : decode cX1_seenAs 51 = .ok (.iload_n 3, 1) := by decide +kernel
theorem dX1_seenAs_52 : decode cX1_seenAs 52 = .ok (.iadd, 1) := by decide +kernel
theorem dX1_seenAs_53 : decode cX1_seenAs 53 = .ok (.iconst 2, 1) := by decide +kernel
theorem dX1_seenAs_54 : decode cX1_seenAs 54 = .ok (.idiv, 1) := by decide +kernel
theorem dX1_seenAs_55 : decode cX1_seenAs 55 = .ok (.imul, 1) := by decide +kernel
theorem dX1_seenAs_56 : decode cX1_seenAs 56 = .ok (.iload 4, 2) := by decide +kernel
theorem dX1_seenAs_58 : decode cX1_seenAs 58 = .ok (.iadd, 1) := by decide +kernel
theorem dX1_seenAs_59 : decode cX1_seenAs 59 = .ok (.ireturn, 1) := by decide +kernel
theorem dX1_seenAs_60 : decode cX1_seenAs 60 = .ok (.bipush 100, 2) := by decide +kernel
theorem dX1_seenAs_62 : decode cX1_seenAs 62 = .ok (.iload_n 2, 1) := by decide +kernel
theorem dX1_seenAs_63 : decode cX1_seenAs 63 = .ok (.imul, 1) := by decide +kernel
theorem dX1_seenAs_64 : decode cX1_seenAs 64 = .ok (.bipush 10, 2) := by decide +kernel
theorem dX1_seenAs_66 : decode cX1_seenAs 66 = .ok (.iload_n 3, 1) := by decide +kernel
theorem dX1_seenAs_67 : decode cX1_seenAs 67 = .ok (.imul, 1) := by decide +kernel
theorem dX1_seenAs_68 : decode cX1_seenAs 68 = .ok (.iadd, 1) := by decide +kernel
theorem dX1_seenAs_69 : decode cX1_seenAs 69 = .ok (.ireturn, 1) := by decide +kernel
theorem dX1_seenAs_70 : decode cX1_seenAs 70 = .ok (.bipush 111, 2) := by decide +kernel
theorem dX1_seenAs_72 : decode cX1_seenAs 72 = .ok (.iload_n 2, 1) := by decide +kernel
theorem dX1_seenAs_73 : decode cX1_seenAs 73 = .ok (.iload_n 3, 1) := by decide +kernel
theorem dX1_seenAs_74 : decode cX1_seenAs 74 = .ok (.iadd, 1) := by decide +kernel
theorem dX1_seenAs_75 : decode cX1_seenAs 75 = .ok (.iload 4, 2) := by decide +kernel
theorem dX1_seenAs_77 : decode cX1_seenAs 77 = .ok (.iadd, 1) := by decide +kernel
theorem dX1_seenAs_78 : decode cX1_seenAs 78 = .ok (.iconst 3, 1) := by decide +kernel
theorem dX1_seenAs_79 : decode cX1_seenAs 79 = .ok (.idiv, 1) := by decide +kernel
theorem dX1_seenAs_80 : decode cX1_seenAs 80 = .ok (.imul, 1) := by decide +kernel
theorem dX1_seenAs_81 : decode cX1_seenAs 81 = .ok (.ireturn, 1) := by decide +kernel
theorem dX1_seenAs_82 : decode cX1_seenAs 82 = .ok (.iload_n 1, 1) := by decide +kernel
theorem dX1_seenAs_83 : decode cX1_seenAs 83 = .ok (.ireturn, 1) := by decide +kernel
set_option maxRecDepth 20000 in
theorem ggX1_distance_X1_seenAs : GoodIn wsX1_distance wsX1_seenAs := goodIn_r _ [8] (by decide +kernel) (by decide +kernel)
set_option maxRecDepth 20000 in
theorem gX1_distance_X1_seenAs : GoodIn wsX1_distance (va_wsS RX1 13 yX1_seenAs wsX1_seenAs) := goodIn_app (goodIn_of _ (by decide +kernel)) ggX1_distance_X1_seenAs
theorem dX1_distance_0 : decode cX1_distance 0 = .ok (.iload_n 0, 1) := by decide +kernel
theorem dX1_distance_1 : decode cX1_distance 1 = .ok (.iload_n 1, 1) := by decide +kernel
theorem dX1_distance_2 : decode cX1_distance 2 = .ok (.invokestatic 13, 3) := by decide +kernel
theorem dX1_distance_5 : decode cX1_distance 5 = .ok (.istore_n 3, 1) := by decide +kernel
theorem dX1_distance_6 : decode cX1_distance 6 = .ok (.iload_n 0, 1) := by decide +kernel
theorem dX1_distance_7 : decode cX1_distance 7 = .ok (.iload_n 2, 1) := by decide +kernel
theorem dX1_distance_8 : decode cX1_distance 8 = .ok (.invokestatic 13, 3) := by decide +kernel
theorem dX1_distance_11 : decode cX1_distance 11 = .ok (.istore 4, 2) := by decide +kernel
theorem dX1_distance_13 : decode cX1_distance 13 = .ok (.iload_n 3, 1) := by decide +kernel
theorem dX1_distance_14 : decode cX1_distance 14 = .ok (.bipush 100, 2) := by decide +kernel
theorem dX1_distance_16 : decode cX1_distance 16 = .ok (.idiv, 1) := by decide +kernel
theorem dX1_distance_17 : decode cX1_distance 17 = .ok (.iload 4, 2) := by decide +kernel
theorem dX1_distance_19 : decode cX1_distance 19 = .ok (.bipush 100, 2) := by decide +kernel
theorem dX1_distance_21 : decode cX1_distance 21 = .ok (.idiv, 1) := by decide +kernel
theorem dX1_distance_22 : decode cX1_distance 22 = .ok (.isub, 1) := by decide +kernel
theorem dX1_distance_23 : decode cX1_distance 23 = .ok (.invokestatic 16, 3) := by decide +kernel
theorem dX1_distance_26 : decode cX1_distance 26 = .ok (.iload_n 3, 1) := by decide +kernel
theorem dX1_distance_27 : decode cX1_distance 27 = .ok (.bipush 10, 2) := by decide +kernel
theorem dX1_distance_29 : decode cX1_distance 29 = .ok (.idiv, 1) := by decide +kernel
theorem dX1_distance_30 : decode cX1_distance 30 = .ok (.bipush 10, 2) := by decide +kernel
theorem dX1_distance_32 : decode cX1_distance 32 = .ok (.irem, 1) := by decide +kernel
theorem dX1_distance_33 : decode cX1_distance 33 = .ok (.iload 4, 2) := by decide +kernel
theorem dX1_distance_35 : decode cX1_distance 35 = .ok (.bipush 10, 2) := by decide +kernel
theorem dX1_distance_37 : decode cX1_distance 37 = .ok (.idiv, 1) := by decide +kernel
theorem dX1_distance_38 : decode cX1_distance 38 = .ok (.bipush 10, 2) := by decide +kernel
theorem dX1_distance_40 : decode cX1_distance 40 = .ok (.irem, 1) := by decide +kernel
theorem dX1_distance_41 : decode cX1_distance 41 = .ok (.isub, 1) := by decide +kernel
theorem dX1_distance_42 : decode cX1_distance 42 = .ok (.invokestatic 16, 3) := by decide +kernel
theorem dX1_distance_45 : decode cX1_distance 45 = .ok (.iadd, 1) := by decide +kernel
theorem dX1_distance_46 : decode cX1_distance 46 = .ok (.iload_n 3, 1) := by decide +kernel
theorem dX1_distance_47 : decode cX1_distance 47 = .ok (.bipush 10, 2) := by decide +kernel
theorem dX1_distance_49 : decode cX1_distance 49 = .ok (.irem, 1) := by decide +kernel
theorem dX1_distance_50 : decode cX1_distance 50 = .ok (.iload 4, 2) := by decide +kernel
theorem dX1_distance_52 : decode cX1_distance 52 = .ok (.bipush 10, 2) := by decide +kernel
theorem dX1_distance_54 : decode cX1_distance 54 = .ok (.irem, 1) := by decide +kernel
theorem dX1_distance_55 : decode cX1_distance 55 = .ok (.isub, 1) := by decide +kernel
theorem dX1_distance_56 : decode cX1_distance 56 = .ok (.invokestatic 16, 3) := by decide +kernel
theorem dX1_distance_59 : decode cX1_distance 59 = .ok (.iadd, 1) := by decide +kernel
theorem dX1_distance_60 : decode cX1_distance 60 = .ok (.ireturn, 1) := by decide +kernel
set_option maxRecDepth 20000 in
theorem ggX1_change_X1_distance : GoodIn wsX1_change wsX1_distance := goodIn_r _ [4, 5, 6, 7, 8, 9, 10, 3, 11] (by decide +kernel) (by decide +kernel)
set_option maxRecDepth 20000 in
theorem gX1_change_X1_distance : GoodIn wsX1_change (va_wsS RX1 22 yX1_distance wsX1_distance) := goodIn_app (goodIn_of _ (by decide +kernel)) ggX1_change_X1_distance
theorem dX1_change_0 : decode cX1_change 0 = .ok (.iconst 0, 1) := by decide +kernel
theorem dX1_change_1 : decode cX1_change 1 = .ok (.iload_n 0, 1) := by decide +kernel
theorem dX1_change_2 : decode cX1_change 2 = .ok (.iload_n 1, 1) := by decide +kernel
theorem dX1_change_3 : decode cX1_change 3 = .ok (.invokestatic 22, 3) := by decide +kernel
theorem dX1_change_6 : decode cX1_change 6 = .ok (.ireturn, 1) := by decide +kernel
theorem dX2_init_0 : decode cX2_init 0 = .ok (.aload_n 0, 1) := by decide +kernel
theorem dX2_init_1 : decode cX2_init 1 = .ok (.invokespecial 3, 3) := by decide +kernel
theorem dX2_init_4 : decode cX2_init 4 = .ok (.aload_n 0, 1) := by decide +kernel
theorem dX2_init_5 : decode cX2_init 5 = .ok (.bipush 8, 2) := by decide +kernel
theorem dX2_init_7 : decode cX2_init 7 = .ok (.newarray .int, 2) := by decide +kernel
theorem dX2_init_9 : decode cX2_init 9 = .ok (.putfield 9, 3) := by decide +kernel
theorem dX2_init_12 : decode cX2_init 12 = .ok (.aload_n 0, 1) := by decide +kernel
theorem dX2_init_13 : decode cX2_init 13 = .ok (.sipush 256, 3) := by decide +kernel
theorem dX2_init_16 : decode cX2_init 16 = .ok (.newarray .boolean, 2) := by decide +kernel
theorem dX2_init_18 : decode cX2_init 18 = .ok (.putfield 15, 3) := by decide +kernel
theorem dX2_init_21 : decode cX2_init 21 = .ok (.aload_n 0, 1) := by decide +kernel
theorem dX2_init_22 : decode cX2_init 22 = .ok (.sipush 256, 3) := by decide +kernel
theorem dX2_init_25 : decode cX2_init 25 = .ok (.newarray .int, 2) := by decide +kernel
theorem dX2_init_27 : decode cX2_init 27 = .ok (.putfield 19, 3) := by decide +kernel
theorem dX2_init_30 : decode cX2_init 30 = .ok (.aload_n 0, 1) := by decide +kernel
theorem dX2_init_31 : decode cX2_init 31 = .ok (.bipush 8, 2) := by decide +kernel
theorem dX2_init_33 : decode cX2_init 33 = .ok (.newarray .int, 2) := by decide +kernel
theorem dX2_init_35 : decode cX2_init 35 = .ok (.putfield 22, 3) := by decide +kernel
theorem dX2_init_38 : decode cX2_init 38 = .ok (.return_, 1) := by decide +kernel
set_option maxRecDepth 20000 in
theorem ggX2_look_X0_tells : GoodIn wsX2_look wsX0_tells := goodIn_r _ [6, 7, 8, 9, 10, 11, 5, 12, 13, 14, 15, 16, 17, 18, 19, 20, 21, 22, 23, 24, 25, 30, 31, 32, 33, 34, 35, 36, 37, 38, 39] (by decide +kernel) (by decide +kernel)
set_option maxRecDepth 20000 in
theorem gX2_look_X0_tells : GoodIn wsX2_look (wsV RX2 25 RX0 yX0_tells wsX0_tells) := goodIn_app (goodIn_of _ (by decide +kernel)) ggX2_look_X0_tells
theorem dX2_look_0 : decode cX2_look 0 = .ok (.iconst 0, 1) := by decide +kernel
theorem dX2_look_1 : decode cX2_look 1 = .ok (.istore_n 3, 1) := by decide +kernel
theorem dX2_look_2 : decode cX2_look 2 = .ok (.iload_n 3, 1) := by decide +kernel
theorem dX2_look_3 : decode cX2_look 3 = .ok (.bipush 8, 2) := by decide +kernel
theorem dX2_look_5 : decode cX2_look 5 = .ok (.if_icmp .ge 56, 3) := by decide +kernel
theorem dX2_look_8 : decode cX2_look 8 = .ok (.aload_n 0, 1) := by decide +kernel
theorem dX2_look_9 : decode cX2_look 9 = .ok (.getfield 9, 3) := by decide +kernel
theorem dX2_look_12 : decode cX2_look 12 = .ok (.iload_n 3, 1) := by decide +kernel
theorem dX2_look_13 : decode cX2_look 13 = .ok (.iconst 0, 1) := by decide +kernel
theorem dX2_look_14 : decode cX2_look 14 = .ok (.iastore, 1) := by decide +kernel
theorem dX2_look_15 : decode cX2_look 15 = .ok (.iconst 0, 1) := by decide +kernel
theorem dX2_look_16 : decode cX2_look 16 = .ok (.istore 4, 2) := by decide +kernel
theorem dX2_look_18 : decode cX2_look 18 = .ok (.iload 4, 2) := by decide +kernel
theorem dX2_look_20 : decode cX2_look 20 = .ok (.bipush 8, 2) := by decide +kernel
theorem dX2_look_22 : decode cX2_look 22 = .ok (.if_icmp .ge 33, 3) := by decide +kernel
theorem dX2_look_25 : decode cX2_look 25 = .ok (.aload_n 1, 1) := by decide +kernel
theorem dX2_look_26 : decode cX2_look 26 = .ok (.iload_n 2, 1) := by decide +kernel
theorem dX2_look_27 : decode cX2_look 27 = .ok (.iload_n 3, 1) := by decide +kernel
theorem dX2_look_28 : decode cX2_look 28 = .ok (.iload 4, 2) := by decide +kernel
theorem dX2_look_30 : decode cX2_look 30 = .ok (.invokevirtual 25, 3) := by decide +kernel
theorem dX2_look_33 : decode cX2_look 33 = .ok (.ifCond .eq 16, 3) := by decide +kernel
theorem dX2_look_36 : decode cX2_look 36 = .ok (.aload_n 0, 1) := by decide +kernel
theorem dX2_look_37 : decode cX2_look 37 = .ok (.getfield 9, 3) := by decide +kernel
theorem dX2_look_40 : decode cX2_look 40 = .ok (.iload_n 3, 1) := by decide +kernel
theorem dX2_look_41 : decode cX2_look 41 = .ok (.dup2, 1) := by decide +kernel
theorem dX2_look_42 : decode cX2_look 42 = .ok (.iaload, 1) := by decide +kernel
theorem dX2_look_43 : decode cX2_look 43 = .ok (.iconst 1, 1) := by decide +kernel
theorem dX2_look_44 : decode cX2_look 44 = .ok (.iload 4, 2) := by decide +kernel
theorem dX2_look_46 : decode cX2_look 46 = .ok (.ishl, 1) := by decide +kernel
theorem dX2_look_47 : decode cX2_look 47 = .ok (.ior, 1) := by decide +kernel
theorem dX2_look_48 : decode cX2_look 48 = .ok (.iastore, 1) := by decide +kernel
theorem dX2_look_49 : decode cX2_look 49 = .ok (.iinc 4 1, 3) := by decide +kernel
theorem dX2_look_52 : decode cX2_look 52 = .ok (.goto (-34), 3) := by decide +kernel
theorem dX2_look_55 : decode cX2_look 55 = .ok (.iinc 3 1, 3) := by decide +kernel
theorem dX2_look_58 : decode cX2_look 58 = .ok (.goto (-56), 3) := by decide +kernel
theorem dX2_look_61 : decode cX2_look 61 = .ok (.return_, 1) := by decide +kernel
set_option maxRecDepth 20000 in
theorem ggX2_fewestBySets_X2_needOf : GoodIn wsX2_fewestBySets wsX2_needOf := goodIn_r _ [8, 1, 2, 9, 10, 11, 12, 13, 14, 15, 16] (by decide +kernel) (by decide +kernel)
set_option maxRecDepth 20000 in
theorem gX2_fewestBySets_X2_needOf : GoodIn wsX2_fewestBySets (wsV RX2 31 RX2 yX2_needOf wsX2_needOf) := goodIn_app (goodIn_of _ (by decide +kernel)) ggX2_fewestBySets_X2_needOf
theorem dX2_fewestBySets_0 : decode cX2_fewestBySets 0 = .ok (.aload_n 0, 1) := by decide +kernel
theorem dX2_fewestBySets_1 : decode cX2_fewestBySets 1 = .ok (.getfield 15, 3) := by decide +kernel
theorem dX2_fewestBySets_4 : decode cX2_fewestBySets 4 = .ok (.iconst 0, 1) := by decide +kernel
theorem dX2_fewestBySets_5 : decode cX2_fewestBySets 5 = .ok (.iconst 1, 1) := by decide +kernel
theorem dX2_fewestBySets_6 : decode cX2_fewestBySets 6 = .ok (.bastore, 1) := by decide +kernel
theorem dX2_fewestBySets_7 : decode cX2_fewestBySets 7 = .ok (.aload_n 0, 1) := by decide +kernel
theorem dX2_fewestBySets_8 : decode cX2_fewestBySets 8 = .ok (.getfield 19, 3) := by decide +kernel
theorem dX2_fewestBySets_11 : decode cX2_fewestBySets 11 = .ok (.iconst 0, 1) := by decide +kernel
theorem dX2_fewestBySets_12 : decode cX2_fewestBySets 12 = .ok (.iconst 0, 1) := by decide +kernel
theorem dX2_fewestBySets_13 : decode cX2_fewestBySets 13 = .ok (.iastore, 1) := by decide +kernel
theorem dX2_fewestBySets_14 : decode cX2_fewestBySets 14 = .ok (.iconst 0, 1) := by decide +kernel
theorem dX2_fewestBySets_15 : decode cX2_fewestBySets 15 = .ok (.istore_n 1, 1) := by decide +kernel
theorem dX2_fewestBySets_16 : decode cX2_fewestBySets 16 = .ok (.iload_n 1, 1) := by decide +kernel
theorem dX2_fewestBySets_17 : decode cX2_fewestBySets 17 = .ok (.bipush 8, 2) := by decide +kernel
theorem dX2_fewestBySets_19 : decode cX2_fewestBySets 19 = .ok (.if_icmp .ge 73, 3) := by decide +kernel
theorem dX2_fewestBySets_22 : decode cX2_fewestBySets 22 = .ok (.iconst 1, 1) := by decide +kernel
theorem dX2_fewestBySets_23 : decode cX2_fewestBySets 23 = .ok (.iload_n 1, 1) := by decide +kernel
theorem dX2_fewestBySets_24 : decode cX2_fewestBySets 24 = .ok (.ishl, 1) := by decide +kernel
theorem dX2_fewestBySets_25 : decode cX2_fewestBySets 25 = .ok (.istore_n 2, 1) := by decide +kernel
theorem dX2_fewestBySets_26 : decode cX2_fewestBySets 26 = .ok (.iconst 0, 1) := by decide +kernel
theorem dX2_fewestBySets_27 : decode cX2_fewestBySets 27 = .ok (.istore_n 3, 1) := by decide +kernel
theorem dX2_fewestBySets_28 : decode cX2_fewestBySets 28 = .ok (.iload_n 3, 1) := by decide +kernel
theorem dX2_fewestBySets_29 : decode cX2_fewestBySets 29 = .ok (.iload_n 2, 1) := by decide +kernel
theorem dX2_fewestBySets_30 : decode cX2_fewestBySets 30 = .ok (.if_icmp .ge 56, 3) := by decide +kernel
theorem dX2_fewestBySets_33 : decode cX2_fewestBySets 33 = .ok (.aload_n 0, 1) := by decide +kernel
theorem dX2_fewestBySets_34 : decode cX2_fewestBySets 34 = .ok (.getfield 15, 3) := by decide +kernel
theorem dX2_fewestBySets_37 : decode cX2_fewestBySets 37 = .ok (.iload_n 2, 1) := by decide +kernel
theorem dX2_fewestBySets_38 : decode cX2_fewestBySets 38 = .ok (.iload_n 3, 1) := by decide +kernel
theorem dX2_fewestBySets_39 : decode cX2_fewestBySets 39 = .ok (.ior, 1) := by decide +kernel
theorem dX2_fewestBySets_40 : decode cX2_fewestBySets 40 = .ok (.aload_n 0, 1) := by decide +kernel
theorem dX2_fewestBySets_41 : decode cX2_fewestBySets 41 = .ok (.getfield 15, 3) := by decide +kernel
theorem dX2_fewestBySets_44 : decode cX2_fewestBySets 44 = .ok (.iload_n 3, 1) := by decide +kernel
theorem dX2_fewestBySets_45 : decode cX2_fewestBySets 45 = .ok (.baload, 1) := by decide +kernel
theorem dX2_fewestBySets_46 : decode cX2_fewestBySets 46 = .ok (.ifCond .eq 18, 3) := by decide +kernel
theorem dX2_fewestBySets_49 : decode cX2_fewestBySets 49 = .ok (.aload_n 0, 1) := by decide +kernel
theorem dX2_fewestBySets_50 : decode cX2_fewestBySets 50 = .ok (.getfield 9, 3) := by decide +kernel
theorem dX2_fewestBySets_53 : decode cX2_fewestBySets 53 = .ok (.iload_n 1, 1) := by decide +kernel
theorem dX2_fewestBySets_54 : decode cX2_fewestBySets 54 = .ok (.iaload, 1) := by decide +kernel
theorem dX2_fewestBySets_55 : decode cX2_fewestBySets 55 = .ok (.iload_n 3, 1) := by decide +kernel
theorem dX2_fewestBySets_56 : decode cX2_fewestBySets 56 = .ok (.iand, 1) := by decide +kernel
theorem dX2_fewestBySets_57 : decode cX2_fewestBySets 57 = .ok (.ifCond .ne 7, 3) := by decide +kernel
theorem dX2_fewestBySets_60 : decode cX2_fewestBySets 60 = .ok (.iconst 1, 1) := by decide +kernel
theorem dX2_fewestBySets_61 : decode cX2_fewestBySets 61 = .ok (.goto 4, 3) := by decide +kernel
theorem dX2_fewestBySets_64 : decode cX2_fewestBySets 64 = .ok (.iconst 0, 1) := by decide +kernel
theorem dX2_fewestBySets_65 : decode cX2_fewestBySets 65 = .ok (.bastore, 1) := by decide +kernel
theorem dX2_fewestBySets_66 : decode cX2_fewestBySets 66 = .ok (.aload_n 0, 1) := by decide +kernel
theorem dX2_fewestBySets_67 : decode cX2_fewestBySets 67 = .ok (.getfield 19, 3) := by decide +kernel
theorem dX2_fewestBySets_70 : decode cX2_fewestBySets 70 = .ok (.iload_n 2, 1) := by decide +kernel
theorem dX2_fewestBySets_71 : decode cX2_fewestBySets 71 = .ok (.iload_n 3, 1) := by decide +kernel
theorem dX2_fewestBySets_72 : decode cX2_fewestBySets 72 = .ok (.ior, 1) := by decide +kernel
theorem dX2_fewestBySets_73 : decode cX2_fewestBySets 73 = .ok (.aload_n 0, 1) := by decide +kernel
theorem dX2_fewestBySets_74 : decode cX2_fewestBySets 74 = .ok (.iload_n 2, 1) := by decide +kernel
theorem dX2_fewestBySets_75 : decode cX2_fewestBySets 75 = .ok (.iload_n 3, 1) := by decide +kernel
theorem dX2_fewestBySets_76 : decode cX2_fewestBySets 76 = .ok (.invokevirtual 31, 3) := by decide +kernel
theorem dX2_fewestBySets_79 : decode cX2_fewestBySets 79 = .ok (.iastore, 1) := by decide +kernel
theorem dX2_fewestBySets_80 : decode cX2_fewestBySets 80 = .ok (.iinc 3 1, 3) := by decide +kernel
theorem dX2_fewestBySets_83 : decode cX2_fewestBySets 83 = .ok (.goto (-55), 3) := by decide +kernel
theorem dX2_fewestBySets_86 : decode cX2_fewestBySets 86 = .ok (.iinc 1 1, 3) := by decide +kernel
theorem dX2_fewestBySets_89 : decode cX2_fewestBySets 89 = .ok (.goto (-73), 3) := by decide +kernel
theorem dX2_fewestBySets_92 : decode cX2_fewestBySets 92 = .ok (.aload_n 0, 1) := by decide +kernel
theorem dX2_fewestBySets_93 : decode cX2_fewestBySets 93 = .ok (.getfield 19, 3) := by decide +kernel
theorem dX2_fewestBySets_96 : decode cX2_fewestBySets 96 = .ok (.sipush 255, 3) := by decide +kernel
theorem dX2_fewestBySets_99 : decode cX2_fewestBySets 99 = .ok (.iaload, 1) := by decide +kernel
theorem dX2_fewestBySets_100 : decode cX2_fewestBySets 100 = .ok (.ireturn, 1) := by decide +kernel
theorem dX2_needOf_0 : decode cX2_needOf 0 = .ok (.bipush 8, 2) := by decide +kernel
theorem dX2_needOf_2 : decode cX2_needOf 2 = .ok (.istore_n 3, 1) := by decide +kernel
theorem dX2_needOf_3 : decode cX2_needOf 3 = .ok (.iconst 0, 1) := by decide +kernel
theorem dX2_needOf_4 : decode cX2_needOf 4 = .ok (.istore 4, 2) := by decide +kernel
theorem dX2_needOf_6 : decode cX2_needOf 6 = .ok (.iload 4, 2) := by decide +kernel
theorem dX2_needOf_8 : decode cX2_needOf 8 = .ok (.iload_n 2, 1) := by decide +kernel
theorem dX2_needOf_9 : decode cX2_needOf 9 = .ok (.if_icmp .gt 46, 3) := by decide +kernel
theorem dX2_needOf_12 : decode cX2_needOf 12 = .ok (.iload 4, 2) := by decide +kernel
theorem dX2_needOf_14 : decode cX2_needOf 14 = .ok (.iload_n 2, 1) := by decide +kernel
theorem dX2_needOf_15 : decode cX2_needOf 15 = .ok (.iand, 1) := by decide +kernel
theorem dX2_needOf_16 : decode cX2_needOf 16 = .ok (.iload 4, 2) := by decide +kernel
theorem dX2_needOf_18 : decode cX2_needOf 18 = .ok (.if_icmp .ne 31, 3) := by decide +kernel
theorem dX2_needOf_21 : decode cX2_needOf 21 = .ok (.aload_n 0, 1) := by decide +kernel
theorem dX2_needOf_22 : decode cX2_needOf 22 = .ok (.getfield 15, 3) := by decide +kernel
theorem dX2_needOf_25 : decode cX2_needOf 25 = .ok (.iload_n 1, 1) := by decide +kernel
theorem dX2_needOf_26 : decode cX2_needOf 26 = .ok (.iload 4, 2) := by decide +kernel
theorem dX2_needOf_28 : decode cX2_needOf 28 = .ok (.ior, 1) := by decide +kernel
theorem dX2_needOf_29 : decode cX2_needOf 29 = .ok (.baload, 1) := by decide +kernel
theorem dX2_needOf_30 : decode cX2_needOf 30 = .ok (.ifCond .eq 19, 3) := by decide +kernel
theorem dX2_needOf_33 : decode cX2_needOf 33 = .ok (.iload_n 3, 1) := by decide +kernel
theorem dX2_needOf_34 : decode cX2_needOf 34 = .ok (.aload_n 0, 1) := by decide +kernel
theorem dX2_needOf_35 : decode cX2_needOf 35 = .ok (.getfield 19, 3) := by decide +kernel
theorem dX2_needOf_38 : decode cX2_needOf 38 = .ok (.iload_n 2, 1) := by decide +kernel
theorem dX2_needOf_39 : decode cX2_needOf 39 = .ok (.iload 4, 2) := by decide +kernel
theorem dX2_needOf_41 : decode cX2_needOf 41 = .ok (.ixor, 1) := by decide +kernel
theorem dX2_needOf_42 : decode cX2_needOf 42 = .ok (.iaload, 1) := by decide +kernel
theorem dX2_needOf_43 : decode cX2_needOf 43 = .ok (.iconst 1, 1) := by decide +kernel
theorem dX2_needOf_44 : decode cX2_needOf 44 = .ok (.iadd, 1) := by decide +kernel
theorem dX2_needOf_45 : decode cX2_needOf 45 = .ok (.invokestatic 35, 3) := by decide +kernel
theorem dX2_needOf_48 : decode cX2_needOf 48 = .ok (.istore_n 3, 1) := by decide +kernel
theorem dX2_needOf_49 : decode cX2_needOf 49 = .ok (.iinc 4 1, 3) := by decide +kernel
theorem dX2_needOf_52 : decode cX2_needOf 52 = .ok (.goto (-46), 3) := by decide +kernel
theorem dX2_needOf_55 : decode cX2_needOf 55 = .ok (.iload_n 3, 1) := by decide +kernel
theorem dX2_needOf_56 : decode cX2_needOf 56 = .ok (.ireturn, 1) := by decide +kernel
set_option maxRecDepth 20000 in
theorem ggX2_fewestByTrying_X2_fewestFrom : GoodIn wsX2_fewestByTrying wsX2_fewestFrom := goodIn_r _ [6, 3, 4, 5] (by decide +kernel) (by decide +kernel)
set_option maxRecDepth 20000 in
theorem gX2_fewestByTrying_X2_fewestFrom : GoodIn wsX2_fewestByTrying (va_wsS RX2 40 yX2_fewestFrom wsX2_fewestFrom) := goodIn_app (goodIn_of _ (by decide +kernel)) ggX2_fewestByTrying_X2_fewestFrom
theorem dX2_fewestByTrying_0 : decode cX2_fewestByTrying 0 = .ok (.aload_n 0, 1) := by decide +kernel
theorem dX2_fewestByTrying_1 : decode cX2_fewestByTrying 1 = .ok (.getfield 9, 3) := by decide +kernel
theorem dX2_fewestByTrying_4 : decode cX2_fewestByTrying 4 = .ok (.aload_n 0, 1) := by decide +kernel
theorem dX2_fewestByTrying_5 : decode cX2_fewestByTrying 5 = .ok (.getfield 22, 3) := by decide +kernel
theorem dX2_fewestByTrying_8 : decode cX2_fewestByTrying 8 = .ok (.iconst 0, 1) := by decide +kernel
theorem dX2_fewestByTrying_9 : decode cX2_fewestByTrying 9 = .ok (.iconst 0, 1) := by decide +kernel
theorem dX2_fewestByTrying_10 : decode cX2_fewestByTrying 10 = .ok (.bipush 8, 2) := by decide +kernel
theorem dX2_fewestByTrying_12 : decode cX2_fewestByTrying 12 = .ok (.invokestatic 40, 3) := by decide +kernel
theorem dX2_fewestByTrying_15 : decode cX2_fewestByTrying 15 = .ok (.ireturn, 1) := by decide +kernel
set_option maxRecDepth 20000 in
theorem ggX2_fewestFrom_X2_fewestFrom : GoodIn wsX2_fewestFrom wsX2_fewestFrom := goodIn_r _ [0, 1, 2, 3] (by decide +kernel) (by decide +kernel)
set_option maxRecDepth 20000 in
theorem gX2_fewestFrom_X2_fewestFrom : GoodIn wsX2_fewestFrom (va_wsS RX2 40 yX2_fewestFrom wsX2_fewestFrom) := goodIn_app (goodIn_of _ (by decide +kernel)) ggX2_fewestFrom_X2_fewestFrom
theorem dX2_fewestFrom_0 : decode cX2_fewestFrom 0 = .ok (.iload_n 3, 1) := by decide +kernel
theorem dX2_fewestFrom_1 : decode cX2_fewestFrom 1 = .ok (.iload 4, 2) := by decide +kernel
theorem dX2_fewestFrom_3 : decode cX2_fewestFrom 3 = .ok (.if_icmp .lt 6, 3) := by decide +kernel
theorem dX2_fewestFrom_6 : decode cX2_fewestFrom 6 = .ok (.iload 4, 2) := by decide +kernel
theorem dX2_fewestFrom_8 : decode cX2_fewestFrom 8 = .ok (.ireturn, 1) := by decide +kernel
theorem dX2_fewestFrom_9 : decode cX2_fewestFrom 9 = .ok (.iload_n 2, 1) := by decide +kernel
theorem dX2_fewestFrom_10 : decode cX2_fewestFrom 10 = .ok (.bipush 8, 2) := by decide +kernel
theorem dX2_fewestFrom_12 : decode cX2_fewestFrom 12 = .ok (.if_icmp .lt 5, 3) := by decide +kernel
theorem dX2_fewestFrom_15 : decode cX2_fewestFrom 15 = .ok (.iload_n 3, 1) := by decide +kernel
theorem dX2_fewestFrom_16 : decode cX2_fewestFrom 16 = .ok (.ireturn, 1) := by decide +kernel
theorem dX2_fewestFrom_17 : decode cX2_fewestFrom 17 = .ok (.iload 4, 2) := by decide +kernel
theorem dX2_fewestFrom_19 : decode cX2_fewestFrom 19 = .ok (.istore 5, 2) := by decide +kernel
theorem dX2_fewestFrom_21 : decode cX2_fewestFrom 21 = .ok (.iconst 0, 1) := by decide +kernel
theorem dX2_fewestFrom_22 : decode cX2_fewestFrom 22 = .ok (.istore 6, 2) := by decide +kernel
theorem dX2_fewestFrom_24 : decode cX2_fewestFrom 24 = .ok (.iload 6, 2) := by decide +kernel
theorem dX2_fewestFrom_26 : decode cX2_fewestFrom 26 = .ok (.iload_n 3, 1) := by decide +kernel
theorem dX2_fewestFrom_27 : decode cX2_fewestFrom 27 = .ok (.if_icmp .gt 78, 3) := by decide +kernel
theorem dX2_fewestFrom_30 : decode cX2_fewestFrom 30 = .ok (.iload 6, 2) := by decide +kernel
theorem dX2_fewestFrom_32 : decode cX2_fewestFrom 32 = .ok (.bipush 8, 2) := by decide +kernel
theorem dX2_fewestFrom_34 : decode cX2_fewestFrom 34 = .ok (.if_icmp .ge 71, 3) := by decide +kernel
theorem dX2_fewestFrom_37 : decode cX2_fewestFrom 37 = .ok (.aload_n 1, 1) := by decide +kernel
theorem dX2_fewestFrom_38 : decode cX2_fewestFrom 38 = .ok (.iload 6, 2) := by decide +kernel
theorem dX2_fewestFrom_40 : decode cX2_fewestFrom 40 = .ok (.iaload, 1) := by decide +kernel
theorem dX2_fewestFrom_41 : decode cX2_fewestFrom 41 = .ok (.aload_n 0, 1) := by decide +kernel
theorem dX2_fewestFrom_42 : decode cX2_fewestFrom 42 = .ok (.iload_n 2, 1) := by decide +kernel
theorem dX2_fewestFrom_43 : decode cX2_fewestFrom 43 = .ok (.iaload, 1) := by decide +kernel
theorem dX2_fewestFrom_44 : decode cX2_fewestFrom 44 = .ok (.iand, 1) := by decide +kernel
theorem dX2_fewestFrom_45 : decode cX2_fewestFrom 45 = .ok (.ifCond .ne 54, 3) := by decide +kernel
theorem dX2_fewestFrom_48 : decode cX2_fewestFrom 48 = .ok (.aload_n 1, 1) := by decide +kernel
theorem dX2_fewestFrom_49 : decode cX2_fewestFrom 49 = .ok (.iload 6, 2) := by decide +kernel
theorem dX2_fewestFrom_51 : decode cX2_fewestFrom 51 = .ok (.dup2, 1) := by decide +kernel
theorem dX2_fewestFrom_52 : decode cX2_fewestFrom 52 = .ok (.iaload, 1) := by decide +kernel
theorem dX2_fewestFrom_53 : decode cX2_fewestFrom 53 = .ok (.iconst 1, 1) := by decide +kernel
theorem dX2_fewestFrom_54 : decode cX2_fewestFrom 54 = .ok (.iload_n 2, 1) := by decide +kernel
theorem dX2_fewestFrom_55 : decode cX2_fewestFrom 55 = .ok (.ishl, 1) := by decide +kernel
theorem dX2_fewestFrom_56 : decode cX2_fewestFrom 56 = .ok (.ior, 1) := by decide +kernel
theorem dX2_fewestFrom_57 : decode cX2_fewestFrom 57 = .ok (.iastore, 1) := by decide +kernel
theorem dX2_fewestFrom_58 : decode cX2_fewestFrom 58 = .ok (.iload 6, 2) := by decide +kernel
theorem dX2_fewestFrom_60 : decode cX2_fewestFrom 60 = .ok (.iload_n 3, 1) := by decide +kernel
theorem dX2_fewestFrom_61 : decode cX2_fewestFrom 61 = .ok (.if_icmp .ne 9, 3) := by decide +kernel
theorem dX2_fewestFrom_64 : decode cX2_fewestFrom 64 = .ok (.iload_n 3, 1) := by decide +kernel
theorem dX2_fewestFrom_65 : decode cX2_fewestFrom 65 = .ok (.iconst 1, 1) := by decide +kernel
theorem dX2_fewestFrom_66 : decode cX2_fewestFrom 66 = .ok (.iadd, 1) := by decide +kernel
theorem dX2_fewestFrom_67 : decode cX2_fewestFrom 67 = .ok (.goto 4, 3) := by decide +kernel
theorem dX2_fewestFrom_70 : decode cX2_fewestFrom 70 = .ok (.iload_n 3, 1) := by decide +kernel
