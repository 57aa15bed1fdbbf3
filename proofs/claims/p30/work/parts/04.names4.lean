theorem dX2_fewestFrom_71 : decode cX2_fewestFrom 71 = .ok (.istore 7, 2) := by decide +kernel
theorem dX2_fewestFrom_73 : decode cX2_fewestFrom 73 = .ok (.aload_n 0, 1) := by decide +kernel
theorem dX2_fewestFrom_74 : decode cX2_fewestFrom 74 = .ok (.aload_n 1, 1) := by decide +kernel
theorem dX2_fewestFrom_75 : decode cX2_fewestFrom 75 = .ok (.iload_n 2, 1) := by decide +kernel
theorem dX2_fewestFrom_76 : decode cX2_fewestFrom 76 = .ok (.iconst 1, 1) := by decide +kernel
theorem dX2_fewestFrom_77 : decode cX2_fewestFrom 77 = .ok (.iadd, 1) := by decide +kernel
theorem dX2_fewestFrom_78 : decode cX2_fewestFrom 78 = .ok (.iload 7, 2) := by decide +kernel
theorem dX2_fewestFrom_80 : decode cX2_fewestFrom 80 = .ok (.iload 5, 2) := by decide +kernel
theorem dX2_fewestFrom_82 : decode cX2_fewestFrom 82 = .ok (.invokestatic 40, 3) := by decide +kernel
theorem dX2_fewestFrom_85 : decode cX2_fewestFrom 85 = .ok (.istore 5, 2) := by decide +kernel
theorem dX2_fewestFrom_87 : decode cX2_fewestFrom 87 = .ok (.aload_n 1, 1) := by decide +kernel
theorem dX2_fewestFrom_88 : decode cX2_fewestFrom 88 = .ok (.iload 6, 2) := by decide +kernel
theorem dX2_fewestFrom_90 : decode cX2_fewestFrom 90 = .ok (.dup2, 1) := by decide +kernel
theorem dX2_fewestFrom_91 : decode cX2_fewestFrom 91 = .ok (.iaload, 1) := by decide +kernel
theorem dX2_fewestFrom_92 : decode cX2_fewestFrom 92 = .ok (.iconst 1, 1) := by decide +kernel
theorem dX2_fewestFrom_93 : decode cX2_fewestFrom 93 = .ok (.iload_n 2, 1) := by decide +kernel
theorem dX2_fewestFrom_94 : decode cX2_fewestFrom 94 = .ok (.ishl, 1) := by decide +kernel
theorem dX2_fewestFrom_95 : decode cX2_fewestFrom 95 = .ok (.iconst (-1), 1) := by decide +kernel
theorem dX2_fewestFrom_96 : decode cX2_fewestFrom 96 = .ok (.ixor, 1) := by decide +kernel
theorem dX2_fewestFrom_97 : decode cX2_fewestFrom 97 = .ok (.iand, 1) := by decide +kernel
theorem dX2_fewestFrom_98 : decode cX2_fewestFrom 98 = .ok (.iastore, 1) := by decide +kernel
theorem dX2_fewestFrom_99 : decode cX2_fewestFrom 99 = .ok (.iinc 6 1, 3) := by decide +kernel
theorem dX2_fewestFrom_102 : decode cX2_fewestFrom 102 = .ok (.goto (-78), 3) := by decide +kernel
theorem dX2_fewestFrom_105 : decode cX2_fewestFrom 105 = .ok (.iload 5, 2) := by decide +kernel
theorem dX2_fewestFrom_107 : decode cX2_fewestFrom 107 = .ok (.ireturn, 1) := by decide +kernel
set_option maxRecDepth 20000 in
theorem ggX3_init_X0_init : GoodIn wsX3_init wsX0_init := goodIn_r _ [13, 14, 2, 3, 15, 16, 17, 18, 19, 20, 21, 22, 27, 28, 29, 30, 31, 32, 33, 34, 35, 36] (by decide +kernel) (by decide +kernel)
set_option maxRecDepth 20000 in
theorem gX3_init_X0_init : GoodIn wsX3_init (wsX0_init) := ggX3_init_X0_init
theorem dX3_init_0 : decode cX3_init 0 = .ok (.aload_n 0, 1) := by decide +kernel
theorem dX3_init_1 : decode cX3_init 1 = .ok (.invokespecial 3, 3) := by decide +kernel
theorem dX3_init_4 : decode cX3_init 4 = .ok (.aload_n 0, 1) := by decide +kernel
theorem dX3_init_5 : decode cX3_init 5 = .ok (.iconst 2, 1) := by decide +kernel
theorem dX3_init_6 : decode cX3_init 6 = .ok (.anewarray 9, 3) := by decide +kernel
theorem dX3_init_9 : decode cX3_init 9 = .ok (.putfield 11, 3) := by decide +kernel
theorem dX3_init_12 : decode cX3_init 12 = .ok (.aload_n 0, 1) := by decide +kernel
theorem dX3_init_13 : decode cX3_init 13 = .ok (.iconst 2, 1) := by decide +kernel
theorem dX3_init_14 : decode cX3_init 14 = .ok (.newarray .boolean, 2) := by decide +kernel
theorem dX3_init_16 : decode cX3_init 16 = .ok (.putfield 17, 3) := by decide +kernel
theorem dX3_init_19 : decode cX3_init 19 = .ok (.aload_n 0, 1) := by decide +kernel
theorem dX3_init_20 : decode cX3_init 20 = .ok (.bipush 6, 2) := by decide +kernel
theorem dX3_init_22 : decode cX3_init 22 = .ok (.anewarray 9, 3) := by decide +kernel
theorem dX3_init_25 : decode cX3_init 25 = .ok (.putfield 21, 3) := by decide +kernel
theorem dX3_init_28 : decode cX3_init 28 = .ok (.iconst 0, 1) := by decide +kernel
theorem dX3_init_29 : decode cX3_init 29 = .ok (.istore_n 1, 1) := by decide +kernel
theorem dX3_init_30 : decode cX3_init 30 = .ok (.iload_n 1, 1) := by decide +kernel
theorem dX3_init_31 : decode cX3_init 31 = .ok (.iconst 2, 1) := by decide +kernel
theorem dX3_init_32 : decode cX3_init 32 = .ok (.if_icmp .ge 22, 3) := by decide +kernel
theorem dX3_init_35 : decode cX3_init 35 = .ok (.aload_n 0, 1) := by decide +kernel
theorem dX3_init_36 : decode cX3_init 36 = .ok (.getfield 11, 3) := by decide +kernel
theorem dX3_init_39 : decode cX3_init 39 = .ok (.iload_n 1, 1) := by decide +kernel
theorem dX3_init_40 : decode cX3_init 40 = .ok (.new 9, 3) := by decide +kernel
theorem dX3_init_43 : decode cX3_init 43 = .ok (.dup, 1) := by decide +kernel
theorem dX3_init_44 : decode cX3_init 44 = .ok (.invokespecial 24, 3) := by decide +kernel
theorem dX3_init_47 : decode cX3_init 47 = .ok (.aastore, 1) := by decide +kernel
theorem dX3_init_48 : decode cX3_init 48 = .ok (.iinc 1 1, 3) := by decide +kernel
theorem dX3_init_51 : decode cX3_init 51 = .ok (.goto (-21), 3) := by decide +kernel
theorem dX3_init_54 : decode cX3_init 54 = .ok (.iconst 0, 1) := by decide +kernel
theorem dX3_init_55 : decode cX3_init 55 = .ok (.istore_n 1, 1) := by decide +kernel
theorem dX3_init_56 : decode cX3_init 56 = .ok (.iload_n 1, 1) := by decide +kernel
theorem dX3_init_57 : decode cX3_init 57 = .ok (.bipush 6, 2) := by decide +kernel
theorem dX3_init_59 : decode cX3_init 59 = .ok (.if_icmp .ge 22, 3) := by decide +kernel
theorem dX3_init_62 : decode cX3_init 62 = .ok (.aload_n 0, 1) := by decide +kernel
theorem dX3_init_63 : decode cX3_init 63 = .ok (.getfield 21, 3) := by decide +kernel
theorem dX3_init_66 : decode cX3_init 66 = .ok (.iload_n 1, 1) := by decide +kernel
theorem dX3_init_67 : decode cX3_init 67 = .ok (.new 9, 3) := by decide +kernel
theorem dX3_init_70 : decode cX3_init 70 = .ok (.dup, 1) := by decide +kernel
theorem dX3_init_71 : decode cX3_init 71 = .ok (.invokespecial 24, 3) := by decide +kernel
theorem dX3_init_74 : decode cX3_init 74 = .ok (.aastore, 1) := by decide +kernel
theorem dX3_init_75 : decode cX3_init 75 = .ok (.iinc 1 1, 3) := by decide +kernel
theorem dX3_init_78 : decode cX3_init 78 = .ok (.goto (-22), 3) := by decide +kernel
theorem dX3_init_81 : decode cX3_init 81 = .ok (.return_, 1) := by decide +kernel
set_option maxRecDepth 20000 in
theorem ggX3_save_X3_dropOldest : GoodIn wsX3_save wsX3_dropOldest := goodIn_r _ [7, 2, 1, 27, 28, 29, 30] (by decide +kernel) (by decide +kernel)
set_option maxRecDepth 20000 in
theorem gX3_save_X3_dropOldest : GoodIn wsX3_save (wsV RX3 29 RX3 yX3_dropOldest wsX3_dropOldest) := goodIn_app (goodIn_of _ (by decide +kernel)) ggX3_save_X3_dropOldest
set_option maxRecDepth 20000 in
theorem ggX3_save_X0_copyFrom : GoodIn wsX3_save wsX0_copyFrom := goodIn_r _ [12, 13, 14, 15, 16, 17, 18, 19, 20, 21, 22, 23, 24, 25, 26, 31, 32, 33, 34, 35, 36, 37, 38, 39, 40] (by decide +kernel) (by decide +kernel)
set_option maxRecDepth 20000 in
theorem gX3_save_X0_copyFrom : GoodIn wsX3_save (wsV RX3 32 RX0 yX0_copyFrom wsX0_copyFrom) := goodIn_app (goodIn_of _ (by decide +kernel)) ggX3_save_X0_copyFrom
theorem dX3_save_0 : decode cX3_save 0 = .ok (.aload_n 0, 1) := by decide +kernel
theorem dX3_save_1 : decode cX3_save 1 = .ok (.getfield 25, 3) := by decide +kernel
theorem dX3_save_4 : decode cX3_save 4 = .ok (.bipush 6, 2) := by decide +kernel
theorem dX3_save_6 : decode cX3_save 6 = .ok (.if_icmp .lt 7, 3) := by decide +kernel
theorem dX3_save_9 : decode cX3_save 9 = .ok (.aload_n 0, 1) := by decide +kernel
theorem dX3_save_10 : decode cX3_save 10 = .ok (.invokevirtual 29, 3) := by decide +kernel
theorem dX3_save_13 : decode cX3_save 13 = .ok (.aload_n 0, 1) := by decide +kernel
theorem dX3_save_14 : decode cX3_save 14 = .ok (.getfield 21, 3) := by decide +kernel
theorem dX3_save_17 : decode cX3_save 17 = .ok (.aload_n 0, 1) := by decide +kernel
theorem dX3_save_18 : decode cX3_save 18 = .ok (.getfield 25, 3) := by decide +kernel
theorem dX3_save_21 : decode cX3_save 21 = .ok (.aaload, 1) := by decide +kernel
theorem dX3_save_22 : decode cX3_save 22 = .ok (.aload_n 1, 1) := by decide +kernel
theorem dX3_save_23 : decode cX3_save 23 = .ok (.invokevirtual 32, 3) := by decide +kernel
theorem dX3_save_26 : decode cX3_save 26 = .ok (.aload_n 0, 1) := by decide +kernel
theorem dX3_save_27 : decode cX3_save 27 = .ok (.dup, 1) := by decide +kernel
theorem dX3_save_28 : decode cX3_save 28 = .ok (.getfield 25, 3) := by decide +kernel
theorem dX3_save_31 : decode cX3_save 31 = .ok (.iconst 1, 1) := by decide +kernel
theorem dX3_save_32 : decode cX3_save 32 = .ok (.iadd, 1) := by decide +kernel
theorem dX3_save_33 : decode cX3_save 33 = .ok (.putfield 25, 3) := by decide +kernel
theorem dX3_save_36 : decode cX3_save 36 = .ok (.return_, 1) := by decide +kernel
theorem dX3_dropOldest_0 : decode cX3_dropOldest 0 = .ok (.aload_n 0, 1) := by decide +kernel
theorem dX3_dropOldest_1 : decode cX3_dropOldest 1 = .ok (.getfield 21, 3) := by decide +kernel
theorem dX3_dropOldest_4 : decode cX3_dropOldest 4 = .ok (.iconst 0, 1) := by decide +kernel
theorem dX3_dropOldest_5 : decode cX3_dropOldest 5 = .ok (.aaload, 1) := by decide +kernel
theorem dX3_dropOldest_6 : decode cX3_dropOldest 6 = .ok (.astore_n 1, 1) := by decide +kernel
theorem dX3_dropOldest_7 : decode cX3_dropOldest 7 = .ok (.iconst 1, 1) := by decide +kernel
theorem dX3_dropOldest_8 : decode cX3_dropOldest 8 = .ok (.istore_n 2, 1) := by decide +kernel
theorem dX3_dropOldest_9 : decode cX3_dropOldest 9 = .ok (.iload_n 2, 1) := by decide +kernel
theorem dX3_dropOldest_10 : decode cX3_dropOldest 10 = .ok (.bipush 6, 2) := by decide +kernel
theorem dX3_dropOldest_12 : decode cX3_dropOldest 12 = .ok (.if_icmp .ge 23, 3) := by decide +kernel
theorem dX3_dropOldest_15 : decode cX3_dropOldest 15 = .ok (.aload_n 0, 1) := by decide +kernel
theorem dX3_dropOldest_16 : decode cX3_dropOldest 16 = .ok (.getfield 21, 3) := by decide +kernel
theorem dX3_dropOldest_19 : decode cX3_dropOldest 19 = .ok (.iload_n 2, 1) := by decide +kernel
theorem dX3_dropOldest_20 : decode cX3_dropOldest 20 = .ok (.iconst 1, 1) := by decide +kernel
theorem dX3_dropOldest_21 : decode cX3_dropOldest 21 = .ok (.isub, 1) := by decide +kernel
theorem dX3_dropOldest_22 : decode cX3_dropOldest 22 = .ok (.aload_n 0, 1) := by decide +kernel
theorem dX3_dropOldest_23 : decode cX3_dropOldest 23 = .ok (.getfield 21, 3) := by decide +kernel
theorem dX3_dropOldest_26 : decode cX3_dropOldest 26 = .ok (.iload_n 2, 1) := by decide +kernel
theorem dX3_dropOldest_27 : decode cX3_dropOldest 27 = .ok (.aaload, 1) := by decide +kernel
theorem dX3_dropOldest_28 : decode cX3_dropOldest 28 = .ok (.aastore, 1) := by decide +kernel
theorem dX3_dropOldest_29 : decode cX3_dropOldest 29 = .ok (.iinc 2 1, 3) := by decide +kernel
theorem dX3_dropOldest_32 : decode cX3_dropOldest 32 = .ok (.goto (-23), 3) := by decide +kernel
theorem dX3_dropOldest_35 : decode cX3_dropOldest 35 = .ok (.aload_n 0, 1) := by decide +kernel
theorem dX3_dropOldest_36 : decode cX3_dropOldest 36 = .ok (.getfield 21, 3) := by decide +kernel
theorem dX3_dropOldest_39 : decode cX3_dropOldest 39 = .ok (.iconst 5, 1) := by decide +kernel
theorem dX3_dropOldest_40 : decode cX3_dropOldest 40 = .ok (.aload_n 1, 1) := by decide +kernel
theorem dX3_dropOldest_41 : decode cX3_dropOldest 41 = .ok (.aastore, 1) := by decide +kernel
theorem dX3_dropOldest_42 : decode cX3_dropOldest 42 = .ok (.aload_n 0, 1) := by decide +kernel
theorem dX3_dropOldest_43 : decode cX3_dropOldest 43 = .ok (.iconst 5, 1) := by decide +kernel
theorem dX3_dropOldest_44 : decode cX3_dropOldest 44 = .ok (.putfield 25, 3) := by decide +kernel
theorem dX3_dropOldest_47 : decode cX3_dropOldest 47 = .ok (.return_, 1) := by decide +kernel
set_option maxRecDepth 20000 in
theorem ggX3_restore_X0_copyFrom : GoodIn wsX3_restore wsX0_copyFrom := goodIn_r _ [7, 8, 9, 10, 11, 12, 13, 14, 15, 16, 17, 18, 19, 20, 21, 26, 27, 28, 29, 30, 31, 32, 33, 34, 35] (by decide +kernel) (by decide +kernel)
set_option maxRecDepth 20000 in
theorem gX3_restore_X0_copyFrom : GoodIn wsX3_restore (wsV RX3 32 RX0 yX0_copyFrom wsX0_copyFrom) := goodIn_app (goodIn_of _ (by decide +kernel)) ggX3_restore_X0_copyFrom
theorem dX3_restore_0 : decode cX3_restore 0 = .ok (.aload_n 0, 1) := by decide +kernel
theorem dX3_restore_1 : decode cX3_restore 1 = .ok (.getfield 25, 3) := by decide +kernel
theorem dX3_restore_4 : decode cX3_restore 4 = .ok (.ifCond .le 26, 3) := by decide +kernel
theorem dX3_restore_7 : decode cX3_restore 7 = .ok (.aload_n 0, 1) := by decide +kernel
theorem dX3_restore_8 : decode cX3_restore 8 = .ok (.dup, 1) := by decide +kernel
theorem dX3_restore_9 : decode cX3_restore 9 = .ok (.getfield 25, 3) := by decide +kernel
theorem dX3_restore_12 : decode cX3_restore 12 = .ok (.iconst 1, 1) := by decide +kernel
theorem dX3_restore_13 : decode cX3_restore 13 = .ok (.isub, 1) := by decide +kernel
theorem dX3_restore_14 : decode cX3_restore 14 = .ok (.putfield 25, 3) := by decide +kernel
theorem dX3_restore_17 : decode cX3_restore 17 = .ok (.aload_n 1, 1) := by decide +kernel
theorem dX3_restore_18 : decode cX3_restore 18 = .ok (.aload_n 0, 1) := by decide +kernel
theorem dX3_restore_19 : decode cX3_restore 19 = .ok (.getfield 21, 3) := by decide +kernel
theorem dX3_restore_22 : decode cX3_restore 22 = .ok (.aload_n 0, 1) := by decide +kernel
theorem dX3_restore_23 : decode cX3_restore 23 = .ok (.getfield 25, 3) := by decide +kernel
theorem dX3_restore_26 : decode cX3_restore 26 = .ok (.aaload, 1) := by decide +kernel
theorem dX3_restore_27 : decode cX3_restore 27 = .ok (.invokevirtual 32, 3) := by decide +kernel
theorem dX3_restore_30 : decode cX3_restore 30 = .ok (.return_, 1) := by decide +kernel
theorem dX4_init_0 : decode cX4_init 0 = .ok (.aload_n 0, 1) := by decide +kernel
theorem dX4_init_1 : decode cX4_init 1 = .ok (.invokespecial 3, 3) := by decide +kernel
theorem dX4_init_4 : decode cX4_init 4 = .ok (.aload_n 0, 1) := by decide +kernel
theorem dX4_init_5 : decode cX4_init 5 = .ok (.bipush 60, 2) := by decide +kernel
theorem dX4_init_7 : decode cX4_init 7 = .ok (.newarray .int, 2) := by decide +kernel
theorem dX4_init_9 : decode cX4_init 9 = .ok (.putfield 9, 3) := by decide +kernel
theorem dX4_init_12 : decode cX4_init 12 = .ok (.return_, 1) := by decide +kernel
theorem dX4_isFull_0 : decode cX4_isFull 0 = .ok (.aload_n 0, 1) := by decide +kernel
theorem dX4_isFull_1 : decode cX4_isFull 1 = .ok (.getfield 15, 3) := by decide +kernel
theorem dX4_isFull_4 : decode cX4_isFull 4 = .ok (.bipush 60, 2) := by decide +kernel
theorem dX4_isFull_6 : decode cX4_isFull 6 = .ok (.if_icmp .lt 7, 3) := by decide +kernel
theorem dX4_isFull_9 : decode cX4_isFull 9 = .ok (.iconst 1, 1) := by decide +kernel
theorem dX4_isFull_10 : decode cX4_isFull 10 = .ok (.goto 4, 3) := by decide +kernel
theorem dX4_isFull_13 : decode cX4_isFull 13 = .ok (.iconst 0, 1) := by decide +kernel
theorem dX4_isFull_14 : decode cX4_isFull 14 = .ok (.ireturn, 1) := by decide +kernel
theorem dX4_add_0 : decode cX4_add 0 = .ok (.aload_n 0, 1) := by decide +kernel
theorem dX4_add_1 : decode cX4_add 1 = .ok (.getfield 15, 3) := by decide +kernel
theorem dX4_add_4 : decode cX4_add 4 = .ok (.bipush 60, 2) := by decide +kernel
theorem dX4_add_6 : decode cX4_add 6 = .ok (.if_icmp .ge 23, 3) := by decide +kernel
theorem dX4_add_9 : decode cX4_add 9 = .ok (.aload_n 0, 1) := by decide +kernel
theorem dX4_add_10 : decode cX4_add 10 = .ok (.getfield 9, 3) := by decide +kernel
theorem dX4_add_13 : decode cX4_add 13 = .ok (.aload_n 0, 1) := by decide +kernel
theorem dX4_add_14 : decode cX4_add 14 = .ok (.getfield 15, 3) := by decide +kernel
theorem dX4_add_17 : decode cX4_add 17 = .ok (.iload_n 1, 1) := by decide +kernel
theorem dX4_add_18 : decode cX4_add 18 = .ok (.iastore, 1) := by decide +kernel
theorem dX4_add_19 : decode cX4_add 19 = .ok (.aload_n 0, 1) := by decide +kernel
theorem dX4_add_20 : decode cX4_add 20 = .ok (.dup, 1) := by decide +kernel
theorem dX4_add_21 : decode cX4_add 21 = .ok (.getfield 15, 3) := by decide +kernel
theorem dX4_add_24 : decode cX4_add 24 = .ok (.iconst 1, 1) := by decide +kernel
theorem dX4_add_25 : decode cX4_add 25 = .ok (.iadd, 1) := by decide +kernel
theorem dX4_add_26 : decode cX4_add 26 = .ok (.putfield 15, 3) := by decide +kernel
theorem dX4_add_29 : decode cX4_add 29 = .ok (.return_, 1) := by decide +kernel
theorem dX4_clear_0 : decode cX4_clear 0 = .ok (.aload_n 0, 1) := by decide +kernel
theorem dX4_clear_1 : decode cX4_clear 1 = .ok (.iconst 0, 1) := by decide +kernel
theorem dX4_clear_2 : decode cX4_clear 2 = .ok (.putfield 15, 3) := by decide +kernel
theorem dX4_clear_5 : decode cX4_clear 5 = .ok (.return_, 1) := by decide +kernel
set_option maxRecDepth 20000 in
theorem ggX4_firstWrong_X4_fits : GoodIn wsX4_firstWrong wsX4_fits := goodIn_r _ [6] (by decide +kernel) (by decide +kernel)
set_option maxRecDepth 20000 in
theorem gX4_firstWrong_X4_fits : GoodIn wsX4_firstWrong (va_wsS RX4 19 yX4_fits wsX4_fits) := goodIn_app (goodIn_of _ (by decide +kernel)) ggX4_firstWrong_X4_fits
theorem dX4_firstWrong_0 : decode cX4_firstWrong 0 = .ok (.iconst 0, 1) := by decide +kernel
theorem dX4_firstWrong_1 : decode cX4_firstWrong 1 = .ok (.istore_n 1, 1) := by decide +kernel
theorem dX4_firstWrong_2 : decode cX4_firstWrong 2 = .ok (.iload_n 1, 1) := by decide +kernel
theorem dX4_firstWrong_3 : decode cX4_firstWrong 3 = .ok (.aload_n 0, 1) := by decide +kernel
theorem dX4_firstWrong_4 : decode cX4_firstWrong 4 = .ok (.getfield 15, 3) := by decide +kernel
theorem dX4_firstWrong_7 : decode cX4_firstWrong 7 = .ok (.if_icmp .ge 33, 3) := by decide +kernel
theorem dX4_firstWrong_10 : decode cX4_firstWrong 10 = .ok (.iload_n 1, 1) := by decide +kernel
theorem dX4_firstWrong_11 : decode cX4_firstWrong 11 = .ok (.bipush 60, 2) := by decide +kernel
theorem dX4_firstWrong_13 : decode cX4_firstWrong 13 = .ok (.if_icmp .ge 27, 3) := by decide +kernel
theorem dX4_firstWrong_16 : decode cX4_firstWrong 16 = .ok (.iload_n 1, 1) := by decide +kernel
theorem dX4_firstWrong_17 : decode cX4_firstWrong 17 = .ok (.bipush 6, 2) := by decide +kernel
theorem dX4_firstWrong_19 : decode cX4_firstWrong 19 = .ok (.irem, 1) := by decide +kernel
theorem dX4_firstWrong_20 : decode cX4_firstWrong 20 = .ok (.aload_n 0, 1) := by decide +kernel
theorem dX4_firstWrong_21 : decode cX4_firstWrong 21 = .ok (.getfield 9, 3) := by decide +kernel
theorem dX4_firstWrong_24 : decode cX4_firstWrong 24 = .ok (.iload_n 1, 1) := by decide +kernel
theorem dX4_firstWrong_25 : decode cX4_firstWrong 25 = .ok (.iaload, 1) := by decide +kernel
theorem dX4_firstWrong_26 : decode cX4_firstWrong 26 = .ok (.invokestatic 19, 3) := by decide +kernel
theorem dX4_firstWrong_29 : decode cX4_firstWrong 29 = .ok (.ifCond .ne 5, 3) := by decide +kernel
theorem dX4_firstWrong_32 : decode cX4_firstWrong 32 = .ok (.iload_n 1, 1) := by decide +kernel
theorem dX4_firstWrong_33 : decode cX4_firstWrong 33 = .ok (.ireturn, 1) := by decide +kernel
theorem dX4_firstWrong_34 : decode cX4_firstWrong 34 = .ok (.iinc 1 1, 3) := by decide +kernel
theorem dX4_firstWrong_37 : decode cX4_firstWrong 37 = .ok (.goto (-35), 3) := by decide +kernel
theorem dX4_firstWrong_40 : decode cX4_firstWrong 40 = .ok (.aload_n 0, 1) := by decide +kernel
theorem dX4_firstWrong_41 : decode cX4_firstWrong 41 = .ok (.getfield 15, 3) := by decide +kernel
theorem dX4_firstWrong_44 : decode cX4_firstWrong 44 = .ok (.ireturn, 1) := by decide +kernel
theorem dX4_fits_0 : decode cX4_fits 0 = .ok (.iload_n 0, 1) := by decide +kernel
theorem dX4_fits_1 : decode cX4_fits 1 = .ok (.lookupswitch 77 #[(0, 35), (1, 53), (5, 65)], 35) := by decide +kernel
theorem dX4_fits_36 : decode cX4_fits 36 = .ok (.iload_n 1, 1) := by decide +kernel
theorem dX4_fits_37 : decode cX4_fits 37 = .ok (.bipush 48, 2) := by decide +kernel
theorem dX4_fits_39 : decode cX4_fits 39 = .ok (.if_icmp .lt 13, 3) := by decide +kernel
theorem dX4_fits_42 : decode cX4_fits 42 = .ok (.iload_n 1, 1) := by decide +kernel
theorem dX4_fits_43 : decode cX4_fits 43 = .ok (.bipush 56, 2) := by decide +kernel
theorem dX4_fits_45 : decode cX4_fits 45 = .ok (.if_icmp .ge 7, 3) := by decide +kernel
theorem dX4_fits_48 : decode cX4_fits 48 = .ok (.iconst 1, 1) := by decide +kernel
theorem dX4_fits_49 : decode cX4_fits 49 = .ok (.goto 4, 3) := by decide +kernel
theorem dX4_fits_52 : decode cX4_fits 52 = .ok (.iconst 0, 1) := by decide +kernel
theorem dX4_fits_53 : decode cX4_fits 53 = .ok (.ireturn, 1) := by decide +kernel
theorem dX4_fits_54 : decode cX4_fits 54 = .ok (.iload_n 1, 1) := by decide +kernel
theorem dX4_fits_55 : decode cX4_fits 55 = .ok (.bipush 61, 2) := by decide +kernel
theorem dX4_fits_57 : decode cX4_fits 57 = .ok (.if_icmp .ne 7, 3) := by decide +kernel
theorem dX4_fits_60 : decode cX4_fits 60 = .ok (.iconst 1, 1) := by decide +kernel
theorem dX4_fits_61 : decode cX4_fits 61 = .ok (.goto 4, 3) := by decide +kernel
theorem dX4_fits_64 : decode cX4_fits 64 = .ok (.iconst 0, 1) := by decide +kernel
theorem dX4_fits_65 : decode cX4_fits 65 = .ok (.ireturn, 1) := by decide +kernel
theorem dX4_fits_66 : decode cX4_fits 66 = .ok (.iload_n 1, 1) := by decide +kernel
theorem dX4_fits_67 : decode cX4_fits 67 = .ok (.bipush 59, 2) := by decide +kernel
theorem dX4_fits_69 : decode cX4_fits 69 = .ok (.if_icmp .ne 7, 3) := by decide +kernel
theorem dX4_fits_72 : decode cX4_fits 72 = .ok (.iconst 1, 1) := by decide +kernel
theorem dX4_fits_73 : decode cX4_fits 73 = .ok (.goto 4, 3) := by decide +kernel
theorem dX4_fits_76 : decode cX4_fits 76 = .ok (.iconst 0, 1) := by decide +kernel
theorem dX4_fits_77 : decode cX4_fits 77 = .ok (.ireturn, 1) := by decide +kernel
theorem dX4_fits_78 : decode cX4_fits 78 = .ok (.iload_n 1, 1) := by decide +kernel
theorem dX4_fits_79 : decode cX4_fits 79 = .ok (.bipush 48, 2) := by decide +kernel
theorem dX4_fits_81 : decode cX4_fits 81 = .ok (.if_icmp .lt 13, 3) := by decide +kernel
theorem dX4_fits_84 : decode cX4_fits 84 = .ok (.iload_n 1, 1) := by decide +kernel
theorem dX4_fits_85 : decode cX4_fits 85 = .ok (.bipush 57, 2) := by decide +kernel
theorem dX4_fits_87 : decode cX4_fits 87 = .ok (.if_icmp .gt 7, 3) := by decide +kernel
theorem dX4_fits_90 : decode cX4_fits 90 = .ok (.iconst 1, 1) := by decide +kernel
theorem dX4_fits_91 : decode cX4_fits 91 = .ok (.goto 4, 3) := by decide +kernel
theorem dX4_fits_94 : decode cX4_fits 94 = .ok (.iconst 0, 1) := by decide +kernel
theorem dX4_fits_95 : decode cX4_fits 95 = .ok (.ireturn, 1) := by decide +kernel
set_option maxRecDepth 20000 in
theorem ggX4_tellsPots_X4_firstWrong : GoodIn wsX4_tellsPots wsX4_firstWrong := goodIn_r _ [6, 1, 7, 8, 9, 5, 10, 11, 12] (by decide +kernel) (by decide +kernel)
set_option maxRecDepth 20000 in
theorem gX4_tellsPots_X4_firstWrong : GoodIn wsX4_tellsPots (wsV RX4 23 RX4 yX4_firstWrong wsX4_firstWrong) := goodIn_app (goodIn_of _ (by decide +kernel)) ggX4_tellsPots_X4_firstWrong
theorem dX4_tellsPots_0 : decode cX4_tellsPots 0 = .ok (.aload_n 0, 1) := by decide +kernel
theorem dX4_tellsPots_1 : decode cX4_tellsPots 1 = .ok (.getfield 15, 3) := by decide +kernel
theorem dX4_tellsPots_4 : decode cX4_tellsPots 4 = .ok (.bipush 6, 2) := by decide +kernel
theorem dX4_tellsPots_6 : decode cX4_tellsPots 6 = .ok (.irem, 1) := by decide +kernel
theorem dX4_tellsPots_7 : decode cX4_tellsPots 7 = .ok (.iconst 5, 1) := by decide +kernel
theorem dX4_tellsPots_8 : decode cX4_tellsPots 8 = .ok (.if_icmp .ne 18, 3) := by decide +kernel
theorem dX4_tellsPots_11 : decode cX4_tellsPots 11 = .ok (.aload_n 0, 1) := by decide +kernel
theorem dX4_tellsPots_12 : decode cX4_tellsPots 12 = .ok (.invokevirtual 23, 3) := by decide +kernel
theorem dX4_tellsPots_15 : decode cX4_tellsPots 15 = .ok (.aload_n 0, 1) := by decide +kernel
theorem dX4_tellsPots_16 : decode cX4_tellsPots 16 = .ok (.getfield 15, 3) := by decide +kernel
theorem dX4_tellsPots_19 : decode cX4_tellsPots 19 = .ok (.if_icmp .ne 7, 3) := by decide +kernel
theorem dX4_tellsPots_22 : decode cX4_tellsPots 22 = .ok (.iconst 1, 1) := by decide +kernel
theorem dX4_tellsPots_23 : decode cX4_tellsPots 23 = .ok (.goto 4, 3) := by decide +kernel
theorem dX4_tellsPots_26 : decode cX4_tellsPots 26 = .ok (.iconst 0, 1) := by decide +kernel
theorem dX4_tellsPots_27 : decode cX4_tellsPots 27 = .ok (.ireturn, 1) := by decide +kernel
theorem dX4_giveColours_0 : decode cX4_giveColours 0 = .ok (.iconst 0, 1) := by decide +kernel
theorem dX4_giveColours_1 : decode cX4_giveColours 1 = .ok (.istore_n 2, 1) := by decide +kernel
theorem dX4_giveColours_2 : decode cX4_giveColours 2 = .ok (.iload_n 2, 1) := by decide +kernel
theorem dX4_giveColours_3 : decode cX4_giveColours 3 = .ok (.iconst 4, 1) := by decide +kernel
theorem dX4_giveColours_4 : decode cX4_giveColours 4 = .ok (.iadd, 1) := by decide +kernel
theorem dX4_giveColours_5 : decode cX4_giveColours 5 = .ok (.aload_n 0, 1) := by decide +kernel
theorem dX4_giveColours_6 : decode cX4_giveColours 6 = .ok (.getfield 15, 3) := by decide +kernel
theorem dX4_giveColours_9 : decode cX4_giveColours 9 = .ok (.if_icmp .ge 84, 3) := by decide +kernel
theorem dX4_giveColours_12 : decode cX4_giveColours 12 = .ok (.iload_n 2, 1) := by decide +kernel
theorem dX4_giveColours_13 : decode cX4_giveColours 13 = .ok (.iconst 4, 1) := by decide +kernel
theorem dX4_giveColours_14 : decode cX4_giveColours 14 = .ok (.iadd, 1) := by decide +kernel
theorem dX4_giveColours_15 : decode cX4_giveColours 15 = .ok (.bipush 60, 2) := by decide +kernel
theorem dX4_giveColours_17 : decode cX4_giveColours 17 = .ok (.if_icmp .ge 76, 3) := by decide +kernel
theorem dX4_giveColours_20 : decode cX4_giveColours 20 = .ok (.aload_n 0, 1) := by decide +kernel
theorem dX4_giveColours_21 : decode cX4_giveColours 21 = .ok (.getfield 9, 3) := by decide +kernel
theorem dX4_giveColours_24 : decode cX4_giveColours 24 = .ok (.iload_n 2, 1) := by decide +kernel
theorem dX4_giveColours_25 : decode cX4_giveColours 25 = .ok (.iaload, 1) := by decide +kernel
theorem dX4_giveColours_26 : decode cX4_giveColours 26 = .ok (.bipush 48, 2) := by decide +kernel
theorem dX4_giveColours_28 : decode cX4_giveColours 28 = .ok (.isub, 1) := by decide +kernel
theorem dX4_giveColours_29 : decode cX4_giveColours 29 = .ok (.istore_n 3, 1) := by decide +kernel
theorem dX4_giveColours_30 : decode cX4_giveColours 30 = .ok (.iload_n 3, 1) := by decide +kernel
theorem dX4_giveColours_31 : decode cX4_giveColours 31 = .ok (.ifCond .lt 56, 3) := by decide +kernel
theorem dX4_giveColours_34 : decode cX4_giveColours 34 = .ok (.iload_n 3, 1) := by decide +kernel
theorem dX4_giveColours_35 : decode cX4_giveColours 35 = .ok (.bipush 8, 2) := by decide +kernel
theorem dX4_giveColours_37 : decode cX4_giveColours 37 = .ok (.if_icmp .ge 50, 3) := by decide +kernel
theorem dX4_giveColours_40 : decode cX4_giveColours 40 = .ok (.aload_n 1, 1) := by decide +kernel
theorem dX4_giveColours_41 : decode cX4_giveColours 41 = .ok (.getfield 27, 3) := by decide +kernel
theorem dX4_giveColours_44 : decode cX4_giveColours 44 = .ok (.iload_n 3, 1) := by decide +kernel
theorem dX4_giveColours_45 : decode cX4_giveColours 45 = .ok (.bipush 100, 2) := by decide +kernel
theorem dX4_giveColours_47 : decode cX4_giveColours 47 = .ok (.aload_n 0, 1) := by decide +kernel
theorem dX4_giveColours_48 : decode cX4_giveColours 48 = .ok (.getfield 9, 3) := by decide +kernel
theorem dX4_giveColours_51 : decode cX4_giveColours 51 = .ok (.iload_n 2, 1) := by decide +kernel
theorem dX4_giveColours_52 : decode cX4_giveColours 52 = .ok (.iconst 2, 1) := by decide +kernel
theorem dX4_giveColours_53 : decode cX4_giveColours 53 = .ok (.iadd, 1) := by decide +kernel
theorem dX4_giveColours_54 : decode cX4_giveColours 54 = .ok (.iaload, 1) := by decide +kernel
theorem dX4_giveColours_55 : decode cX4_giveColours 55 = .ok (.bipush 48, 2) := by decide +kernel
theorem dX4_giveColours_57 : decode cX4_giveColours 57 = .ok (.isub, 1) := by decide +kernel
theorem dX4_giveColours_58 : decode cX4_giveColours 58 = .ok (.imul, 1) := by decide +kernel
theorem dX4_giveColours_59 : decode cX4_giveColours 59 = .ok (.bipush 10, 2) := by decide +kernel
theorem dX4_giveColours_61 : decode cX4_giveColours 61 = .ok (.aload_n 0, 1) := by decide +kernel
theorem dX4_giveColours_62 : decode cX4_giveColours 62 = .ok (.getfield 9, 3) := by decide +kernel
theorem dX4_giveColours_65 : decode cX4_giveColours 65 = .ok (.iload_n 2, 1) := by decide +kernel
theorem dX4_giveColours_66 : decode cX4_giveColours 66 = .ok (.iconst 3, 1) := by decide +kernel
theorem dX4_giveColours_67 : decode cX4_giveColours 67 = .ok (.iadd, 1) := by decide +kernel
theorem dX4_giveColours_68 : decode cX4_giveColours 68 = .ok (.iaload, 1) := by decide +kernel
theorem dX4_giveColours_69 : decode cX4_giveColours 69 = .ok (.bipush 48, 2) := by decide +kernel
theorem dX4_giveColours_71 : decode cX4_giveColours 71 = .ok (.isub, 1) := by decide +kernel
theorem dX4_giveColours_72 : decode cX4_giveColours 72 = .ok (.imul, 1) := by decide +kernel
theorem dX4_giveColours_73 : decode cX4_giveColours 73 = .ok (.iadd, 1) := by decide +kernel
theorem dX4_giveColours_74 : decode cX4_giveColours 74 = .ok (.aload_n 0, 1) := by decide +kernel
theorem dX4_giveColours_75 : decode cX4_giveColours 75 = .ok (.getfield 9, 3) := by decide +kernel
theorem dX4_giveColours_78 : decode cX4_giveColours 78 = .ok (.iload_n 2, 1) := by decide +kernel
theorem dX4_giveColours_79 : decode cX4_giveColours 79 = .ok (.iconst 4, 1) := by decide +kernel
theorem dX4_giveColours_80 : decode cX4_giveColours 80 = .ok (.iadd, 1) := by decide +kernel
theorem dX4_giveColours_81 : decode cX4_giveColours 81 = .ok (.iaload, 1) := by decide +kernel
theorem dX4_giveColours_82 : decode cX4_giveColours 82 = .ok (.bipush 48, 2) := by decide +kernel
theorem dX4_giveColours_84 : decode cX4_giveColours 84 = .ok (.isub, 1) := by decide +kernel
theorem dX4_giveColours_85 : decode cX4_giveColours 85 = .ok (.iadd, 1) := by decide +kernel
theorem dX4_giveColours_86 : decode cX4_giveColours 86 = .ok (.iastore, 1) := by decide +kernel
theorem dX4_giveColours_87 : decode cX4_giveColours 87 = .ok (.iinc 2 6, 3) := by decide +kernel
theorem dX4_giveColours_90 : decode cX4_giveColours 90 = .ok (.goto (-88), 3) := by decide +kernel
theorem dX4_giveColours_93 : decode cX4_giveColours 93 = .ok (.return_, 1) := by decide +kernel
set_option maxRecDepth 20000 in
theorem ggX5_init_X0_init : GoodIn wsX5_init wsX0_init := goodIn_r _ [22, 23, 2, 3, 24, 25, 26, 27, 28, 29, 30, 31, 53, 54, 55, 56, 57, 58, 59, 60, 61, 62] (by decide +kernel) (by decide +kernel)
set_option maxRecDepth 20000 in
theorem gX5_init_X0_init : GoodIn wsX5_init (wsX0_init) := ggX5_init_X0_init
set_option maxRecDepth 20000 in
theorem ggX5_init_X3_init : GoodIn wsX5_init wsX3_init := goodIn_r _ [34, 35, 2, 3, 36, 37, 38, 39, 40, 5, 6, 41, 21, 22, 23, 24, 25, 26, 27, 28, 29, 30, 31, 67, 68, 69, 70, 53, 54, 55, 56, 57, 58, 59, 60, 61, 62] (by decide +kernel) (by decide +kernel)
set_option maxRecDepth 20000 in
theorem gX5_init_X3_init : GoodIn wsX5_init (wsX3_init) := ggX5_init_X3_init
set_option maxRecDepth 20000 in
theorem ggX5_init_X4_init : GoodIn wsX5_init wsX4_init := goodIn_r _ [43, 44, 2, 3, 24, 45, 71, 72] (by decide +kernel) (by decide +kernel)
set_option maxRecDepth 20000 in
theorem gX5_init_X4_init_n25 : GoodIn wsX5_init (wsX4_init) := ggX5_init_X4_init
set_option maxRecDepth 20000 in
theorem ggX5_init_X2_init : GoodIn wsX5_init wsX2_init := goodIn_r _ [47, 48, 2, 3, 24, 49, 38, 50, 51, 52, 73, 74, 75, 76] (by decide +kernel) (by decide +kernel)
set_option maxRecDepth 20000 in
theorem gX5_init_X2_init_n32 : GoodIn wsX5_init (wsX2_init) := ggX5_init_X2_init
theorem dX5_init_0 : decode cX5_init 0 = .ok (.aload_n 0, 1) := by decide +kernel
theorem dX5_init_1 : decode cX5_init 1 = .ok (.invokespecial 3, 3) := by decide +kernel
theorem dX5_init_4 : decode cX5_init 4 = .ok (.aload_n 0, 1) := by decide +kernel
theorem dX5_init_5 : decode cX5_init 5 = .ok (.new 9, 3) := by decide +kernel
theorem dX5_init_8 : decode cX5_init 8 = .ok (.dup, 1) := by decide +kernel
theorem dX5_init_9 : decode cX5_init 9 = .ok (.invokespecial 11, 3) := by decide +kernel
theorem dX5_init_12 : decode cX5_init 12 = .ok (.putfield 12, 3) := by decide +kernel
theorem dX5_init_15 : decode cX5_init 15 = .ok (.aload_n 0, 1) := by decide +kernel
theorem dX5_init_16 : decode cX5_init 16 = .ok (.new 16, 3) := by decide +kernel
theorem dX5_init_19 : decode cX5_init 19 = .ok (.dup, 1) := by decide +kernel
theorem dX5_init_20 : decode cX5_init 20 = .ok (.invokespecial 18, 3) := by decide +kernel
theorem dX5_init_23 : decode cX5_init 23 = .ok (.putfield 19, 3) := by decide +kernel
theorem dX5_init_26 : decode cX5_init 26 = .ok (.aload_n 0, 1) := by decide +kernel
theorem dX5_init_27 : decode cX5_init 27 = .ok (.new 23, 3) := by decide +kernel
theorem dX5_init_30 : decode cX5_init 30 = .ok (.dup, 1) := by decide +kernel
theorem dX5_init_31 : decode cX5_init 31 = .ok (.invokespecial 25, 3) := by decide +kernel
theorem dX5_init_34 : decode cX5_init 34 = .ok (.putfield 26, 3) := by decide +kernel
theorem dX5_init_37 : decode cX5_init 37 = .ok (.aload_n 0, 1) := by decide +kernel
theorem dX5_init_38 : decode cX5_init 38 = .ok (.new 30, 3) := by decide +kernel
theorem dX5_init_41 : decode cX5_init 41 = .ok (.dup, 1) := by decide +kernel
theorem dX5_init_42 : decode cX5_init 42 = .ok (.invokespecial 32, 3) := by decide +kernel
theorem dX5_init_45 : decode cX5_init 45 = .ok (.putfield 33, 3) := by decide +kernel
theorem dX5_init_48 : decode cX5_init 48 = .ok (.return_, 1) := by decide +kernel
set_option maxRecDepth 20000 in
theorem ggX5_mix_X5_needPot : GoodIn wsX5_mix wsX5_needPot := goodIn_ca (goodIn_r _ [6, 7, 8] (by decide +kernel) (by decide +kernel)) (goodIn_sub (fun _ h => List.mem_cons_of_mem _ (List.mem_append_left _ (List.mem_append_right _ h))) (by decide +kernel))
set_option maxRecDepth 20000 in
theorem gX5_mix_X5_needPot : GoodIn wsX5_mix (va_wsS RX5 37 yX5_needPot wsX5_needPot) := goodIn_app (goodIn_of _ (by decide +kernel)) ggX5_mix_X5_needPot
set_option maxRecDepth 20000 in
theorem ggX5_mix_X5_needWithin : GoodIn wsX5_mix wsX5_needWithin := goodIn_ca (goodIn_r _ [11, 12, 13] (by decide +kernel) (by decide +kernel)) (goodIn_sub (fun _ h => List.mem_cons_of_mem _ (List.mem_append_right _ h)) (by decide +kernel))
set_option maxRecDepth 20000 in
theorem gX5_mix_X5_needWithin : GoodIn wsX5_mix (va_wsS RX5 41 yX5_needWithin wsX5_needWithin) := goodIn_app (goodIn_of _ (by decide +kernel)) ggX5_mix_X5_needWithin
set_option maxRecDepth 20000 in
theorem ggX5_mix_X3_save : GoodIn wsX5_mix wsX3_save := goodIn_r _ [18, 19, 20, 21, 22, 23, 17, 24, 25, 26, 27, 28, 29, 30, 31, 32, 33, 34, 35, 36, 37, 38, 39, 40, 41, 42, 43, 66, 67, 68, 69, 56, 57, 58, 59, 60, 61, 62, 63, 64, 65] (by decide +kernel) (by decide +kernel)
set_option maxRecDepth 20000 in
theorem gX5_mix_X3_save : GoodIn wsX5_mix (wsV RX5 45 RX3 yX3_save wsX3_save) := goodIn_app (goodIn_of _ (by decide +kernel)) ggX5_mix_X3_save
set_option maxRecDepth 20000 in
theorem ggX5_mix_X1_partOf : GoodIn wsX5_mix wsX1_partOf := goodIn_r _ [47] (by decide +kernel) (by decide +kernel)
set_option maxRecDepth 20000 in
theorem gX5_mix_X1_partOf : GoodIn wsX5_mix (va_wsS RX5 53 yX1_partOf wsX1_partOf) := goodIn_app (goodIn_of _ (by decide +kernel)) ggX5_mix_X1_partOf
set_option maxRecDepth 20000 in
theorem ggX5_mix_X1_withPart : GoodIn wsX5_mix wsX1_withPart := goodIn_r _ [50, 51, 45, 46, 47] (by decide +kernel) (by decide +kernel)
set_option maxRecDepth 20000 in
theorem gX5_mix_X1_withPart : GoodIn wsX5_mix (va_wsS RX5 59 yX1_withPart wsX1_withPart) := goodIn_app (goodIn_of _ (by decide +kernel)) ggX5_mix_X1_withPart
theorem dX5_mix_0 : decode cX5_mix 0 = .ok (.iload_n 1, 1) := by decide +kernel
theorem dX5_mix_1 : decode cX5_mix 1 = .ok (.invokestatic 37, 3) := by decide +kernel
theorem dX5_mix_4 : decode cX5_mix 4 = .ok (.iload_n 2, 1) := by decide +kernel
theorem dX5_mix_5 : decode cX5_mix 5 = .ok (.iconst 0, 1) := by decide +kernel
theorem dX5_mix_6 : decode cX5_mix 6 = .ok (.iconst 2, 1) := by decide +kernel
theorem dX5_mix_7 : decode cX5_mix 7 = .ok (.invokestatic 41, 3) := by decide +kernel
theorem dX5_mix_10 : decode cX5_mix 10 = .ok (.iload_n 3, 1) := by decide +kernel
theorem dX5_mix_11 : decode cX5_mix 11 = .ok (.iconst 0, 1) := by decide +kernel
theorem dX5_mix_12 : decode cX5_mix 12 = .ok (.bipush 9, 2) := by decide +kernel
theorem dX5_mix_14 : decode cX5_mix 14 = .ok (.invokestatic 41, 3) := by decide +kernel
theorem dX5_mix_17 : decode cX5_mix 17 = .ok (.aload_n 0, 1) := by decide +kernel
theorem dX5_mix_18 : decode cX5_mix 18 = .ok (.getfield 19, 3) := by decide +kernel
theorem dX5_mix_21 : decode cX5_mix 21 = .ok (.aload_n 0, 1) := by decide +kernel
theorem dX5_mix_22 : decode cX5_mix 22 = .ok (.getfield 12, 3) := by decide +kernel
theorem dX5_mix_25 : decode cX5_mix 25 = .ok (.invokevirtual 45, 3) := by decide +kernel
theorem dX5_mix_28 : decode cX5_mix 28 = .ok (.aload_n 0, 1) := by decide +kernel
theorem dX5_mix_29 : decode cX5_mix 29 = .ok (.getfield 12, 3) := by decide +kernel
theorem dX5_mix_32 : decode cX5_mix 32 = .ok (.getfield 49, 3) := by decide +kernel
theorem dX5_mix_35 : decode cX5_mix 35 = .ok (.iload_n 1, 1) := by decide +kernel
theorem dX5_mix_36 : decode cX5_mix 36 = .ok (.iaload, 1) := by decide +kernel
theorem dX5_mix_37 : decode cX5_mix 37 = .ok (.iload_n 2, 1) := by decide +kernel
theorem dX5_mix_38 : decode cX5_mix 38 = .ok (.invokestatic 53, 3) := by decide +kernel
theorem dX5_mix_41 : decode cX5_mix 41 = .ok (.istore 4, 2) := by decide +kernel
theorem dX5_mix_43 : decode cX5_mix 43 = .ok (.aload_n 0, 1) := by decide +kernel
theorem dX5_mix_44 : decode cX5_mix 44 = .ok (.getfield 12, 3) := by decide +kernel
theorem dX5_mix_47 : decode cX5_mix 47 = .ok (.getfield 49, 3) := by decide +kernel
theorem dX5_mix_50 : decode cX5_mix 50 = .ok (.iload_n 1, 1) := by decide +kernel
theorem dX5_mix_51 : decode cX5_mix 51 = .ok (.aload_n 0, 1) := by decide +kernel
theorem dX5_mix_52 : decode cX5_mix 52 = .ok (.getfield 12, 3) := by decide +kernel
theorem dX5_mix_55 : decode cX5_mix 55 = .ok (.getfield 49, 3) := by decide +kernel
theorem dX5_mix_58 : decode cX5_mix 58 = .ok (.iload_n 1, 1) := by decide +kernel
theorem dX5_mix_59 : decode cX5_mix 59 = .ok (.iaload, 1) := by decide +kernel
theorem dX5_mix_60 : decode cX5_mix 60 = .ok (.iload_n 2, 1) := by decide +kernel
theorem dX5_mix_61 : decode cX5_mix 61 = .ok (.iload_n 3, 1) := by decide +kernel
theorem dX5_mix_62 : decode cX5_mix 62 = .ok (.invokestatic 59, 3) := by decide +kernel
theorem dX5_mix_65 : decode cX5_mix 65 = .ok (.iastore, 1) := by decide +kernel
theorem dX5_mix_66 : decode cX5_mix 66 = .ok (.iload 4, 2) := by decide +kernel
theorem dX5_mix_68 : decode cX5_mix 68 = .ok (.ireturn, 1) := by decide +kernel
set_option maxRecDepth 20000 in
theorem ggX5_painter_X5_needPainter : GoodIn wsX5_painter wsX5_needPainter := goodIn_ca (goodIn_r _ [6, 7, 8] (by decide +kernel) (by decide +kernel)) (goodIn_sub (fun _ h => List.mem_cons_of_mem _ (List.mem_append_left _ (List.mem_append_right _ h))) (by decide +kernel))
set_option maxRecDepth 20000 in
theorem gX5_painter_X5_needPainter : GoodIn wsX5_painter (va_wsS RX5 63 yX5_needPainter wsX5_needPainter) := goodIn_app (goodIn_of _ (by decide +kernel)) ggX5_painter_X5_needPainter
set_option maxRecDepth 20000 in
theorem ggX5_painter_X5_needWithin : GoodIn wsX5_painter wsX5_needWithin := goodIn_ca (goodIn_r _ [11, 12, 13] (by decide +kernel) (by decide +kernel)) (goodIn_sub (fun _ h => List.mem_cons_of_mem _ (List.mem_append_right _ h)) (by decide +kernel))
set_option maxRecDepth 20000 in
theorem gX5_painter_X5_needWithin : GoodIn wsX5_painter (va_wsS RX5 41 yX5_needWithin wsX5_needWithin) := goodIn_app (goodIn_of _ (by decide +kernel)) ggX5_painter_X5_needWithin
set_option maxRecDepth 20000 in
theorem ggX5_painter_X3_save : GoodIn wsX5_painter wsX3_save := goodIn_r _ [18, 19, 20, 21, 22, 23, 17, 24, 25, 26, 27, 28, 29, 30, 31, 32, 33, 34, 35, 36, 37, 38, 39, 40, 41, 42, 43, 58, 59, 60, 61, 48, 49, 50, 51, 52, 53, 54, 55, 56, 57] (by decide +kernel) (by decide +kernel)
set_option maxRecDepth 20000 in
theorem gX5_painter_X3_save : GoodIn wsX5_painter (wsV RX5 45 RX3 yX3_save wsX3_save) := goodIn_app (goodIn_of _ (by decide +kernel)) ggX5_painter_X3_save
theorem dX5_painter_0 : decode cX5_painter 0 = .ok (.iload_n 1, 1) := by decide +kernel
theorem dX5_painter_1 : decode cX5_painter 1 = .ok (.invokestatic 63, 3) := by decide +kernel
theorem dX5_painter_4 : decode cX5_painter 4 = .ok (.iload_n 2, 1) := by decide +kernel
theorem dX5_painter_5 : decode cX5_painter 5 = .ok (.iconst 0, 1) := by decide +kernel
theorem dX5_painter_6 : decode cX5_painter 6 = .ok (.iconst 1, 1) := by decide +kernel
theorem dX5_painter_7 : decode cX5_painter 7 = .ok (.invokestatic 41, 3) := by decide +kernel
theorem dX5_painter_10 : decode cX5_painter 10 = .ok (.iload_n 3, 1) := by decide +kernel
theorem dX5_painter_11 : decode cX5_painter 11 = .ok (.iconst 0, 1) := by decide +kernel
theorem dX5_painter_12 : decode cX5_painter 12 = .ok (.iload_n 2, 1) := by decide +kernel
theorem dX5_painter_13 : decode cX5_painter 13 = .ok (.ifCond .ne 7, 3) := by decide +kernel
theorem dX5_painter_16 : decode cX5_painter 16 = .ok (.iconst 3, 1) := by decide +kernel
theorem dX5_painter_17 : decode cX5_painter 17 = .ok (.goto 5, 3) := by decide +kernel
theorem dX5_painter_20 : decode cX5_painter 20 = .ok (.bipush 27, 2) := by decide +kernel
theorem dX5_painter_22 : decode cX5_painter 22 = .ok (.invokestatic 41, 3) := by decide +kernel
theorem dX5_painter_25 : decode cX5_painter 25 = .ok (.aload_n 0, 1) := by decide +kernel
theorem dX5_painter_26 : decode cX5_painter 26 = .ok (.getfield 19, 3) := by decide +kernel
theorem dX5_painter_29 : decode cX5_painter 29 = .ok (.aload_n 0, 1) := by decide +kernel
theorem dX5_painter_30 : decode cX5_painter 30 = .ok (.getfield 12, 3) := by decide +kernel
theorem dX5_painter_33 : decode cX5_painter 33 = .ok (.invokevirtual 45, 3) := by decide +kernel
theorem dX5_painter_36 : decode cX5_painter 36 = .ok (.iload_n 2, 1) := by decide +kernel
theorem dX5_painter_37 : decode cX5_painter 37 = .ok (.ifCond .ne 13, 3) := by decide +kernel
theorem dX5_painter_40 : decode cX5_painter 40 = .ok (.aload_n 0, 1) := by decide +kernel
theorem dX5_painter_41 : decode cX5_painter 41 = .ok (.getfield 12, 3) := by decide +kernel
theorem dX5_painter_44 : decode cX5_painter 44 = .ok (.getfield 66, 3) := by decide +kernel
theorem dX5_painter_47 : decode cX5_painter 47 = .ok (.goto 10, 3) := by decide +kernel
theorem dX5_painter_50 : decode cX5_painter 50 = .ok (.aload_n 0, 1) := by decide +kernel
theorem dX5_painter_51 : decode cX5_painter 51 = .ok (.getfield 12, 3) := by decide +kernel
theorem dX5_painter_54 : decode cX5_painter 54 = .ok (.getfield 69, 3) := by decide +kernel
theorem dX5_painter_57 : decode cX5_painter 57 = .ok (.astore 4, 2) := by decide +kernel
theorem dX5_painter_59 : decode cX5_painter 59 = .ok (.aload 4, 2) := by decide +kernel
theorem dX5_painter_61 : decode cX5_painter 61 = .ok (.iload_n 1, 1) := by decide +kernel
theorem dX5_painter_62 : decode cX5_painter 62 = .ok (.iaload, 1) := by decide +kernel
theorem dX5_painter_63 : decode cX5_painter 63 = .ok (.istore 5, 2) := by decide +kernel
theorem dX5_painter_65 : decode cX5_painter 65 = .ok (.aload 4, 2) := by decide +kernel
theorem dX5_painter_67 : decode cX5_painter 67 = .ok (.iload_n 1, 1) := by decide +kernel
theorem dX5_painter_68 : decode cX5_painter 68 = .ok (.iload_n 3, 1) := by decide +kernel
theorem dX5_painter_69 : decode cX5_painter 69 = .ok (.iastore, 1) := by decide +kernel
theorem dX5_painter_70 : decode cX5_painter 70 = .ok (.iload 5, 2) := by decide +kernel
theorem dX5_painter_72 : decode cX5_painter 72 = .ok (.ireturn, 1) := by decide +kernel
set_option maxRecDepth 20000 in
theorem ggX5_borrow_X5_needPainter : GoodIn wsX5_borrow wsX5_needPainter := goodIn_ca (goodIn_r _ [6, 7, 8] (by decide +kernel) (by decide +kernel)) (goodIn_sub (fun _ h => List.mem_cons_of_mem _ (List.mem_append_right _ h)) (by decide +kernel))
set_option maxRecDepth 20000 in
theorem gX5_borrow_X5_needPainter : GoodIn wsX5_borrow (va_wsS RX5 63 yX5_needPainter wsX5_needPainter) := goodIn_app (goodIn_of _ (by decide +kernel)) ggX5_borrow_X5_needPainter
set_option maxRecDepth 20000 in
theorem ggX5_borrow_X3_save : GoodIn wsX5_borrow wsX3_save := goodIn_r _ [13, 14, 15, 16, 17, 18, 12, 19, 20, 21, 22, 23, 24, 25, 26, 27, 28, 29, 30, 31, 32, 33, 34, 35, 36, 37, 38, 53, 54, 55, 56, 43, 44, 45, 46, 47, 48, 49, 50, 51, 52] (by decide +kernel) (by decide +kernel)
set_option maxRecDepth 20000 in
theorem gX5_borrow_X3_save : GoodIn wsX5_borrow (wsV RX5 45 RX3 yX3_save wsX3_save) := goodIn_app (goodIn_of _ (by decide +kernel)) ggX5_borrow_X3_save
theorem dX5_borrow_0 : decode cX5_borrow 0 = .ok (.iload_n 1, 1) := by decide +kernel
theorem dX5_borrow_1 : decode cX5_borrow 1 = .ok (.invokestatic 63, 3) := by decide +kernel
theorem dX5_borrow_4 : decode cX5_borrow 4 = .ok (.iload_n 2, 1) := by decide +kernel
theorem dX5_borrow_5 : decode cX5_borrow 5 = .ok (.invokestatic 63, 3) := by decide +kernel
theorem dX5_borrow_8 : decode cX5_borrow 8 = .ok (.aload_n 0, 1) := by decide +kernel
theorem dX5_borrow_9 : decode cX5_borrow 9 = .ok (.getfield 19, 3) := by decide +kernel
theorem dX5_borrow_12 : decode cX5_borrow 12 = .ok (.aload_n 0, 1) := by decide +kernel
theorem dX5_borrow_13 : decode cX5_borrow 13 = .ok (.getfield 12, 3) := by decide +kernel
theorem dX5_borrow_16 : decode cX5_borrow 16 = .ok (.invokevirtual 45, 3) := by decide +kernel
theorem dX5_borrow_19 : decode cX5_borrow 19 = .ok (.aload_n 0, 1) := by decide +kernel
theorem dX5_borrow_20 : decode cX5_borrow 20 = .ok (.getfield 12, 3) := by decide +kernel
theorem dX5_borrow_23 : decode cX5_borrow 23 = .ok (.getfield 72, 3) := by decide +kernel
theorem dX5_borrow_26 : decode cX5_borrow 26 = .ok (.iload_n 1, 1) := by decide +kernel
theorem dX5_borrow_27 : decode cX5_borrow 27 = .ok (.iaload, 1) := by decide +kernel
theorem dX5_borrow_28 : decode cX5_borrow 28 = .ok (.istore_n 3, 1) := by decide +kernel
theorem dX5_borrow_29 : decode cX5_borrow 29 = .ok (.aload_n 0, 1) := by decide +kernel
theorem dX5_borrow_30 : decode cX5_borrow 30 = .ok (.getfield 12, 3) := by decide +kernel
theorem dX5_borrow_33 : decode cX5_borrow 33 = .ok (.getfield 72, 3) := by decide +kernel
theorem dX5_borrow_36 : decode cX5_borrow 36 = .ok (.iload_n 1, 1) := by decide +kernel
theorem dX5_borrow_37 : decode cX5_borrow 37 = .ok (.iload_n 2, 1) := by decide +kernel
theorem dX5_borrow_38 : decode cX5_borrow 38 = .ok (.iload_n 1, 1) := by decide +kernel
theorem dX5_borrow_39 : decode cX5_borrow 39 = .ok (.if_icmp .ne 7, 3) := by decide +kernel
theorem dX5_borrow_42 : decode cX5_borrow 42 = .ok (.iconst (-1), 1) := by decide +kernel
theorem dX5_borrow_43 : decode cX5_borrow 43 = .ok (.goto 4, 3) := by decide +kernel
theorem dX5_borrow_46 : decode cX5_borrow 46 = .ok (.iload_n 2, 1) := by decide +kernel
theorem dX5_borrow_47 : decode cX5_borrow 47 = .ok (.iastore, 1) := by decide +kernel
theorem dX5_borrow_48 : decode cX5_borrow 48 = .ok (.iload_n 3, 1) := by decide +kernel
theorem dX5_borrow_49 : decode cX5_borrow 49 = .ok (.ireturn, 1) := by decide +kernel
set_option maxRecDepth 20000 in
theorem ggX5_label_X5_needPot : GoodIn wsX5_label wsX5_needPot := goodIn_ca (goodIn_r _ [6, 7, 8] (by decide +kernel) (by decide +kernel)) (goodIn_sub (fun _ h => List.mem_cons_of_mem _ (List.mem_append_left _ (List.mem_append_right _ h))) (by decide +kernel))
set_option maxRecDepth 20000 in
theorem gX5_label_X5_needPot : GoodIn wsX5_label (va_wsS RX5 37 yX5_needPot wsX5_needPot) := goodIn_app (goodIn_of _ (by decide +kernel)) ggX5_label_X5_needPot
set_option maxRecDepth 20000 in
theorem ggX5_label_X5_needWithin : GoodIn wsX5_label wsX5_needWithin := goodIn_ca (goodIn_r _ [11, 12, 13] (by decide +kernel) (by decide +kernel)) (goodIn_sub (fun _ h => List.mem_cons_of_mem _ (List.mem_append_right _ h)) (by decide +kernel))
set_option maxRecDepth 20000 in
theorem gX5_label_X5_needWithin : GoodIn wsX5_label (va_wsS RX5 41 yX5_needWithin wsX5_needWithin) := goodIn_app (goodIn_of _ (by decide +kernel)) ggX5_label_X5_needWithin
set_option maxRecDepth 20000 in
theorem ggX5_label_X3_save : GoodIn wsX5_label wsX3_save := goodIn_r _ [18, 19, 20, 21, 22, 23, 17, 24, 25, 26, 27, 28, 29, 30, 31, 32, 33, 34, 35, 36, 37, 38, 39, 40, 41, 42, 43, 58, 59, 60, 61, 48, 49, 50, 51, 52, 53, 54, 55, 56, 57] (by decide +kernel) (by decide +kernel)
set_option maxRecDepth 20000 in
theorem gX5_label_X3_save : GoodIn wsX5_label (wsV RX5 45 RX3 yX3_save wsX3_save) := goodIn_app (goodIn_of _ (by decide +kernel)) ggX5_label_X3_save
theorem dX5_label_0 : decode cX5_label 0 = .ok (.iload_n 1, 1) := by decide +kernel
theorem dX5_label_1 : decode cX5_label 1 = .ok (.invokestatic 37, 3) := by decide +kernel
theorem dX5_label_4 : decode cX5_label 4 = .ok (.iload_n 2, 1) := by decide +kernel
theorem dX5_label_5 : decode cX5_label 5 = .ok (.iconst (-1), 1) := by decide +kernel
theorem dX5_label_6 : decode cX5_label 6 = .ok (.bipush 7, 2) := by decide +kernel
theorem dX5_label_8 : decode cX5_label 8 = .ok (.invokestatic 41, 3) := by decide +kernel
theorem dX5_label_11 : decode cX5_label 11 = .ok (.aload_n 0, 1) := by decide +kernel
theorem dX5_label_12 : decode cX5_label 12 = .ok (.getfield 19, 3) := by decide +kernel
theorem dX5_label_15 : decode cX5_label 15 = .ok (.aload_n 0, 1) := by decide +kernel
theorem dX5_label_16 : decode cX5_label 16 = .ok (.getfield 12, 3) := by decide +kernel
theorem dX5_label_19 : decode cX5_label 19 = .ok (.invokevirtual 45, 3) := by decide +kernel
theorem dX5_label_22 : decode cX5_label 22 = .ok (.aload_n 0, 1) := by decide +kernel
theorem dX5_label_23 : decode cX5_label 23 = .ok (.getfield 12, 3) := by decide +kernel
theorem dX5_label_26 : decode cX5_label 26 = .ok (.getfield 75, 3) := by decide +kernel
theorem dX5_label_29 : decode cX5_label 29 = .ok (.iload_n 1, 1) := by decide +kernel
theorem dX5_label_30 : decode cX5_label 30 = .ok (.iaload, 1) := by decide +kernel
theorem dX5_label_31 : decode cX5_label 31 = .ok (.istore_n 3, 1) := by decide +kernel
theorem dX5_label_32 : decode cX5_label 32 = .ok (.aload_n 0, 1) := by decide +kernel
theorem dX5_label_33 : decode cX5_label 33 = .ok (.getfield 12, 3) := by decide +kernel
theorem dX5_label_36 : decode cX5_label 36 = .ok (.getfield 75, 3) := by decide +kernel
theorem dX5_label_39 : decode cX5_label 39 = .ok (.iload_n 1, 1) := by decide +kernel
theorem dX5_label_40 : decode cX5_label 40 = .ok (.iload_n 2, 1) := by decide +kernel
theorem dX5_label_41 : decode cX5_label 41 = .ok (.iastore, 1) := by decide +kernel
theorem dX5_label_42 : decode cX5_label 42 = .ok (.iload_n 3, 1) := by decide +kernel
theorem dX5_label_43 : decode cX5_label 43 = .ok (.ireturn, 1) := by decide +kernel
set_option maxRecDepth 20000 in
theorem ggX5_labelAll_X5_needPainter : GoodIn wsX5_labelAll wsX5_needPainter := goodIn_ca (goodIn_r _ [6, 7, 8] (by decide +kernel) (by decide +kernel)) (goodIn_sub (fun _ h => List.mem_cons_of_mem _ (List.mem_append_right _ h)) (by decide +kernel))
set_option maxRecDepth 20000 in
theorem gX5_labelAll_X5_needPainter : GoodIn wsX5_labelAll (va_wsS RX5 63 yX5_needPainter wsX5_needPainter) := goodIn_app (goodIn_of _ (by decide +kernel)) ggX5_labelAll_X5_needPainter
set_option maxRecDepth 20000 in
theorem ggX5_labelAll_X3_save : GoodIn wsX5_labelAll wsX3_save := goodIn_r _ [13, 14, 15, 16, 17, 18, 12, 19, 20, 21, 22, 23, 24, 25, 26, 27, 28, 29, 30, 31, 32, 33, 34, 35, 36, 37, 38, 80, 81, 82, 83, 84, 85, 86, 87, 88, 89, 90, 91, 92, 93] (by decide +kernel) (by decide +kernel)
set_option maxRecDepth 20000 in
theorem gX5_labelAll_X3_save : GoodIn wsX5_labelAll (wsV RX5 45 RX3 yX3_save wsX3_save) := goodIn_app (goodIn_of _ (by decide +kernel)) ggX5_labelAll_X3_save
set_option maxRecDepth 20000 in
theorem ggX5_labelAll_X0_labelInOrder : GoodIn wsX5_labelAll wsX0_labelInOrder := goodIn_r _ [42, 30, 43, 44, 45, 23, 46, 33, 25, 47, 48, 49, 50, 32, 31, 51, 52, 53, 54, 55, 56, 57, 58, 59, 60, 61, 62, 63, 64, 84, 85, 86, 87, 88, 89, 90, 91, 92, 93] (by decide +kernel) (by decide +kernel)
set_option maxRecDepth 20000 in
theorem gX5_labelAll_X0_labelInOrder : GoodIn wsX5_labelAll (wsV RX5 78 RX0 yX0_labelInOrder wsX0_labelInOrder) := goodIn_app (goodIn_of _ (by decide +kernel)) ggX5_labelAll_X0_labelInOrder
set_option maxRecDepth 20000 in
theorem ggX5_labelAll_X0_unlikeLabels : GoodIn wsX5_labelAll wsX0_unlikeLabels := goodIn_r _ [68, 30, 69, 70, 71, 72, 73, 74, 75, 84, 85, 86, 87, 88, 89, 90, 91, 92, 93] (by decide +kernel) (by decide +kernel)
set_option maxRecDepth 20000 in
theorem gX5_labelAll_X0_unlikeLabels : GoodIn wsX5_labelAll (wsV RX5 81 RX0 yX0_unlikeLabels wsX0_unlikeLabels) := goodIn_app (goodIn_of _ (by decide +kernel)) ggX5_labelAll_X0_unlikeLabels
theorem dX5_labelAll_0 : decode cX5_labelAll 0 = .ok (.iload_n 1, 1) := by decide +kernel
theorem dX5_labelAll_1 : decode cX5_labelAll 1 = .ok (.invokestatic 63, 3) := by decide +kernel
theorem dX5_labelAll_4 : decode cX5_labelAll 4 = .ok (.aload_n 0, 1) := by decide +kernel
theorem dX5_labelAll_5 : decode cX5_labelAll 5 = .ok (.getfield 19, 3) := by decide +kernel
theorem dX5_labelAll_8 : decode cX5_labelAll 8 = .ok (.aload_n 0, 1) := by decide +kernel
theorem dX5_labelAll_9 : decode cX5_labelAll 9 = .ok (.getfield 12, 3) := by decide +kernel
theorem dX5_labelAll_12 : decode cX5_labelAll 12 = .ok (.invokevirtual 45, 3) := by decide +kernel
theorem dX5_labelAll_15 : decode cX5_labelAll 15 = .ok (.aload_n 0, 1) := by decide +kernel
theorem dX5_labelAll_16 : decode cX5_labelAll 16 = .ok (.getfield 12, 3) := by decide +kernel
theorem dX5_labelAll_19 : decode cX5_labelAll 19 = .ok (.iload_n 1, 1) := by decide +kernel
theorem dX5_labelAll_20 : decode cX5_labelAll 20 = .ok (.invokevirtual 78, 3) := by decide +kernel
theorem dX5_labelAll_23 : decode cX5_labelAll 23 = .ok (.aload_n 0, 1) := by decide +kernel
theorem dX5_labelAll_24 : decode cX5_labelAll 24 = .ok (.getfield 12, 3) := by decide +kernel
theorem dX5_labelAll_27 : decode cX5_labelAll 27 = .ok (.invokevirtual 81, 3) := by decide +kernel
theorem dX5_labelAll_30 : decode cX5_labelAll 30 = .ok (.ireturn, 1) := by decide +kernel
set_option maxRecDepth 20000 in
theorem ggX5_hang_X5_needPot : GoodIn wsX5_hang wsX5_needPot := goodIn_ca (goodIn_r _ [6, 7, 8] (by decide +kernel) (by decide +kernel)) (goodIn_sub (fun _ h => List.mem_cons_of_mem _ (List.mem_append_left _ (List.mem_append_right _ h))) (by decide +kernel))
set_option maxRecDepth 20000 in
theorem gX5_hang_X5_needPot : GoodIn wsX5_hang (va_wsS RX5 37 yX5_needPot wsX5_needPot) := goodIn_app (goodIn_of _ (by decide +kernel)) ggX5_hang_X5_needPot
set_option maxRecDepth 20000 in
theorem ggX5_hang_X5_needUnlike : GoodIn wsX5_hang wsX5_needUnlike := goodIn_ca (goodIn_r _ [11, 12, 13] (by decide +kernel) (by decide +kernel)) (goodIn_sub (fun _ h => List.mem_cons_of_mem _ (List.mem_append_right _ h)) (by decide +kernel))
set_option maxRecDepth 20000 in
theorem gX5_hang_X5_needUnlike : GoodIn wsX5_hang (va_wsS RX5 85 yX5_needUnlike wsX5_needUnlike) := goodIn_app (goodIn_of _ (by decide +kernel)) ggX5_hang_X5_needUnlike
set_option maxRecDepth 20000 in
theorem ggX5_hang_X3_save : GoodIn wsX5_hang wsX3_save := goodIn_r _ [18, 19, 20, 21, 22, 23, 17, 24, 25, 26, 27, 28, 29, 30, 31, 32, 33, 34, 35, 36, 37, 38, 39, 40, 41, 42, 43, 52, 53, 54, 55, 56, 57, 58, 59, 60, 61, 62, 63, 64, 65] (by decide +kernel) (by decide +kernel)
set_option maxRecDepth 20000 in
theorem gX5_hang_X3_save : GoodIn wsX5_hang (wsV RX5 45 RX3 yX3_save wsX3_save) := goodIn_app (goodIn_of _ (by decide +kernel)) ggX5_hang_X3_save
set_option maxRecDepth 20000 in
theorem ggX5_hang_X0_addChart : GoodIn wsX5_hang wsX0_addChart := goodIn_r _ [47, 41, 43, 39, 40, 56, 57, 58, 59, 60, 61, 62, 63, 64, 65] (by decide +kernel) (by decide +kernel)
set_option maxRecDepth 20000 in
theorem gX5_hang_X0_addChart : GoodIn wsX5_hang (wsV RX5 89 RX0 yX0_addChart wsX0_addChart) := goodIn_app (goodIn_of _ (by decide +kernel)) ggX5_hang_X0_addChart
theorem dX5_hang_0 : decode cX5_hang 0 = .ok (.iload_n 1, 1) := by decide +kernel
theorem dX5_hang_1 : decode cX5_hang 1 = .ok (.invokestatic 37, 3) := by decide +kernel
theorem dX5_hang_4 : decode cX5_hang 4 = .ok (.iload_n 2, 1) := by decide +kernel
theorem dX5_hang_5 : decode cX5_hang 5 = .ok (.invokestatic 37, 3) := by decide +kernel
theorem dX5_hang_8 : decode cX5_hang 8 = .ok (.iload_n 1, 1) := by decide +kernel
theorem dX5_hang_9 : decode cX5_hang 9 = .ok (.iload_n 2, 1) := by decide +kernel
theorem dX5_hang_10 : decode cX5_hang 10 = .ok (.invokestatic 85, 3) := by decide +kernel
theorem dX5_hang_13 : decode cX5_hang 13 = .ok (.aload_n 0, 1) := by decide +kernel
theorem dX5_hang_14 : decode cX5_hang 14 = .ok (.getfield 19, 3) := by decide +kernel
theorem dX5_hang_17 : decode cX5_hang 17 = .ok (.aload_n 0, 1) := by decide +kernel
theorem dX5_hang_18 : decode cX5_hang 18 = .ok (.getfield 12, 3) := by decide +kernel
theorem dX5_hang_21 : decode cX5_hang 21 = .ok (.invokevirtual 45, 3) := by decide +kernel
theorem dX5_hang_24 : decode cX5_hang 24 = .ok (.aload_n 0, 1) := by decide +kernel
theorem dX5_hang_25 : decode cX5_hang 25 = .ok (.getfield 12, 3) := by decide +kernel
theorem dX5_hang_28 : decode cX5_hang 28 = .ok (.iload_n 1, 1) := by decide +kernel
theorem dX5_hang_29 : decode cX5_hang 29 = .ok (.iload_n 2, 1) := by decide +kernel
theorem dX5_hang_30 : decode cX5_hang 30 = .ok (.invokevirtual 89, 3) := by decide +kernel
theorem dX5_hang_33 : decode cX5_hang 33 = .ok (.ireturn, 1) := by decide +kernel
set_option maxRecDepth 20000 in
theorem ggX5_takeDown_X5_needChart : GoodIn wsX5_takeDown wsX5_needChart := goodIn_ca (goodIn_r _ [7, 8, 9, 2, 74, 75, 76, 77, 78, 79, 80, 81, 82, 83, 84, 85, 86, 87] (by decide +kernel) (by decide +kernel)) (goodIn_sub (fun _ h => List.mem_cons_of_mem _ (List.mem_append_right _ h)) (by decide +kernel))
set_option maxRecDepth 20000 in
theorem gX5_takeDown_X5_needChart : GoodIn wsX5_takeDown (wsV RX5 92 RX5 yX5_needChart wsX5_needChart) := goodIn_app (goodIn_of _ (by decide +kernel)) ggX5_takeDown_X5_needChart
set_option maxRecDepth 20000 in
theorem ggX5_takeDown_X3_save : GoodIn wsX5_takeDown wsX3_save := goodIn_r _ [14, 15, 16, 17, 18, 19, 13, 20, 21, 22, 23, 24, 25, 26, 27, 28, 29, 30, 31, 32, 33, 34, 35, 36, 37, 38, 39, 88, 89, 90, 91, 78, 79, 80, 81, 82, 83, 84, 85, 86, 87] (by decide +kernel) (by decide +kernel)
set_option maxRecDepth 20000 in
theorem gX5_takeDown_X3_save : GoodIn wsX5_takeDown (wsV RX5 45 RX3 yX3_save wsX3_save) := goodIn_app (goodIn_of _ (by decide +kernel)) ggX5_takeDown_X3_save
set_option maxRecDepth 20000 in
theorem ggX5_takeDown_X0_readersOf : GoodIn wsX5_takeDown wsX0_readersOf := goodIn_r _ [43, 35, 36, 44, 45, 46, 24, 47, 34, 26, 48, 49, 50, 51, 33, 32, 52, 53, 54, 55, 56, 57, 58, 59, 60, 61, 62, 78, 79, 80, 81, 82, 83, 84, 85, 86, 87] (by decide +kernel) (by decide +kernel)
set_option maxRecDepth 20000 in
theorem gX5_takeDown_X0_readersOf : GoodIn wsX5_takeDown (wsV RX5 95 RX0 yX0_readersOf wsX0_readersOf) := goodIn_app (goodIn_of _ (by decide +kernel)) ggX5_takeDown_X0_readersOf
set_option maxRecDepth 20000 in
theorem ggX5_takeDown_J6_bitCount_0f7a4 : GoodIn wsX5_takeDown wsJ6_bitCount_0f7a4 := goodIn_r _ [66, 67, 68, 69] (by decide +kernel) (by decide +kernel)
set_option maxRecDepth 20000 in
theorem gX5_takeDown_J6_bitCount_0f7a4 : GoodIn wsX5_takeDown (va_wsS RX5 99 yJ6_bitCount_0f7a4 wsJ6_bitCount_0f7a4) := goodIn_app (goodIn_of _ (by decide +kernel)) ggX5_takeDown_J6_bitCount_0f7a4
set_option maxRecDepth 20000 in
theorem ggX5_takeDown_X0_removeChart : GoodIn wsX5_takeDown wsX0_removeChart := goodIn_r _ [73, 37, 35, 36, 78, 79, 80, 81, 82, 83, 84, 85, 86, 87] (by decide +kernel) (by decide +kernel)
set_option maxRecDepth 20000 in
theorem gX5_takeDown_X0_removeChart : GoodIn wsX5_takeDown (wsV RX5 104 RX0 yX0_removeChart wsX0_removeChart) := goodIn_app (goodIn_of _ (by decide +kernel)) ggX5_takeDown_X0_removeChart
theorem dX5_takeDown_0 : decode cX5_takeDown 0 = .ok (.aload_n 0, 1) := by decide +kernel
theorem dX5_takeDown_1 : decode cX5_takeDown 1 = .ok (.iload_n 1, 1) := by decide +kernel
theorem dX5_takeDown_2 : decode cX5_takeDown 2 = .ok (.invokevirtual 92, 3) := by decide +kernel
theorem dX5_takeDown_5 : decode cX5_takeDown 5 = .ok (.aload_n 0, 1) := by decide +kernel
theorem dX5_takeDown_6 : decode cX5_takeDown 6 = .ok (.getfield 19, 3) := by decide +kernel
theorem dX5_takeDown_9 : decode cX5_takeDown 9 = .ok (.aload_n 0, 1) := by decide +kernel
theorem dX5_takeDown_10 : decode cX5_takeDown 10 = .ok (.getfield 12, 3) := by decide +kernel
theorem dX5_takeDown_13 : decode cX5_takeDown 13 = .ok (.invokevirtual 45, 3) := by decide +kernel
theorem dX5_takeDown_16 : decode cX5_takeDown 16 = .ok (.aload_n 0, 1) := by decide +kernel
theorem dX5_takeDown_17 : decode cX5_takeDown 17 = .ok (.getfield 12, 3) := by decide +kernel
theorem dX5_takeDown_20 : decode cX5_takeDown 20 = .ok (.iload_n 1, 1) := by decide +kernel
theorem dX5_takeDown_21 : decode cX5_takeDown 21 = .ok (.invokevirtual 95, 3) := by decide +kernel
theorem dX5_takeDown_24 : decode cX5_takeDown 24 = .ok (.invokestatic 99, 3) := by decide +kernel
theorem dX5_takeDown_27 : decode cX5_takeDown 27 = .ok (.istore_n 2, 1) := by decide +kernel
theorem dX5_takeDown_28 : decode cX5_takeDown 28 = .ok (.aload_n 0, 1) := by decide +kernel
theorem dX5_takeDown_29 : decode cX5_takeDown 29 = .ok (.getfield 12, 3) := by decide +kernel
theorem dX5_takeDown_32 : decode cX5_takeDown 32 = .ok (.iload_n 1, 1) := by decide +kernel
theorem dX5_takeDown_33 : decode cX5_takeDown 33 = .ok (.invokevirtual 104, 3) := by decide +kernel
theorem dX5_takeDown_36 : decode cX5_takeDown 36 = .ok (.iload_n 2, 1) := by decide +kernel
theorem dX5_takeDown_37 : decode cX5_takeDown 37 = .ok (.ireturn, 1) := by decide +kernel
set_option maxRecDepth 20000 in
theorem ggX5_correct_X5_needChart : GoodIn wsX5_correct wsX5_needChart := goodIn_ca (goodIn_r _ [7, 8, 9, 2, 70, 71, 72, 73, 74, 75, 76, 77, 78, 79, 80, 81, 82, 83] (by decide +kernel) (by decide +kernel)) (goodIn_sub (fun _ h => List.mem_cons_of_mem _ (List.mem_append_right _ h)) (by decide +kernel))
set_option maxRecDepth 20000 in
theorem gX5_correct_X5_needChart : GoodIn wsX5_correct (wsV RX5 92 RX5 yX5_needChart wsX5_needChart) := goodIn_app (goodIn_of _ (by decide +kernel)) ggX5_correct_X5_needChart
set_option maxRecDepth 20000 in
theorem ggX5_correct_X5_needPainter : GoodIn wsX5_correct wsX5_needPainter := goodIn_ca (goodIn_r _ [12, 8, 9] (by decide +kernel) (by decide +kernel)) (goodIn_sub (fun _ h => List.mem_cons_of_mem _ (List.mem_append_right _ h)) (by decide +kernel))
set_option maxRecDepth 20000 in
theorem gX5_correct_X5_needPainter : GoodIn wsX5_correct (va_wsS RX5 63 yX5_needPainter wsX5_needPainter) := goodIn_app (goodIn_of _ (by decide +kernel)) ggX5_correct_X5_needPainter
set_option maxRecDepth 20000 in
theorem ggX5_correct_X3_save : GoodIn wsX5_correct wsX3_save := goodIn_r _ [17, 18, 19, 20, 21, 22, 16, 23, 24, 25, 26, 27, 28, 29, 30, 31, 32, 33, 34, 35, 36, 37, 38, 39, 40, 41, 42, 84, 85, 86, 87, 74, 75, 76, 77, 78, 79, 80, 81, 82, 83] (by decide +kernel) (by decide +kernel)
set_option maxRecDepth 20000 in
theorem gX5_correct_X3_save : GoodIn wsX5_correct (wsV RX5 45 RX3 yX3_save wsX3_save) := goodIn_app (goodIn_of _ (by decide +kernel)) ggX5_correct_X3_save
set_option maxRecDepth 20000 in
theorem ggX5_correct_X0_makeReadable : GoodIn wsX5_correct wsX0_makeReadable := goodIn_r _ [46, 38, 39, 42, 29, 41, 47, 48, 49, 27, 50, 37, 51, 52, 53, 54, 55, 56, 57, 58, 59, 60, 61, 62, 63, 64, 65, 66, 67, 68, 36, 35, 69, 74, 75, 76, 77, 78, 79, 80, 81, 82, 83] (by decide +kernel) (by decide +kernel)
set_option maxRecDepth 20000 in
theorem gX5_correct_X0_makeReadable : GoodIn wsX5_correct (wsV RX5 107 RX0 yX0_makeReadable wsX0_makeReadable) := goodIn_app (goodIn_of _ (by decide +kernel)) ggX5_correct_X0_makeReadable
theorem dX5_correct_0 : decode cX5_correct 0 = .ok (.aload_n 0, 1) := by decide +kernel
theorem dX5_correct_1 : decode cX5_correct 1 = .ok (.iload_n 1, 1) := by decide +kernel
theorem dX5_correct_2 : decode cX5_correct 2 = .ok (.invokevirtual 92, 3) := by decide +kernel
theorem dX5_correct_5 : decode cX5_correct 5 = .ok (.iload_n 2, 1) := by decide +kernel
theorem dX5_correct_6 : decode cX5_correct 6 = .ok (.invokestatic 63, 3) := by decide +kernel
theorem dX5_correct_9 : decode cX5_correct 9 = .ok (.aload_n 0, 1) := by decide +kernel
theorem dX5_correct_10 : decode cX5_correct 10 = .ok (.getfield 19, 3) := by decide +kernel
theorem dX5_correct_13 : decode cX5_correct 13 = .ok (.aload_n 0, 1) := by decide +kernel
theorem dX5_correct_14 : decode cX5_correct 14 = .ok (.getfield 12, 3) := by decide +kernel
theorem dX5_correct_17 : decode cX5_correct 17 = .ok (.invokevirtual 45, 3) := by decide +kernel
theorem dX5_correct_20 : decode cX5_correct 20 = .ok (.aload_n 0, 1) := by decide +kernel
theorem dX5_correct_21 : decode cX5_correct 21 = .ok (.getfield 12, 3) := by decide +kernel
theorem dX5_correct_24 : decode cX5_correct 24 = .ok (.iload_n 1, 1) := by decide +kernel
theorem dX5_correct_25 : decode cX5_correct 25 = .ok (.iload_n 2, 1) := by decide +kernel
theorem dX5_correct_26 : decode cX5_correct 26 = .ok (.invokevirtual 107, 3) := by decide +kernel
theorem dX5_correct_29 : decode cX5_correct 29 = .ok (.ireturn, 1) := by decide +kernel
set_option maxRecDepth 20000 in
theorem ggX5_append_X5_needWithin : GoodIn wsX5_append wsX5_needWithin := goodIn_ca (goodIn_r _ [7, 8, 9] (by decide +kernel) (by decide +kernel)) (goodIn_sub (fun _ h => List.mem_cons_of_mem _ (List.mem_append_right _ h)) (by decide +kernel))
set_option maxRecDepth 20000 in
theorem gX5_append_X5_needWithin : GoodIn wsX5_append (va_wsS RX5 41 yX5_needWithin wsX5_needWithin) := goodIn_app (goodIn_of _ (by decide +kernel)) ggX5_append_X5_needWithin
set_option maxRecDepth 20000 in
theorem ggX5_append_X4_isFull : GoodIn wsX5_append wsX4_isFull := goodIn_r _ [14, 15, 25, 26] (by decide +kernel) (by decide +kernel)
set_option maxRecDepth 20000 in
theorem gX5_append_X4_isFull : GoodIn wsX5_append (wsV RX5 110 RX4 yX4_isFull wsX4_isFull) := goodIn_app (goodIn_of _ (by decide +kernel)) ggX5_append_X4_isFull
set_option maxRecDepth 20000 in
theorem ggX5_append_X4_add : GoodIn wsX5_append wsX4_add := goodIn_r _ [19, 15, 20, 25, 26] (by decide +kernel) (by decide +kernel)
set_option maxRecDepth 20000 in
theorem gX5_append_X4_add : GoodIn wsX5_append (wsV RX5 121 RX4 yX4_add wsX4_add) := goodIn_app (goodIn_of _ (by decide +kernel)) ggX5_append_X4_add
theorem dX5_append_0 : decode cX5_append 0 = .ok (.iload_n 1, 1) := by decide +kernel
theorem dX5_append_1 : decode cX5_append 1 = .ok (.bipush 33, 2) := by decide +kernel
theorem dX5_append_3 : decode cX5_append 3 = .ok (.bipush 126, 2) := by decide +kernel
theorem dX5_append_5 : decode cX5_append 5 = .ok (.invokestatic 41, 3) := by decide +kernel
theorem dX5_append_8 : decode cX5_append 8 = .ok (.aload_n 0, 1) := by decide +kernel
theorem dX5_append_9 : decode cX5_append 9 = .ok (.getfield 26, 3) := by decide +kernel
theorem dX5_append_12 : decode cX5_append 12 = .ok (.invokevirtual 110, 3) := by decide +kernel
theorem dX5_append_15 : decode cX5_append 15 = .ok (.ifCond .eq 13, 3) := by decide +kernel
theorem dX5_append_18 : decode cX5_append 18 = .ok (.new 114, 3) := by decide +kernel
theorem dX5_append_21 : decode cX5_append 21 = .ok (.dup, 1) := by decide +kernel
theorem dX5_append_22 : decode cX5_append 22 = .ok (.ldc 116, 2) := by decide +kernel
theorem dX5_append_24 : decode cX5_append 24 = .ok (.invokespecial 118, 3) := by decide +kernel
theorem dX5_append_27 : decode cX5_append 27 = .ok (.athrow, 1) := by decide +kernel
theorem dX5_append_28 : decode cX5_append 28 = .ok (.aload_n 0, 1) := by decide +kernel
theorem dX5_append_29 : decode cX5_append 29 = .ok (.getfield 26, 3) := by decide +kernel
theorem dX5_append_32 : decode cX5_append 32 = .ok (.iload_n 1, 1) := by decide +kernel
theorem dX5_append_33 : decode cX5_append 33 = .ok (.invokevirtual 121, 3) := by decide +kernel
theorem dX5_append_36 : decode cX5_append 36 = .ok (.aload_n 0, 1) := by decide +kernel
theorem dX5_append_37 : decode cX5_append 37 = .ok (.getfield 26, 3) := by decide +kernel
theorem dX5_append_40 : decode cX5_append 40 = .ok (.getfield 124, 3) := by decide +kernel
theorem dX5_append_43 : decode cX5_append 43 = .ok (.ireturn, 1) := by decide +kernel
set_option maxRecDepth 20000 in
theorem ggX5_clearBuffer_X4_clear : GoodIn wsX5_clearBuffer wsX4_clear := goodIn_r _ [6, 7, 12, 13] (by decide +kernel) (by decide +kernel)
set_option maxRecDepth 20000 in
theorem gX5_clearBuffer_X4_clear : GoodIn wsX5_clearBuffer (wsV RX5 128 RX4 yX4_clear wsX4_clear) := goodIn_app (goodIn_of _ (by decide +kernel)) ggX5_clearBuffer_X4_clear
theorem dX5_clearBuffer_0 : decode cX5_clearBuffer 0 = .ok (.aload_n 0, 1) := by decide +kernel
theorem dX5_clearBuffer_1 : decode cX5_clearBuffer 1 = .ok (.getfield 26, 3) := by decide +kernel
theorem dX5_clearBuffer_4 : decode cX5_clearBuffer 4 = .ok (.getfield 124, 3) := by decide +kernel
theorem dX5_clearBuffer_7 : decode cX5_clearBuffer 7 = .ok (.istore_n 1, 1) := by decide +kernel
theorem dX5_clearBuffer_8 : decode cX5_clearBuffer 8 = .ok (.aload_n 0, 1) := by decide +kernel
theorem dX5_clearBuffer_9 : decode cX5_clearBuffer 9 = .ok (.getfield 26, 3) := by decide +kernel
theorem dX5_clearBuffer_12 : decode cX5_clearBuffer 12 = .ok (.invokevirtual 128, 3) := by decide +kernel
theorem dX5_clearBuffer_15 : decode cX5_clearBuffer 15 = .ok (.iload_n 1, 1) := by decide +kernel
theorem dX5_clearBuffer_16 : decode cX5_clearBuffer 16 = .ok (.ireturn, 1) := by decide +kernel
set_option maxRecDepth 20000 in
theorem ggX5_load_X4_tellsPots : GoodIn wsX5_load wsX4_tellsPots := goodIn_r _ [10, 11, 12, 13, 14, 9, 15, 16, 17, 18, 19, 91, 92] (by decide +kernel) (by decide +kernel)
set_option maxRecDepth 20000 in
theorem gX5_load_X4_tellsPots : GoodIn wsX5_load (wsV RX5 134 RX4 yX4_tellsPots wsX4_tellsPots) := goodIn_app (goodIn_of _ (by decide +kernel)) ggX5_load_X4_tellsPots
set_option maxRecDepth 20000 in
theorem ggX5_load_X3_save : GoodIn wsX5_load wsX3_save := goodIn_r _ [24, 25, 26, 27, 28, 29, 23, 30, 31, 32, 33, 34, 35, 36, 37, 38, 39, 40, 41, 42, 43, 44, 45, 46, 47, 48, 49, 93, 94, 95, 96, 81, 82, 83, 84, 85, 86, 87, 88, 89, 90] (by decide +kernel) (by decide +kernel)
set_option maxRecDepth 20000 in
theorem gX5_load_X3_save : GoodIn wsX5_load (wsV RX5 45 RX3 yX3_save wsX3_save) := goodIn_app (goodIn_of _ (by decide +kernel)) ggX5_load_X3_save
set_option maxRecDepth 20000 in
theorem ggX5_load_X4_giveColours : GoodIn wsX5_load wsX4_giveColours := goodIn_r _ [53, 11, 16, 91, 92, 81, 82, 83, 84, 85, 86, 87, 88, 89, 90] (by decide +kernel) (by decide +kernel)
set_option maxRecDepth 20000 in
theorem gX5_load_X4_giveColours : GoodIn wsX5_load (wsV RX5 142 RX4 yX4_giveColours wsX4_giveColours) := goodIn_app (goodIn_of _ (by decide +kernel)) ggX5_load_X4_giveColours
set_option maxRecDepth 20000 in
theorem ggX5_load_X4_clear : GoodIn wsX5_load wsX4_clear := goodIn_r _ [57, 11, 91, 92] (by decide +kernel) (by decide +kernel)
set_option maxRecDepth 20000 in
theorem gX5_load_X4_clear : GoodIn wsX5_load (wsV RX5 128 RX4 yX4_clear wsX4_clear) := goodIn_app (goodIn_of _ (by decide +kernel)) ggX5_load_X4_clear
set_option maxRecDepth 20000 in
theorem ggX5_load_X0_pairsTold : GoodIn wsX5_load wsX0_pairsTold := goodIn_r _ [61, 36, 62, 63, 64, 34, 65, 43, 42, 66, 67, 68, 69, 70, 71, 72, 73, 74, 75, 76, 81, 82, 83, 84, 85, 86, 87, 88, 89, 90] (by decide +kernel) (by decide +kernel)
set_option maxRecDepth 20000 in
theorem gX5_load_X0_pairsTold : GoodIn wsX5_load (wsV RX5 145 RX0 yX0_pairsTold wsX0_pairsTold) := goodIn_app (goodIn_of _ (by decide +kernel)) ggX5_load_X0_pairsTold
theorem dX5_load_0 : decode cX5_load 0 = .ok (.aload_n 0, 1) := by decide +kernel
theorem dX5_load_1 : decode cX5_load 1 = .ok (.getfield 26, 3) := by decide +kernel
theorem dX5_load_4 : decode cX5_load 4 = .ok (.invokevirtual 134, 3) := by decide +kernel
theorem dX5_load_7 : decode cX5_load 7 = .ok (.ifCond .ne 13, 3) := by decide +kernel
theorem dX5_load_10 : decode cX5_load 10 = .ok (.new 137, 3) := by decide +kernel
theorem dX5_load_13 : decode cX5_load 13 = .ok (.dup, 1) := by decide +kernel
theorem dX5_load_14 : decode cX5_load 14 = .ok (.ldc 139, 2) := by decide +kernel
theorem dX5_load_16 : decode cX5_load 16 = .ok (.invokespecial 141, 3) := by decide +kernel
theorem dX5_load_19 : decode cX5_load 19 = .ok (.athrow, 1) := by decide +kernel
theorem dX5_load_20 : decode cX5_load 20 = .ok (.aload_n 0, 1) := by decide +kernel
theorem dX5_load_21 : decode cX5_load 21 = .ok (.getfield 19, 3) := by decide +kernel
theorem dX5_load_24 : decode cX5_load 24 = .ok (.aload_n 0, 1) := by decide +kernel
theorem dX5_load_25 : decode cX5_load 25 = .ok (.getfield 12, 3) := by decide +kernel
theorem dX5_load_28 : decode cX5_load 28 = .ok (.invokevirtual 45, 3) := by decide +kernel
theorem dX5_load_31 : decode cX5_load 31 = .ok (.aload_n 0, 1) := by decide +kernel
theorem dX5_load_32 : decode cX5_load 32 = .ok (.getfield 26, 3) := by decide +kernel
theorem dX5_load_35 : decode cX5_load 35 = .ok (.aload_n 0, 1) := by decide +kernel
theorem dX5_load_36 : decode cX5_load 36 = .ok (.getfield 12, 3) := by decide +kernel
theorem dX5_load_39 : decode cX5_load 39 = .ok (.invokevirtual 142, 3) := by decide +kernel
theorem dX5_load_42 : decode cX5_load 42 = .ok (.aload_n 0, 1) := by decide +kernel
theorem dX5_load_43 : decode cX5_load 43 = .ok (.getfield 26, 3) := by decide +kernel
theorem dX5_load_46 : decode cX5_load 46 = .ok (.invokevirtual 128, 3) := by decide +kernel
theorem dX5_load_49 : decode cX5_load 49 = .ok (.aload_n 0, 1) := by decide +kernel
theorem dX5_load_50 : decode cX5_load 50 = .ok (.getfield 12, 3) := by decide +kernel
theorem dX5_load_53 : decode cX5_load 53 = .ok (.iconst 0, 1) := by decide +kernel
theorem dX5_load_54 : decode cX5_load 54 = .ok (.aload_n 0, 1) := by decide +kernel
theorem dX5_load_55 : decode cX5_load 55 = .ok (.getfield 12, 3) := by decide +kernel
theorem dX5_load_58 : decode cX5_load 58 = .ok (.getfield 72, 3) := by decide +kernel
theorem dX5_load_61 : decode cX5_load 61 = .ok (.iconst 0, 1) := by decide +kernel
theorem dX5_load_62 : decode cX5_load 62 = .ok (.iaload, 1) := by decide +kernel
theorem dX5_load_63 : decode cX5_load 63 = .ok (.invokevirtual 145, 3) := by decide +kernel
theorem dX5_load_66 : decode cX5_load 66 = .ok (.ireturn, 1) := by decide +kernel
set_option maxRecDepth 20000 in
theorem ggX5_undo_X3_restore : GoodIn wsX5_undo wsX3_restore := goodIn_r _ [9, 10, 11, 12, 13, 14, 15, 16, 17, 18, 19, 20, 21, 22, 23, 24, 25, 26, 27, 28, 29, 30, 35, 36, 37, 38, 39, 40, 41, 42, 43, 44, 45, 46, 47, 48] (by decide +kernel) (by decide +kernel)
set_option maxRecDepth 20000 in
theorem gX5_undo_X3_restore : GoodIn wsX5_undo (wsV RX5 169 RX3 yX3_restore wsX3_restore) := goodIn_app (goodIn_of _ (by decide +kernel)) ggX5_undo_X3_restore
theorem dX5_undo_0 : decode cX5_undo 0 = .ok (.aload_n 0, 1) := by decide +kernel
theorem dX5_undo_1 : decode cX5_undo 1 = .ok (.getfield 19, 3) := by decide +kernel
theorem dX5_undo_4 : decode cX5_undo 4 = .ok (.getfield 164, 3) := by decide +kernel
theorem dX5_undo_7 : decode cX5_undo 7 = .ok (.ifCond .gt 13, 3) := by decide +kernel
theorem dX5_undo_10 : decode cX5_undo 10 = .ok (.new 114, 3) := by decide +kernel
theorem dX5_undo_13 : decode cX5_undo 13 = .ok (.dup, 1) := by decide +kernel
theorem dX5_undo_14 : decode cX5_undo 14 = .ok (.ldc 167, 2) := by decide +kernel
theorem dX5_undo_16 : decode cX5_undo 16 = .ok (.invokespecial 118, 3) := by decide +kernel
theorem dX5_undo_19 : decode cX5_undo 19 = .ok (.athrow, 1) := by decide +kernel
theorem dX5_undo_20 : decode cX5_undo 20 = .ok (.aload_n 0, 1) := by decide +kernel
theorem dX5_undo_21 : decode cX5_undo 21 = .ok (.getfield 19, 3) := by decide +kernel
theorem dX5_undo_24 : decode cX5_undo 24 = .ok (.aload_n 0, 1) := by decide +kernel
theorem dX5_undo_25 : decode cX5_undo 25 = .ok (.getfield 12, 3) := by decide +kernel
theorem dX5_undo_28 : decode cX5_undo 28 = .ok (.invokevirtual 169, 3) := by decide +kernel
theorem dX5_undo_31 : decode cX5_undo 31 = .ok (.aload_n 0, 1) := by decide +kernel
theorem dX5_undo_32 : decode cX5_undo 32 = .ok (.getfield 19, 3) := by decide +kernel
theorem dX5_undo_35 : decode cX5_undo 35 = .ok (.getfield 164, 3) := by decide +kernel
theorem dX5_undo_38 : decode cX5_undo 38 = .ok (.ireturn, 1) := by decide +kernel
set_option maxRecDepth 20000 in
theorem ggX5_potOf_X5_needPot : GoodIn wsX5_potOf wsX5_needPot := goodIn_ca (goodIn_r _ [5, 6, 7] (by decide +kernel) (by decide +kernel)) (goodIn_sub (fun _ h => List.mem_cons_of_mem _ (List.mem_append_left _ (List.mem_append_right _ h))) (by decide +kernel))
set_option maxRecDepth 20000 in
theorem gX5_potOf_X5_needPot : GoodIn wsX5_potOf (va_wsS RX5 37 yX5_needPot wsX5_needPot) := goodIn_app (goodIn_of _ (by decide +kernel)) ggX5_potOf_X5_needPot
set_option maxRecDepth 20000 in
theorem ggX5_potOf_X5_needWithin : GoodIn wsX5_potOf wsX5_needWithin := goodIn_ca (goodIn_r _ [10, 11, 12] (by decide +kernel) (by decide +kernel)) (goodIn_sub (fun _ h => List.mem_cons_of_mem _ (List.mem_append_right _ h)) (by decide +kernel))
set_option maxRecDepth 20000 in
theorem gX5_potOf_X5_needWithin : GoodIn wsX5_potOf (va_wsS RX5 41 yX5_needWithin wsX5_needWithin) := goodIn_app (goodIn_of _ (by decide +kernel)) ggX5_potOf_X5_needWithin
set_option maxRecDepth 20000 in
theorem ggX5_potOf_X1_partOf : GoodIn wsX5_potOf wsX1_partOf := goodIn_r _ [16] (by decide +kernel) (by decide +kernel)
set_option maxRecDepth 20000 in
theorem gX5_potOf_X1_partOf : GoodIn wsX5_potOf (va_wsS RX5 53 yX1_partOf wsX1_partOf) := goodIn_app (goodIn_of _ (by decide +kernel)) ggX5_potOf_X1_partOf
set_option maxRecDepth 20000 in
theorem ggX5_potOf_X0_tellersOf : GoodIn wsX5_potOf wsX0_tellersOf := goodIn_r _ [21, 22, 23, 24, 20, 25, 26, 27, 28, 29, 30, 31, 32, 33, 34, 35, 15, 36, 37, 38, 39, 40, 41, 42, 43, 48, 49, 50, 51, 52, 53, 54, 55, 56, 57] (by decide +kernel) (by decide +kernel)
set_option maxRecDepth 20000 in
theorem gX5_potOf_X0_tellersOf : GoodIn wsX5_potOf (wsV RX5 172 RX0 yX0_tellersOf wsX0_tellersOf) := goodIn_app (goodIn_of _ (by decide +kernel)) ggX5_potOf_X0_tellersOf
theorem dX5_potOf_0 : decode cX5_potOf 0 = .ok (.iload_n 1, 1) := by decide +kernel
theorem dX5_potOf_1 : decode cX5_potOf 1 = .ok (.invokestatic 37, 3) := by decide +kernel
theorem dX5_potOf_4 : decode cX5_potOf 4 = .ok (.iload_n 2, 1) := by decide +kernel
theorem dX5_potOf_5 : decode cX5_potOf 5 = .ok (.iconst 0, 1) := by decide +kernel
theorem dX5_potOf_6 : decode cX5_potOf 6 = .ok (.iconst 4, 1) := by decide +kernel
theorem dX5_potOf_7 : decode cX5_potOf 7 = .ok (.invokestatic 41, 3) := by decide +kernel
theorem dX5_potOf_10 : decode cX5_potOf 10 = .ok (.iload_n 2, 1) := by decide +kernel
theorem dX5_potOf_11 : decode cX5_potOf 11 = .ok (.iconst 3, 1) := by decide +kernel
theorem dX5_potOf_12 : decode cX5_potOf 12 = .ok (.if_icmp .ge 17, 3) := by decide +kernel
theorem dX5_potOf_15 : decode cX5_potOf 15 = .ok (.aload_n 0, 1) := by decide +kernel
theorem dX5_potOf_16 : decode cX5_potOf 16 = .ok (.getfield 12, 3) := by decide +kernel
theorem dX5_potOf_19 : decode cX5_potOf 19 = .ok (.getfield 49, 3) := by decide +kernel
theorem dX5_potOf_22 : decode cX5_potOf 22 = .ok (.iload_n 1, 1) := by decide +kernel
theorem dX5_potOf_23 : decode cX5_potOf 23 = .ok (.iaload, 1) := by decide +kernel
theorem dX5_potOf_24 : decode cX5_potOf 24 = .ok (.iload_n 2, 1) := by decide +kernel
theorem dX5_potOf_25 : decode cX5_potOf 25 = .ok (.invokestatic 53, 3) := by decide +kernel
theorem dX5_potOf_28 : decode cX5_potOf 28 = .ok (.ireturn, 1) := by decide +kernel
theorem dX5_potOf_29 : decode cX5_potOf 29 = .ok (.iload_n 2, 1) := by decide +kernel
theorem dX5_potOf_30 : decode cX5_potOf 30 = .ok (.iconst 3, 1) := by decide +kernel
theorem dX5_potOf_31 : decode cX5_potOf 31 = .ok (.if_icmp .ne 15, 3) := by decide +kernel
theorem dX5_potOf_34 : decode cX5_potOf 34 = .ok (.aload_n 0, 1) := by decide +kernel
theorem dX5_potOf_35 : decode cX5_potOf 35 = .ok (.getfield 12, 3) := by decide +kernel
theorem dX5_potOf_38 : decode cX5_potOf 38 = .ok (.getfield 75, 3) := by decide +kernel
theorem dX5_potOf_41 : decode cX5_potOf 41 = .ok (.iload_n 1, 1) := by decide +kernel
theorem dX5_potOf_42 : decode cX5_potOf 42 = .ok (.iaload, 1) := by decide +kernel
theorem dX5_potOf_43 : decode cX5_potOf 43 = .ok (.goto 11, 3) := by decide +kernel
theorem dX5_potOf_46 : decode cX5_potOf 46 = .ok (.aload_n 0, 1) := by decide +kernel
theorem dX5_potOf_47 : decode cX5_potOf 47 = .ok (.getfield 12, 3) := by decide +kernel
theorem dX5_potOf_50 : decode cX5_potOf 50 = .ok (.iload_n 1, 1) := by decide +kernel
theorem dX5_potOf_51 : decode cX5_potOf 51 = .ok (.invokevirtual 172, 3) := by decide +kernel
theorem dX5_potOf_54 : decode cX5_potOf 54 = .ok (.ireturn, 1) := by decide +kernel
set_option maxRecDepth 20000 in
theorem ggX5_seen_X5_needPainter : GoodIn wsX5_seen wsX5_needPainter := goodIn_ca (goodIn_r _ [5, 6, 7] (by decide +kernel) (by decide +kernel)) (goodIn_sub (fun _ h => List.mem_cons_of_mem _ (List.mem_append_right _ h)) (by decide +kernel))
set_option maxRecDepth 20000 in
theorem gX5_seen_X5_needPainter : GoodIn wsX5_seen (va_wsS RX5 63 yX5_needPainter wsX5_needPainter) := goodIn_app (goodIn_of _ (by decide +kernel)) ggX5_seen_X5_needPainter
set_option maxRecDepth 20000 in
theorem ggX5_seen_X5_needPot : GoodIn wsX5_seen wsX5_needPot := goodIn_ca (goodIn_r _ [10, 6, 7] (by decide +kernel) (by decide +kernel)) (goodIn_sub (fun _ h => List.mem_cons_of_mem _ (List.mem_append_right _ h)) (by decide +kernel))
set_option maxRecDepth 20000 in
theorem gX5_seen_X5_needPot : GoodIn wsX5_seen (va_wsS RX5 37 yX5_needPot wsX5_needPot) := goodIn_app (goodIn_of _ (by decide +kernel)) ggX5_seen_X5_needPot
set_option maxRecDepth 20000 in
theorem ggX5_seen_X1_seenAs : GoodIn wsX5_seen wsX1_seenAs := goodIn_r _ [14] (by decide +kernel) (by decide +kernel)
set_option maxRecDepth 20000 in
theorem gX5_seen_X1_seenAs : GoodIn wsX5_seen (va_wsS RX5 175 yX1_seenAs wsX1_seenAs) := goodIn_app (goodIn_of _ (by decide +kernel)) ggX5_seen_X1_seenAs
theorem dX5_seen_0 : decode cX5_seen 0 = .ok (.iload_n 1, 1) := by decide +kernel
theorem dX5_seen_1 : decode cX5_seen 1 = .ok (.invokestatic 63, 3) := by decide +kernel
theorem dX5_seen_4 : decode cX5_seen 4 = .ok (.iload_n 2, 1) := by decide +kernel
theorem dX5_seen_5 : decode cX5_seen 5 = .ok (.invokestatic 37, 3) := by decide +kernel
theorem dX5_seen_8 : decode cX5_seen 8 = .ok (.aload_n 0, 1) := by decide +kernel
theorem dX5_seen_9 : decode cX5_seen 9 = .ok (.getfield 12, 3) := by decide +kernel
theorem dX5_seen_12 : decode cX5_seen 12 = .ok (.getfield 66, 3) := by decide +kernel
theorem dX5_seen_15 : decode cX5_seen 15 = .ok (.iload_n 1, 1) := by decide +kernel
theorem dX5_seen_16 : decode cX5_seen 16 = .ok (.iaload, 1) := by decide +kernel
theorem dX5_seen_17 : decode cX5_seen 17 = .ok (.aload_n 0, 1) := by decide +kernel
theorem dX5_seen_18 : decode cX5_seen 18 = .ok (.getfield 12, 3) := by decide +kernel
theorem dX5_seen_21 : decode cX5_seen 21 = .ok (.getfield 49, 3) := by decide +kernel
theorem dX5_seen_24 : decode cX5_seen 24 = .ok (.iload_n 2, 1) := by decide +kernel
theorem dX5_seen_25 : decode cX5_seen 25 = .ok (.iaload, 1) := by decide +kernel
theorem dX5_seen_26 : decode cX5_seen 26 = .ok (.invokestatic 175, 3) := by decide +kernel
theorem dX5_seen_29 : decode cX5_seen 29 = .ok (.ireturn, 1) := by decide +kernel
set_option maxRecDepth 20000 in
theorem ggX5_painterOf_X5_needPainter : GoodIn wsX5_painterOf wsX5_needPainter := goodIn_ca (goodIn_r _ [7, 8, 9] (by decide +kernel) (by decide +kernel)) (goodIn_sub (fun _ h => List.mem_cons_of_mem _ (List.mem_append_right _ h)) (by decide +kernel))
set_option maxRecDepth 20000 in
theorem gX5_painterOf_X5_needPainter : GoodIn wsX5_painterOf (va_wsS RX5 63 yX5_needPainter wsX5_needPainter) := goodIn_app (goodIn_of _ (by decide +kernel)) ggX5_painterOf_X5_needPainter
set_option maxRecDepth 20000 in
theorem ggX5_painterOf_X0_pairsTold : GoodIn wsX5_painterOf wsX0_pairsTold := goodIn_r _ [14, 15, 16, 17, 18, 13, 19, 20, 21, 22, 23, 24, 25, 26, 27, 28, 29, 30, 31, 32, 54, 55, 56, 57, 58, 59, 60, 61, 62, 63] (by decide +kernel) (by decide +kernel)
set_option maxRecDepth 20000 in
theorem gX5_painterOf_X0_pairsTold : GoodIn wsX5_painterOf (wsV RX5 145 RX0 yX0_pairsTold wsX0_pairsTold) := goodIn_app (goodIn_of _ (by decide +kernel)) ggX5_painterOf_X0_pairsTold
set_option maxRecDepth 20000 in
theorem ggX5_painterOf_X0_wrongPairs : GoodIn wsX5_painterOf wsX0_wrongPairs := goodIn_r _ [36, 37, 38, 39, 40, 13, 41, 42, 15, 16, 17, 18, 19, 20, 21, 22, 23, 24, 25, 26, 27, 28, 29, 30, 31, 32, 54, 55, 56, 57, 58, 59, 60, 61, 62, 63] (by decide +kernel) (by decide +kernel)
set_option maxRecDepth 20000 in
theorem gX5_painterOf_X0_wrongPairs : GoodIn wsX5_painterOf (wsV RX5 178 RX0 yX0_wrongPairs wsX0_wrongPairs) := goodIn_app (goodIn_of _ (by decide +kernel)) ggX5_painterOf_X0_wrongPairs
set_option maxRecDepth 20000 in
theorem ggX5_painterOf_X0_chartsRead : GoodIn wsX5_painterOf wsX0_chartsRead := goodIn_r _ [46, 47, 48, 49, 38, 39, 40, 13, 41, 42, 15, 16, 17, 18, 19, 20, 21, 22, 23, 24, 25, 26, 27, 28, 29, 30, 31, 32, 54, 55, 56, 57, 58, 59, 60, 61, 62, 63] (by decide +kernel) (by decide +kernel)
set_option maxRecDepth 20000 in
theorem gX5_painterOf_X0_chartsRead : GoodIn wsX5_painterOf (wsV RX5 181 RX0 yX0_chartsRead wsX0_chartsRead) := goodIn_app (goodIn_of _ (by decide +kernel)) ggX5_painterOf_X0_chartsRead
theorem dX5_painterOf_0 : decode cX5_painterOf 0 = .ok (.iload_n 1, 1) := by decide +kernel
theorem dX5_painterOf_1 : decode cX5_painterOf 1 = .ok (.invokestatic 63, 3) := by decide +kernel
theorem dX5_painterOf_4 : decode cX5_painterOf 4 = .ok (.iload_n 2, 1) := by decide +kernel
theorem dX5_painterOf_5 : decode cX5_painterOf 5 = .ok (.tableswitch 126 0 6 #[43, 53, 63, 73, 91, 100, 117], 43) := by decide +kernel
theorem dX5_painterOf_48 : decode cX5_painterOf 48 = .ok (.aload_n 0, 1) := by decide +kernel
theorem dX5_painterOf_49 : decode cX5_painterOf 49 = .ok (.getfield 12, 3) := by decide +kernel
theorem dX5_painterOf_52 : decode cX5_painterOf 52 = .ok (.getfield 66, 3) := by decide +kernel
theorem dX5_painterOf_55 : decode cX5_painterOf 55 = .ok (.iload_n 1, 1) := by decide +kernel
theorem dX5_painterOf_56 : decode cX5_painterOf 56 = .ok (.iaload, 1) := by decide +kernel
theorem dX5_painterOf_57 : decode cX5_painterOf 57 = .ok (.ireturn, 1) := by decide +kernel
theorem dX5_painterOf_58 : decode cX5_painterOf 58 = .ok (.aload_n 0, 1) := by decide +kernel
theorem dX5_painterOf_59 : decode cX5_painterOf 59 = .ok (.getfield 12, 3) := by decide +kernel
theorem dX5_painterOf_62 : decode cX5_painterOf 62 = .ok (.getfield 69, 3) := by decide +kernel
theorem dX5_painterOf_65 : decode cX5_painterOf 65 = .ok (.iload_n 1, 1) := by decide +kernel
theorem dX5_painterOf_66 : decode cX5_painterOf 66 = .ok (.iaload, 1) := by decide +kernel
theorem dX5_painterOf_67 : decode cX5_painterOf 67 = .ok (.ireturn, 1) := by decide +kernel
theorem dX5_painterOf_68 : decode cX5_painterOf 68 = .ok (.aload_n 0, 1) := by decide +kernel
theorem dX5_painterOf_69 : decode cX5_painterOf 69 = .ok (.getfield 12, 3) := by decide +kernel
theorem dX5_painterOf_72 : decode cX5_painterOf 72 = .ok (.getfield 72, 3) := by decide +kernel
theorem dX5_painterOf_75 : decode cX5_painterOf 75 = .ok (.iload_n 1, 1) := by decide +kernel
theorem dX5_painterOf_76 : decode cX5_painterOf 76 = .ok (.iaload, 1) := by decide +kernel
theorem dX5_painterOf_77 : decode cX5_painterOf 77 = .ok (.ireturn, 1) := by decide +kernel
theorem dX5_painterOf_78 : decode cX5_painterOf 78 = .ok (.aload_n 0, 1) := by decide +kernel
theorem dX5_painterOf_79 : decode cX5_painterOf 79 = .ok (.getfield 12, 3) := by decide +kernel
theorem dX5_painterOf_82 : decode cX5_painterOf 82 = .ok (.iload_n 1, 1) := by decide +kernel
theorem dX5_painterOf_83 : decode cX5_painterOf 83 = .ok (.aload_n 0, 1) := by decide +kernel
theorem dX5_painterOf_84 : decode cX5_painterOf 84 = .ok (.getfield 12, 3) := by decide +kernel
theorem dX5_painterOf_87 : decode cX5_painterOf 87 = .ok (.getfield 72, 3) := by decide +kernel
theorem dX5_painterOf_90 : decode cX5_painterOf 90 = .ok (.iload_n 1, 1) := by decide +kernel
theorem dX5_painterOf_91 : decode cX5_painterOf 91 = .ok (.iaload, 1) := by decide +kernel
theorem dX5_painterOf_92 : decode cX5_painterOf 92 = .ok (.invokevirtual 145, 3) := by decide +kernel
theorem dX5_painterOf_95 : decode cX5_painterOf 95 = .ok (.ireturn, 1) := by decide +kernel
theorem dX5_painterOf_96 : decode cX5_painterOf 96 = .ok (.aload_n 0, 1) := by decide +kernel
theorem dX5_painterOf_97 : decode cX5_painterOf 97 = .ok (.getfield 12, 3) := by decide +kernel
theorem dX5_painterOf_100 : decode cX5_painterOf 100 = .ok (.iload_n 1, 1) := by decide +kernel
theorem dX5_painterOf_101 : decode cX5_painterOf 101 = .ok (.invokevirtual 178, 3) := by decide +kernel
theorem dX5_painterOf_104 : decode cX5_painterOf 104 = .ok (.ireturn, 1) := by decide +kernel
theorem dX5_painterOf_105 : decode cX5_painterOf 105 = .ok (.aload_n 0, 1) := by decide +kernel
theorem dX5_painterOf_106 : decode cX5_painterOf 106 = .ok (.getfield 12, 3) := by decide +kernel
theorem dX5_painterOf_109 : decode cX5_painterOf 109 = .ok (.iload_n 1, 1) := by decide +kernel
theorem dX5_painterOf_110 : decode cX5_painterOf 110 = .ok (.invokevirtual 178, 3) := by decide +kernel
theorem dX5_painterOf_113 : decode cX5_painterOf 113 = .ok (.ifCond .ne 7, 3) := by decide +kernel
theorem dX5_painterOf_116 : decode cX5_painterOf 116 = .ok (.iconst 1, 1) := by decide +kernel
theorem dX5_painterOf_117 : decode cX5_painterOf 117 = .ok (.goto 4, 3) := by decide +kernel
theorem dX5_painterOf_120 : decode cX5_painterOf 120 = .ok (.iconst 0, 1) := by decide +kernel
theorem dX5_painterOf_121 : decode cX5_painterOf 121 = .ok (.ireturn, 1) := by decide +kernel
theorem dX5_painterOf_122 : decode cX5_painterOf 122 = .ok (.aload_n 0, 1) := by decide +kernel
theorem dX5_painterOf_123 : decode cX5_painterOf 123 = .ok (.getfield 12, 3) := by decide +kernel
theorem dX5_painterOf_126 : decode cX5_painterOf 126 = .ok (.iload_n 1, 1) := by decide +kernel
theorem dX5_painterOf_127 : decode cX5_painterOf 127 = .ok (.invokevirtual 181, 3) := by decide +kernel
theorem dX5_painterOf_130 : decode cX5_painterOf 130 = .ok (.ireturn, 1) := by decide +kernel
theorem dX5_painterOf_131 : decode cX5_painterOf 131 = .ok (.new 137, 3) := by decide +kernel
theorem dX5_painterOf_134 : decode cX5_painterOf 134 = .ok (.dup, 1) := by decide +kernel
theorem dX5_painterOf_135 : decode cX5_painterOf 135 = .ok (.ldc 184, 2) := by decide +kernel
theorem dX5_painterOf_137 : decode cX5_painterOf 137 = .ok (.invokespecial 141, 3) := by decide +kernel
theorem dX5_painterOf_140 : decode cX5_painterOf 140 = .ok (.athrow, 1) := by decide +kernel
set_option maxRecDepth 20000 in
theorem ggX5_apart_X5_needPainter : GoodIn wsX5_apart wsX5_needPainter := goodIn_ca (goodIn_r _ [5, 6, 7] (by decide +kernel) (by decide +kernel)) (goodIn_sub (fun _ h => List.mem_cons_of_mem _ (List.mem_append_right _ h)) (by decide +kernel))
set_option maxRecDepth 20000 in
theorem gX5_apart_X5_needPainter : GoodIn wsX5_apart (va_wsS RX5 63 yX5_needPainter wsX5_needPainter) := goodIn_app (goodIn_of _ (by decide +kernel)) ggX5_apart_X5_needPainter
set_option maxRecDepth 20000 in
theorem ggX5_apart_X5_needPot : GoodIn wsX5_apart wsX5_needPot := goodIn_ca (goodIn_r _ [10, 6, 7] (by decide +kernel) (by decide +kernel)) (goodIn_sub (fun _ h => List.mem_cons_of_mem _ (List.mem_append_right _ h)) (by decide +kernel))
set_option maxRecDepth 20000 in
theorem gX5_apart_X5_needPot : GoodIn wsX5_apart (va_wsS RX5 37 yX5_needPot wsX5_needPot) := goodIn_app (goodIn_of _ (by decide +kernel)) ggX5_apart_X5_needPot
set_option maxRecDepth 20000 in
theorem ggX5_apart_X0_tells : GoodIn wsX5_apart wsX0_tells := goodIn_r _ [15, 16, 17, 18, 19, 20, 14, 21, 22, 23, 24, 25, 26, 27, 28, 29, 30, 31, 32, 33, 34, 39, 40, 41, 42, 43, 44, 45, 46, 47, 48] (by decide +kernel) (by decide +kernel)
set_option maxRecDepth 20000 in
theorem gX5_apart_X0_tells : GoodIn wsX5_apart (wsV RX5 186 RX0 yX0_tells wsX0_tells) := goodIn_app (goodIn_of _ (by decide +kernel)) ggX5_apart_X0_tells
theorem dX5_apart_0 : decode cX5_apart 0 = .ok (.iload_n 1, 1) := by decide +kernel
theorem dX5_apart_1 : decode cX5_apart 1 = .ok (.invokestatic 63, 3) := by decide +kernel
theorem dX5_apart_4 : decode cX5_apart 4 = .ok (.iload_n 2, 1) := by decide +kernel
theorem dX5_apart_5 : decode cX5_apart 5 = .ok (.invokestatic 37, 3) := by decide +kernel
theorem dX5_apart_8 : decode cX5_apart 8 = .ok (.iload_n 3, 1) := by decide +kernel
theorem dX5_apart_9 : decode cX5_apart 9 = .ok (.invokestatic 37, 3) := by decide +kernel
theorem dX5_apart_12 : decode cX5_apart 12 = .ok (.aload_n 0, 1) := by decide +kernel
theorem dX5_apart_13 : decode cX5_apart 13 = .ok (.getfield 12, 3) := by decide +kernel
theorem dX5_apart_16 : decode cX5_apart 16 = .ok (.iload_n 1, 1) := by decide +kernel
theorem dX5_apart_17 : decode cX5_apart 17 = .ok (.iload_n 2, 1) := by decide +kernel
theorem dX5_apart_18 : decode cX5_apart 18 = .ok (.iload_n 3, 1) := by decide +kernel
theorem dX5_apart_19 : decode cX5_apart 19 = .ok (.invokevirtual 186, 3) := by decide +kernel
theorem dX5_apart_22 : decode cX5_apart 22 = .ok (.ifCond .eq 7, 3) := by decide +kernel
theorem dX5_apart_25 : decode cX5_apart 25 = .ok (.iconst 1, 1) := by decide +kernel
theorem dX5_apart_26 : decode cX5_apart 26 = .ok (.goto 4, 3) := by decide +kernel
theorem dX5_apart_29 : decode cX5_apart 29 = .ok (.iconst 0, 1) := by decide +kernel
theorem dX5_apart_30 : decode cX5_apart 30 = .ok (.ireturn, 1) := by decide +kernel
set_option maxRecDepth 20000 in
theorem ggX5_chartOf_X5_needChart : GoodIn wsX5_chartOf wsX5_needChart := goodIn_ca (goodIn_r _ [8, 9, 10, 3, 41, 42, 43, 44, 45, 46, 47, 48, 49, 50, 51, 52, 53, 54] (by decide +kernel) (by decide +kernel)) (goodIn_sub (fun _ h => List.mem_cons_of_mem _ (List.mem_append_right _ h)) (by decide +kernel))
set_option maxRecDepth 20000 in
theorem gX5_chartOf_X5_needChart : GoodIn wsX5_chartOf (wsV RX5 92 RX5 yX5_needChart wsX5_needChart) := goodIn_app (goodIn_of _ (by decide +kernel)) ggX5_chartOf_X5_needChart
set_option maxRecDepth 20000 in
theorem ggX5_chartOf_X0_readersOf : GoodIn wsX5_chartOf wsX0_readersOf := goodIn_r _ [15, 16, 17, 18, 19, 20, 14, 21, 22, 23, 24, 25, 26, 27, 28, 29, 30, 31, 32, 33, 34, 35, 36, 37, 38, 39, 40, 45, 46, 47, 48, 49, 50, 51, 52, 53, 54] (by decide +kernel) (by decide +kernel)
set_option maxRecDepth 20000 in
theorem gX5_chartOf_X0_readersOf : GoodIn wsX5_chartOf (wsV RX5 95 RX0 yX0_readersOf wsX0_readersOf) := goodIn_app (goodIn_of _ (by decide +kernel)) ggX5_chartOf_X0_readersOf
theorem dX5_chartOf_0 : decode cX5_chartOf 0 = .ok (.aload_n 0, 1) := by decide +kernel
theorem dX5_chartOf_1 : decode cX5_chartOf 1 = .ok (.iload_n 1, 1) := by decide +kernel
theorem dX5_chartOf_2 : decode cX5_chartOf 2 = .ok (.invokevirtual 92, 3) := by decide +kernel
theorem dX5_chartOf_5 : decode cX5_chartOf 5 = .ok (.iload_n 2, 1) := by decide +kernel
theorem dX5_chartOf_6 : decode cX5_chartOf 6 = .ok (.tableswitch 55 0 2 #[26, 36, 46], 26) := by decide +kernel
theorem dX5_chartOf_32 : decode cX5_chartOf 32 = .ok (.aload_n 0, 1) := by decide +kernel
theorem dX5_chartOf_33 : decode cX5_chartOf 33 = .ok (.getfield 12, 3) := by decide +kernel
theorem dX5_chartOf_36 : decode cX5_chartOf 36 = .ok (.getfield 190, 3) := by decide +kernel
theorem dX5_chartOf_39 : decode cX5_chartOf 39 = .ok (.iload_n 1, 1) := by decide +kernel
theorem dX5_chartOf_40 : decode cX5_chartOf 40 = .ok (.iaload, 1) := by decide +kernel
theorem dX5_chartOf_41 : decode cX5_chartOf 41 = .ok (.ireturn, 1) := by decide +kernel
theorem dX5_chartOf_42 : decode cX5_chartOf 42 = .ok (.aload_n 0, 1) := by decide +kernel
theorem dX5_chartOf_43 : decode cX5_chartOf 43 = .ok (.getfield 12, 3) := by decide +kernel
theorem dX5_chartOf_46 : decode cX5_chartOf 46 = .ok (.getfield 193, 3) := by decide +kernel
theorem dX5_chartOf_49 : decode cX5_chartOf 49 = .ok (.iload_n 1, 1) := by decide +kernel
theorem dX5_chartOf_50 : decode cX5_chartOf 50 = .ok (.iaload, 1) := by decide +kernel
theorem dX5_chartOf_51 : decode cX5_chartOf 51 = .ok (.ireturn, 1) := by decide +kernel
theorem dX5_chartOf_52 : decode cX5_chartOf 52 = .ok (.aload_n 0, 1) := by decide +kernel
theorem dX5_chartOf_53 : decode cX5_chartOf 53 = .ok (.getfield 12, 3) := by decide +kernel
theorem dX5_chartOf_56 : decode cX5_chartOf 56 = .ok (.iload_n 1, 1) := by decide +kernel
theorem dX5_chartOf_57 : decode cX5_chartOf 57 = .ok (.invokevirtual 95, 3) := by decide +kernel
theorem dX5_chartOf_60 : decode cX5_chartOf 60 = .ok (.ireturn, 1) := by decide +kernel
theorem dX5_chartOf_61 : decode cX5_chartOf 61 = .ok (.new 137, 3) := by decide +kernel
theorem dX5_chartOf_64 : decode cX5_chartOf 64 = .ok (.dup, 1) := by decide +kernel
theorem dX5_chartOf_65 : decode cX5_chartOf 65 = .ok (.ldc 196, 2) := by decide +kernel
theorem dX5_chartOf_67 : decode cX5_chartOf 67 = .ok (.invokespecial 141, 3) := by decide +kernel
theorem dX5_chartOf_70 : decode cX5_chartOf 70 = .ok (.athrow, 1) := by decide +kernel
set_option maxRecDepth 20000 in
theorem ggX5_count_X0_labelled : GoodIn wsX5_count wsX0_labelled := goodIn_r _ [9, 10, 65, 66, 67, 68, 69, 70, 71, 72, 73, 74] (by decide +kernel) (by decide +kernel)
set_option maxRecDepth 20000 in
theorem gX5_count_X0_labelled : GoodIn wsX5_count (wsV RX5 159 RX0 yX0_labelled wsX0_labelled) := goodIn_app (goodIn_of _ (by decide +kernel)) ggX5_count_X0_labelled
set_option maxRecDepth 20000 in
theorem ggX5_count_X0_unlikeLabels : GoodIn wsX5_count wsX0_unlikeLabels := goodIn_r _ [14, 10, 15, 16, 17, 18, 19, 20, 21, 65, 66, 67, 68, 69, 70, 71, 72, 73, 74] (by decide +kernel) (by decide +kernel)
set_option maxRecDepth 20000 in
theorem gX5_count_X0_unlikeLabels : GoodIn wsX5_count (wsV RX5 81 RX0 yX0_unlikeLabels wsX0_unlikeLabels) := goodIn_app (goodIn_of _ (by decide +kernel)) ggX5_count_X0_unlikeLabels
set_option maxRecDepth 20000 in
theorem ggX5_count_X0_pairsToldByNobody : GoodIn wsX5_count wsX0_pairsToldByNobody := goodIn_r _ [25, 26, 27, 28, 8, 29, 30, 31, 32, 33, 34, 35, 36, 37, 38, 39, 40, 41, 42, 43, 44, 45, 46, 47, 48, 65, 66, 67, 68, 69, 70, 71, 72, 73, 74] (by decide +kernel) (by decide +kernel)
set_option maxRecDepth 20000 in
theorem gX5_count_X0_pairsToldByNobody : GoodIn wsX5_count (wsV RX5 201 RX0 yX0_pairsToldByNobody wsX0_pairsToldByNobody) := goodIn_app (goodIn_of _ (by decide +kernel)) ggX5_count_X0_pairsToldByNobody
set_option maxRecDepth 20000 in
theorem ggX5_count_X0_paintersServed : GoodIn wsX5_count wsX0_paintersServed := goodIn_r _ [52, 53, 54, 55, 8, 56, 10, 57, 58, 59, 60, 30, 31, 32, 33, 34, 35, 36, 37, 38, 39, 40, 41, 42, 43, 44, 45, 46, 47, 48, 65, 66, 67, 68, 69, 70, 71, 72, 73, 74] (by decide +kernel) (by decide +kernel)
set_option maxRecDepth 20000 in
theorem gX5_count_X0_paintersServed : GoodIn wsX5_count (wsV RX5 204 RX0 yX0_paintersServed wsX0_paintersServed) := goodIn_app (goodIn_of _ (by decide +kernel)) ggX5_count_X0_paintersServed
theorem dX5_count_0 : decode cX5_count 0 = .ok (.iload_n 1, 1) := by decide +kernel
theorem dX5_count_1 : decode cX5_count 1 = .ok (.tableswitch 111 0 7 #[47, 55, 63, 71, 79, 87, 95, 103], 47) := by decide +kernel
theorem dX5_count_48 : decode cX5_count 48 = .ok (.aload_n 0, 1) := by decide +kernel
theorem dX5_count_49 : decode cX5_count 49 = .ok (.getfield 12, 3) := by decide +kernel
theorem dX5_count_52 : decode cX5_count 52 = .ok (.invokevirtual 159, 3) := by decide +kernel
theorem dX5_count_55 : decode cX5_count 55 = .ok (.ireturn, 1) := by decide +kernel
theorem dX5_count_56 : decode cX5_count 56 = .ok (.aload_n 0, 1) := by decide +kernel
theorem dX5_count_57 : decode cX5_count 57 = .ok (.getfield 12, 3) := by decide +kernel
theorem dX5_count_60 : decode cX5_count 60 = .ok (.invokevirtual 81, 3) := by decide +kernel
theorem dX5_count_63 : decode cX5_count 63 = .ok (.ireturn, 1) := by decide +kernel
theorem dX5_count_64 : decode cX5_count 64 = .ok (.aload_n 0, 1) := by decide +kernel
theorem dX5_count_65 : decode cX5_count 65 = .ok (.getfield 12, 3) := by decide +kernel
theorem dX5_count_68 : decode cX5_count 68 = .ok (.getfield 198, 3) := by decide +kernel
theorem dX5_count_71 : decode cX5_count 71 = .ok (.ireturn, 1) := by decide +kernel
theorem dX5_count_72 : decode cX5_count 72 = .ok (.aload_n 0, 1) := by decide +kernel
theorem dX5_count_73 : decode cX5_count 73 = .ok (.getfield 12, 3) := by decide +kernel
theorem dX5_count_76 : decode cX5_count 76 = .ok (.invokevirtual 201, 3) := by decide +kernel
theorem dX5_count_79 : decode cX5_count 79 = .ok (.ireturn, 1) := by decide +kernel
theorem dX5_count_80 : decode cX5_count 80 = .ok (.aload_n 0, 1) := by decide +kernel
theorem dX5_count_81 : decode cX5_count 81 = .ok (.getfield 12, 3) := by decide +kernel
theorem dX5_count_84 : decode cX5_count 84 = .ok (.invokevirtual 204, 3) := by decide +kernel
theorem dX5_count_87 : decode cX5_count 87 = .ok (.ireturn, 1) := by decide +kernel
theorem dX5_count_88 : decode cX5_count 88 = .ok (.aload_n 0, 1) := by decide +kernel
theorem dX5_count_89 : decode cX5_count 89 = .ok (.getfield 12, 3) := by decide +kernel
theorem dX5_count_92 : decode cX5_count 92 = .ok (.getfield 207, 3) := by decide +kernel
theorem dX5_count_95 : decode cX5_count 95 = .ok (.ireturn, 1) := by decide +kernel
theorem dX5_count_96 : decode cX5_count 96 = .ok (.aload_n 0, 1) := by decide +kernel
theorem dX5_count_97 : decode cX5_count 97 = .ok (.getfield 12, 3) := by decide +kernel
theorem dX5_count_100 : decode cX5_count 100 = .ok (.getfield 210, 3) := by decide +kernel
theorem dX5_count_103 : decode cX5_count 103 = .ok (.ireturn, 1) := by decide +kernel
theorem dX5_count_104 : decode cX5_count 104 = .ok (.aload_n 0, 1) := by decide +kernel
theorem dX5_count_105 : decode cX5_count 105 = .ok (.getfield 19, 3) := by decide +kernel
theorem dX5_count_108 : decode cX5_count 108 = .ok (.getfield 164, 3) := by decide +kernel
theorem dX5_count_111 : decode cX5_count 111 = .ok (.ireturn, 1) := by decide +kernel
theorem dX5_count_112 : decode cX5_count 112 = .ok (.new 137, 3) := by decide +kernel
