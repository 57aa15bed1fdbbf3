theorem dL_print_33 : decode cL_print 33 = .ok (.iload_n 3, 1) := by decide +kernel
theorem dL_print_34 : decode cL_print 34 = .ok (.bipush 32, 2) := by decide +kernel
theorem dL_print_36 : decode cL_print 36 = .ok (.if_icmp .ge 27, 3) := by decide +kernel
theorem dL_print_39 : decode cL_print 39 = .ok (.ldc2_w 144, 3) := by decide +kernel
theorem dL_print_42 : decode cL_print 42 = .ok (.lload_n 1, 1) := by decide +kernel
theorem dL_print_43 : decode cL_print 43 = .ok (.lmul, 1) := by decide +kernel
theorem dL_print_44 : decode cL_print 44 = .ok (.aload_n 0, 1) := by decide +kernel
theorem dL_print_45 : decode cL_print 45 = .ok (.iload_n 3, 1) := by decide +kernel
theorem dL_print_46 : decode cL_print 46 = .ok (.iconst 4, 1) := by decide +kernel
theorem dL_print_47 : decode cL_print 47 = .ok (.idiv, 1) := by decide +kernel
theorem dL_print_48 : decode cL_print 48 = .ok (.iload_n 3, 1) := by decide +kernel
theorem dL_print_49 : decode cL_print 49 = .ok (.iconst 4, 1) := by decide +kernel
theorem dL_print_50 : decode cL_print 50 = .ok (.irem, 1) := by decide +kernel
theorem dL_print_51 : decode cL_print 51 = .ok (.invokestatic 125, 3) := by decide +kernel
theorem dL_print_54 : decode cL_print 54 = .ok (.i2l, 1) := by decide +kernel
theorem dL_print_55 : decode cL_print 55 = .ok (.ladd, 1) := by decide +kernel
theorem dL_print_56 : decode cL_print 56 = .ok (.lstore_n 1, 1) := by decide +kernel
theorem dL_print_57 : decode cL_print 57 = .ok (.iinc 3 1, 3) := by decide +kernel
theorem dL_print_60 : decode cL_print 60 = .ok (.goto (-27), 3) := by decide +kernel
theorem dL_print_63 : decode cL_print 63 = .ok (.iconst 0, 1) := by decide +kernel
theorem dL_print_64 : decode cL_print 64 = .ok (.istore_n 3, 1) := by decide +kernel
theorem dL_print_65 : decode cL_print 65 = .ok (.iload_n 3, 1) := by decide +kernel
theorem dL_print_66 : decode cL_print 66 = .ok (.bipush 28, 2) := by decide +kernel
theorem dL_print_68 : decode cL_print 68 = .ok (.if_icmp .ge 29, 3) := by decide +kernel
theorem dL_print_71 : decode cL_print 71 = .ok (.ldc2_w 144, 3) := by decide +kernel
theorem dL_print_74 : decode cL_print 74 = .ok (.lload_n 1, 1) := by decide +kernel
theorem dL_print_75 : decode cL_print 75 = .ok (.lmul, 1) := by decide +kernel
theorem dL_print_76 : decode cL_print 76 = .ok (.aload_n 0, 1) := by decide +kernel
theorem dL_print_77 : decode cL_print 77 = .ok (.iload_n 3, 1) := by decide +kernel
theorem dL_print_78 : decode cL_print 78 = .ok (.bipush 7, 2) := by decide +kernel
theorem dL_print_80 : decode cL_print 80 = .ok (.idiv, 1) := by decide +kernel
theorem dL_print_81 : decode cL_print 81 = .ok (.iload_n 3, 1) := by decide +kernel
theorem dL_print_82 : decode cL_print 82 = .ok (.bipush 7, 2) := by decide +kernel
theorem dL_print_84 : decode cL_print 84 = .ok (.irem, 1) := by decide +kernel
theorem dL_print_85 : decode cL_print 85 = .ok (.invokestatic 116, 3) := by decide +kernel
theorem dL_print_88 : decode cL_print 88 = .ok (.i2l, 1) := by decide +kernel
theorem dL_print_89 : decode cL_print 89 = .ok (.ladd, 1) := by decide +kernel
theorem dL_print_90 : decode cL_print 90 = .ok (.lstore_n 1, 1) := by decide +kernel
theorem dL_print_91 : decode cL_print 91 = .ok (.iinc 3 1, 3) := by decide +kernel
theorem dL_print_94 : decode cL_print 94 = .ok (.goto (-29), 3) := by decide +kernel
theorem dL_print_97 : decode cL_print 97 = .ok (.iconst 0, 1) := by decide +kernel
theorem dL_print_98 : decode cL_print 98 = .ok (.istore_n 3, 1) := by decide +kernel
theorem dL_print_99 : decode cL_print 99 = .ok (.iload_n 3, 1) := by decide +kernel
theorem dL_print_100 : decode cL_print 100 = .ok (.iconst 3, 1) := by decide +kernel
theorem dL_print_101 : decode cL_print 101 = .ok (.aload_n 0, 1) := by decide +kernel
theorem dL_print_102 : decode cL_print 102 = .ok (.iconst 2, 1) := by decide +kernel
theorem dL_print_103 : decode cL_print 103 = .ok (.invokestatic 127, 3) := by decide +kernel
theorem dL_print_106 : decode cL_print 106 = .ok (.imul, 1) := by decide +kernel
theorem dL_print_107 : decode cL_print 107 = .ok (.if_icmp .ge 27, 3) := by decide +kernel
theorem dL_print_110 : decode cL_print 110 = .ok (.ldc2_w 144, 3) := by decide +kernel
theorem dL_print_113 : decode cL_print 113 = .ok (.lload_n 1, 1) := by decide +kernel
theorem dL_print_114 : decode cL_print 114 = .ok (.lmul, 1) := by decide +kernel
theorem dL_print_115 : decode cL_print 115 = .ok (.aload_n 0, 1) := by decide +kernel
theorem dL_print_116 : decode cL_print 116 = .ok (.iload_n 3, 1) := by decide +kernel
theorem dL_print_117 : decode cL_print 117 = .ok (.iconst 3, 1) := by decide +kernel
theorem dL_print_118 : decode cL_print 118 = .ok (.idiv, 1) := by decide +kernel
theorem dL_print_119 : decode cL_print 119 = .ok (.iload_n 3, 1) := by decide +kernel
theorem dL_print_120 : decode cL_print 120 = .ok (.iconst 3, 1) := by decide +kernel
theorem dL_print_121 : decode cL_print 121 = .ok (.irem, 1) := by decide +kernel
theorem dL_print_122 : decode cL_print 122 = .ok (.invokestatic 129, 3) := by decide +kernel
theorem dL_print_125 : decode cL_print 125 = .ok (.i2l, 1) := by decide +kernel
theorem dL_print_126 : decode cL_print 126 = .ok (.ladd, 1) := by decide +kernel
theorem dL_print_127 : decode cL_print 127 = .ok (.lstore_n 1, 1) := by decide +kernel
theorem dL_print_128 : decode cL_print 128 = .ok (.iinc 3 1, 3) := by decide +kernel
theorem dL_print_131 : decode cL_print 131 = .ok (.goto (-32), 3) := by decide +kernel
theorem dL_print_134 : decode cL_print 134 = .ok (.lload_n 1, 1) := by decide +kernel
theorem dL_print_135 : decode cL_print 135 = .ok (.lreturn, 1) := by decide +kernel
set_option maxRecDepth 20000 in
theorem ggL_labels_L_print : GoodIn wsL_labels wsL_print := goodIn_ca (goodIn_ca ((goodIn_app (a := [Cond.code yL_print cL_print 4 (some .long)]) (goodIn_r [Cond.code yL_print cL_print 4 (some .long)] [4] rfl (by decide +kernel)) (goodIn_r _ [5, 6, 7, 8, 3, 9, 10, 11, 12, 13, 14, 15, 16, 17, 18, 19, 20, 21, 22, 23, 24, 25, 26, 27, 28, 29, 30, 31, 32, 33, 34, 35, 36, 37, 38, 39, 40, 41, 42, 43, 44, 45, 46, 47, 48, 49, 50, 51, 52, 53, 54, 55, 56, 57, 58, 59, 60, 61, 62, 63, 64, 65, 66, 67, 68, 69, 70, 71, 72, 73, 74, 75, 76, 77, 78, 79, 80, 81, 82, 83, 84, 85, 86, 87, 88, 89, 90, 91, 92, 93, 94, 95, 96, 97, 98, 99, 100, 101, 102, 103, 104, 105, 106, 107, 108, 109, 110, 111, 112, 113, 114, 115, 116, 117, 118, 119, 120, 121, 122, 123, 124, 125, 126, 127, 128, 129, 130, 131, 132, 133, 134, 135, 136, 137, 231, 232, 233, 234, 235, 236, 237, 238, 239, 240, 241, 242, 243, 244, 245, 246, 247, 248] (by decide +kernel) (by decide +kernel)))) (goodIn_sub (fun _ h => List.mem_cons_of_mem _ (List.mem_append_left _ (List.mem_append_left _ (List.mem_append_right _ h)))) (by decide +kernel))) (goodIn_sub (fun _ h => List.mem_cons_of_mem _ (List.mem_append_left _ (List.mem_append_right _ h))) (by decide +kernel))
set_option maxRecDepth 20000 in
theorem gL_labels_L_print : GoodIn wsL_labels (va_wsS RL 146 yL_print wsL_print) := goodIn_app (goodIn_of _ (by decide +kernel)) ggL_labels_L_print
set_option maxRecDepth 20000 in
theorem ggL_labels_L_fewest : GoodIn wsL_labels wsL_fewest := goodIn_ca (goodIn_ca (goodIn_r _ [140, 80, 10, 11, 81, 141, 142, 143, 15, 144, 145, 19, 108, 109, 110, 89, 90, 91, 92, 93, 17, 18, 146, 147, 148, 149, 150, 151, 152, 74, 75, 24, 76, 46, 47, 48, 49, 50, 51, 52, 53, 54, 55, 56, 57, 58, 59, 60, 61, 62, 63, 64, 153, 154, 155, 156, 157, 158, 159, 160, 161, 162, 163, 164, 165, 166, 167, 168, 169, 170, 171, 172, 173, 231, 232, 233, 234, 249, 250, 251, 252, 235, 236, 237, 238, 239, 240, 241, 242, 243, 244] (by decide +kernel) (by decide +kernel)) (goodIn_sub (fun _ h => List.mem_cons_of_mem _ (List.mem_append_left _ (List.mem_append_right _ h))) (by decide +kernel))) (goodIn_sub (fun _ h => List.mem_cons_of_mem _ (List.mem_append_left _ (List.mem_append_left _ (List.mem_append_right _ h)))) (by decide +kernel))
set_option maxRecDepth 20000 in
theorem gL_labels_L_fewest : GoodIn wsL_labels (va_wsS RL 150 yL_fewest wsL_fewest) := goodIn_app (goodIn_of _ (by decide +kernel)) ggL_labels_L_fewest
set_option maxRecDepth 20000 in
theorem ggL_labels_L_labelAll : GoodIn wsL_labels wsL_labelAll := goodIn_ca (goodIn_r _ [176, 80, 11, 177, 178, 179, 15, 180, 20, 19, 108, 109, 110, 89, 90, 181, 182, 183, 184, 185, 186, 187, 188, 189, 190, 191, 192, 193, 194, 24, 195, 47, 196, 197, 198, 199, 26, 53, 52, 46, 121, 122, 120, 200, 201, 202, 203, 204, 205, 73, 74, 75, 76, 48, 49, 50, 51, 54, 55, 56, 57, 58, 59, 60, 61, 62, 63, 64, 206, 207, 208, 27, 28, 29, 30, 31, 32, 33, 34, 35, 36, 37, 231, 232, 233, 234, 245, 246, 247, 248, 235, 236, 237, 238, 239, 240, 241, 242, 243, 244] (by decide +kernel) (by decide +kernel)) (goodIn_sub (fun _ h => List.mem_cons_of_mem _ (List.mem_append_left _ (List.mem_append_right _ h))) (by decide +kernel))
set_option maxRecDepth 20000 in
theorem gL_labels_L_labelAll : GoodIn wsL_labels (va_wsS RL 105 yL_labelAll wsL_labelAll) := goodIn_app (goodIn_of _ (by decide +kernel)) ggL_labels_L_labelAll
set_option maxRecDepth 20000 in
theorem ggL_labels_L_count : GoodIn wsL_labels wsL_count := goodIn_ca (goodIn_r _ [9, 10, 11, 12, 13, 14, 15, 16, 17, 18, 19, 20, 21, 22, 23, 24, 25, 26, 27, 28, 29, 30, 31, 32, 33, 34, 35, 36, 37, 38, 39, 40, 41, 42, 43, 44, 45, 46, 47, 48, 49, 50, 51, 52, 53, 54, 55, 56, 57, 58, 59, 60, 61, 62, 63, 64, 65, 66, 67, 68, 69, 70, 71, 72, 73, 74, 75, 76, 231, 232, 233, 234, 235, 236, 237, 238, 239, 240, 241, 242, 243, 244, 245, 246, 247, 248] (by decide +kernel) (by decide +kernel)) (goodIn_sub (fun _ h => List.mem_cons_of_mem _ (List.mem_append_left _ (List.mem_append_left _ (List.mem_append_right _ h)))) (by decide +kernel))
