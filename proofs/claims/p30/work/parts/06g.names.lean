theorem dL_labels_275 : decode cL_labels 275 = .ok (.lcmp, 1) := by decide +kernel
theorem dL_labels_276 : decode cL_labels 276 = .ok (.ifCond .ne 7, 3) := by decide +kernel
theorem dL_labels_279 : decode cL_labels 279 = .ok (.iconst 1, 1) := by decide +kernel
theorem dL_labels_280 : decode cL_labels 280 = .ok (.goto 4, 3) := by decide +kernel
theorem dL_labels_283 : decode cL_labels 283 = .ok (.iconst 0, 1) := by decide +kernel
theorem dL_labels_284 : decode cL_labels 284 = .ok (.ireturn, 1) := by decide +kernel
set_option maxRecDepth 20000 in
theorem ggL_borrows_L_print : GoodIn wsL_borrows wsL_print := goodIn_ca (goodIn_ca ((goodIn_app (a := [Cond.code yL_print cL_print 4 (some .long)]) (goodIn_r [Cond.code yL_print cL_print 4 (some .long)] [4] rfl (by decide +kernel)) (goodIn_r _ [5, 6, 7, 8, 3, 9, 10, 11, 12, 13, 14, 15, 16, 17, 18, 19, 20, 21, 22, 23, 24, 25, 26, 27, 28, 29, 30, 31, 32, 33, 34, 35, 36, 37, 38, 39, 40, 41, 42, 43, 44, 45, 46, 47, 48, 49, 50, 51, 52, 53, 54, 55, 56, 57, 58, 59, 60, 61, 62, 63, 64, 65, 66, 67, 68, 69, 70, 71, 72, 73, 74, 75, 76, 77, 78, 79, 80, 81, 82, 83, 84, 85, 86, 87, 88, 89, 90, 91, 92, 93, 94, 95, 96, 97, 98, 99, 100, 101, 102, 103, 104, 105, 106, 107, 108, 109, 110, 111, 112, 113, 114, 115, 116, 117, 118, 119, 120, 121, 122, 123, 124, 125, 126, 127, 128, 129, 130, 131, 132, 133, 134, 135, 136, 137, 187, 188, 189, 190, 191, 192, 193, 194, 195, 196, 197, 198, 199, 200, 201, 202, 203, 204] (by decide +kernel) (by decide +kernel)))) (goodIn_sub (fun _ h => List.mem_cons_of_mem _ (List.mem_append_left _ (List.mem_append_left _ (List.mem_append_right _ h)))) (by decide +kernel))) (goodIn_sub (fun _ h => List.mem_cons_of_mem _ (List.mem_append_left _ (List.mem_append_right _ h))) (by decide +kernel))
set_option maxRecDepth 20000 in
theorem gL_borrows_L_print : GoodIn wsL_borrows (va_wsS RL 146 yL_print wsL_print) := goodIn_app (goodIn_of _ (by decide +kernel)) ggL_borrows_L_print
set_option maxRecDepth 20000 in
theorem ggL_borrows_L_ifBorrowed : GoodIn wsL_borrows wsL_ifBorrowed := goodIn_ca (goodIn_r _ [140, 80, 11, 141, 142, 143, 15, 144, 19, 108, 109, 110, 89, 90, 111, 112, 113, 24, 114, 47, 48, 49, 50, 51, 52, 53, 54, 55, 56, 57, 58, 59, 60, 61, 62, 63, 64, 187, 188, 189, 190, 191, 192, 193, 194, 195, 196, 197, 198, 199, 200] (by decide +kernel) (by decide +kernel)) (goodIn_sub (fun _ h => List.mem_cons_of_mem _ (List.mem_append_left _ (List.mem_append_right _ h))) (by decide +kernel))
set_option maxRecDepth 20000 in
theorem gL_borrows_L_ifBorrowed : GoodIn wsL_borrows (va_wsS RL 131 yL_ifBorrowed wsL_ifBorrowed) := goodIn_app (goodIn_of _ (by decide +kernel)) ggL_borrows_L_ifBorrowed
set_option maxRecDepth 20000 in
theorem ggL_borrows_L_painterOf : GoodIn wsL_borrows wsL_painterOf := goodIn_ca (goodIn_ca (goodIn_r _ [103, 80, 10, 11, 81, 104, 105, 106, 15, 107, 17, 18, 19, 108, 109, 110, 89, 90, 111, 112, 113, 24, 114, 47, 48, 49, 50, 51, 52, 53, 54, 55, 56, 57, 58, 59, 60, 61, 62, 63, 64, 115, 70, 71, 72, 26, 73, 74, 75, 76, 46, 116, 117, 118, 119, 120, 121, 122, 187, 188, 189, 190, 191, 192, 193, 194, 195, 196, 197, 198, 199, 200] (by decide +kernel) (by decide +kernel)) (goodIn_sub (fun _ h => List.mem_cons_of_mem _ (List.mem_append_left _ (List.mem_append_left _ (List.mem_append_right _ h)))) (by decide +kernel))) (goodIn_sub (fun _ h => List.mem_cons_of_mem _ (List.mem_append_left _ (List.mem_append_right _ h))) (by decide +kernel))
set_option maxRecDepth 20000 in
theorem gL_borrows_L_painterOf : GoodIn wsL_borrows (va_wsS RL 116 yL_painterOf wsL_painterOf) := goodIn_app (goodIn_of _ (by decide +kernel)) ggL_borrows_L_painterOf
set_option maxRecDepth 20000 in
theorem ggL_borrows_L_borrow : GoodIn wsL_borrows wsL_borrow := goodIn_ca (goodIn_r _ [147, 80, 11, 148, 149, 150, 15, 151, 20, 19, 108, 109, 110, 89, 90, 152, 153, 154, 155, 156, 157, 158, 159, 160, 161, 162, 163, 164, 165, 24, 166, 47, 167, 168, 169, 170, 26, 53, 52, 46, 121, 122, 120, 171, 172, 187, 188, 189, 190, 191, 192, 193, 194, 195, 196, 197, 198, 199, 200, 201, 202, 203, 204] (by decide +kernel) (by decide +kernel)) (goodIn_sub (fun _ h => List.mem_cons_of_mem _ (List.mem_append_left _ (List.mem_append_right _ h))) (by decide +kernel))
set_option maxRecDepth 20000 in
theorem gL_borrows_L_borrow : GoodIn wsL_borrows (va_wsS RL 109 yL_borrow wsL_borrow) := goodIn_app (goodIn_of _ (by decide +kernel)) ggL_borrows_L_borrow
set_option maxRecDepth 20000 in
theorem ggL_borrows_L_undo : GoodIn wsL_borrows wsL_undo := goodIn_ca (goodIn_r _ [175, 176, 11, 177, 178, 179, 15, 180, 181, 182, 20, 19, 183, 184, 185, 155, 186, 157, 158, 163, 164, 165, 24, 166, 47, 167, 168, 169, 170, 26, 53, 52, 46, 121, 122, 120, 171, 172, 187, 188, 189, 190, 201, 202, 203, 204, 191, 192, 193, 194, 195, 196, 197, 198, 199, 200] (by decide +kernel) (by decide +kernel)) (goodIn_sub (fun _ h => List.mem_cons_of_mem _ (List.mem_append_right _ h)) (by decide +kernel))
set_option maxRecDepth 20000 in
theorem gL_borrows_L_undo : GoodIn wsL_borrows (va_wsS RL 152 yL_undo wsL_undo) := goodIn_app (goodIn_of _ (by decide +kernel)) ggL_borrows_L_undo
theorem dL_borrows_0 : decode cL_borrows 0 = .ok (.aload_n 0, 1) := by decide +kernel
theorem dL_borrows_1 : decode cL_borrows 1 = .ok (.invokestatic 146, 3) := by decide +kernel
theorem dL_borrows_4 : decode cL_borrows 4 = .ok (.lstore_n 3, 1) := by decide +kernel
theorem dL_borrows_5 : decode cL_borrows 5 = .ok (.aload_n 0, 1) := by decide +kernel
theorem dL_borrows_6 : decode cL_borrows 6 = .ok (.iload_n 1, 1) := by decide +kernel
theorem dL_borrows_7 : decode cL_borrows 7 = .ok (.iload_n 2, 1) := by decide +kernel
theorem dL_borrows_8 : decode cL_borrows 8 = .ok (.invokestatic 131, 3) := by decide +kernel
theorem dL_borrows_11 : decode cL_borrows 11 = .ok (.istore 5, 2) := by decide +kernel
theorem dL_borrows_13 : decode cL_borrows 13 = .ok (.aload_n 0, 1) := by decide +kernel
theorem dL_borrows_14 : decode cL_borrows 14 = .ok (.iload_n 1, 1) := by decide +kernel
theorem dL_borrows_15 : decode cL_borrows 15 = .ok (.iconst 2, 1) := by decide +kernel
theorem dL_borrows_16 : decode cL_borrows 16 = .ok (.invokestatic 116, 3) := by decide +kernel
theorem dL_borrows_19 : decode cL_borrows 19 = .ok (.istore 6, 2) := by decide +kernel
theorem dL_borrows_21 : decode cL_borrows 21 = .ok (.aload_n 0, 1) := by decide +kernel
theorem dL_borrows_22 : decode cL_borrows 22 = .ok (.iload_n 1, 1) := by decide +kernel
theorem dL_borrows_23 : decode cL_borrows 23 = .ok (.iload_n 2, 1) := by decide +kernel
theorem dL_borrows_24 : decode cL_borrows 24 = .ok (.invokestatic 109, 3) := by decide +kernel
theorem dL_borrows_27 : decode cL_borrows 27 = .ok (.iload 6, 2) := by decide +kernel
theorem dL_borrows_29 : decode cL_borrows 29 = .ok (.if_icmp .ne 37, 3) := by decide +kernel
theorem dL_borrows_32 : decode cL_borrows 32 = .ok (.aload_n 0, 1) := by decide +kernel
theorem dL_borrows_33 : decode cL_borrows 33 = .ok (.iload_n 1, 1) := by decide +kernel
theorem dL_borrows_34 : decode cL_borrows 34 = .ok (.iconst 3, 1) := by decide +kernel
theorem dL_borrows_35 : decode cL_borrows 35 = .ok (.invokestatic 116, 3) := by decide +kernel
theorem dL_borrows_38 : decode cL_borrows 38 = .ok (.iload 5, 2) := by decide +kernel
theorem dL_borrows_40 : decode cL_borrows 40 = .ok (.if_icmp .ne 26, 3) := by decide +kernel
theorem dL_borrows_43 : decode cL_borrows 43 = .ok (.aload_n 0, 1) := by decide +kernel
theorem dL_borrows_44 : decode cL_borrows 44 = .ok (.iload_n 1, 1) := by decide +kernel
theorem dL_borrows_45 : decode cL_borrows 45 = .ok (.iconst 2, 1) := by decide +kernel
theorem dL_borrows_46 : decode cL_borrows 46 = .ok (.invokestatic 116, 3) := by decide +kernel
theorem dL_borrows_49 : decode cL_borrows 49 = .ok (.iload_n 1, 1) := by decide +kernel
theorem dL_borrows_50 : decode cL_borrows 50 = .ok (.iload_n 2, 1) := by decide +kernel
theorem dL_borrows_51 : decode cL_borrows 51 = .ok (.if_icmp .ne 7, 3) := by decide +kernel
theorem dL_borrows_54 : decode cL_borrows 54 = .ok (.iconst (-1), 1) := by decide +kernel
theorem dL_borrows_55 : decode cL_borrows 55 = .ok (.goto 4, 3) := by decide +kernel
theorem dL_borrows_58 : decode cL_borrows 58 = .ok (.iload_n 2, 1) := by decide +kernel
theorem dL_borrows_59 : decode cL_borrows 59 = .ok (.if_icmp .ne 7, 3) := by decide +kernel
theorem dL_borrows_62 : decode cL_borrows 62 = .ok (.iconst 1, 1) := by decide +kernel
theorem dL_borrows_63 : decode cL_borrows 63 = .ok (.goto 4, 3) := by decide +kernel
theorem dL_borrows_66 : decode cL_borrows 66 = .ok (.iconst 0, 1) := by decide +kernel
theorem dL_borrows_67 : decode cL_borrows 67 = .ok (.istore 7, 2) := by decide +kernel
theorem dL_borrows_69 : decode cL_borrows 69 = .ok (.iload 7, 2) := by decide +kernel
theorem dL_borrows_71 : decode cL_borrows 71 = .ok (.ifCond .eq 23, 3) := by decide +kernel
theorem dL_borrows_74 : decode cL_borrows 74 = .ok (.aload_n 0, 1) := by decide +kernel
theorem dL_borrows_75 : decode cL_borrows 75 = .ok (.invokestatic 152, 3) := by decide +kernel
theorem dL_borrows_78 : decode cL_borrows 78 = .ok (.ifCond .lt 16, 3) := by decide +kernel
theorem dL_borrows_81 : decode cL_borrows 81 = .ok (.aload_n 0, 1) := by decide +kernel
theorem dL_borrows_82 : decode cL_borrows 82 = .ok (.invokestatic 146, 3) := by decide +kernel
theorem dL_borrows_85 : decode cL_borrows 85 = .ok (.lload_n 3, 1) := by decide +kernel
theorem dL_borrows_86 : decode cL_borrows 86 = .ok (.lcmp, 1) := by decide +kernel
theorem dL_borrows_87 : decode cL_borrows 87 = .ok (.ifCond .ne 7, 3) := by decide +kernel
theorem dL_borrows_90 : decode cL_borrows 90 = .ok (.iconst 1, 1) := by decide +kernel
theorem dL_borrows_91 : decode cL_borrows 91 = .ok (.goto 4, 3) := by decide +kernel
theorem dL_borrows_94 : decode cL_borrows 94 = .ok (.iconst 0, 1) := by decide +kernel
theorem dL_borrows_95 : decode cL_borrows 95 = .ok (.ireturn, 1) := by decide +kernel
