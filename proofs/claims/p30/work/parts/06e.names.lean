set_option maxRecDepth 20000 in
theorem gL_labels_L_count : GoodIn wsL_labels (va_wsS RL 127 yL_count wsL_count) := goodIn_app (goodIn_of _ (by decide +kernel)) ggL_labels_L_count
set_option maxRecDepth 20000 in
theorem ggL_labels_L_painterOf : GoodIn wsL_labels wsL_painterOf := goodIn_ca (goodIn_ca (goodIn_r _ [103, 80, 10, 11, 81, 104, 105, 106, 15, 107, 17, 18, 19, 108, 109, 110, 89, 90, 111, 112, 113, 24, 114, 47, 48, 49, 50, 51, 52, 53, 54, 55, 56, 57, 58, 59, 60, 61, 62, 63, 64, 115, 70, 71, 72, 26, 73, 74, 75, 76, 46, 116, 117, 118, 119, 120, 121, 122, 231, 232, 233, 234, 235, 236, 237, 238, 239, 240, 241, 242, 243, 244] (by decide +kernel) (by decide +kernel)) (goodIn_sub (fun _ h => List.mem_cons_of_mem _ (List.mem_append_left _ (List.mem_append_left _ (List.mem_append_right _ h)))) (by decide +kernel))) (goodIn_sub (fun _ h => List.mem_cons_of_mem _ (List.mem_append_left _ (List.mem_append_right _ h))) (by decide +kernel))
set_option maxRecDepth 20000 in
theorem gL_labels_L_painterOf : GoodIn wsL_labels (va_wsS RL 116 yL_painterOf wsL_painterOf) := goodIn_app (goodIn_of _ (by decide +kernel)) ggL_labels_L_painterOf
set_option maxRecDepth 20000 in
theorem ggL_labels_L_potOf : GoodIn wsL_labels wsL_potOf := goodIn_ca (goodIn_ca (goodIn_r _ [79, 80, 10, 11, 81, 82, 83, 84, 15, 85, 19, 86, 87, 88, 89, 90, 91, 92, 93, 17, 18, 94, 95, 56, 96, 97, 98, 99, 24, 100, 42, 43, 44, 45, 46, 47, 48, 49, 50, 51, 52, 53, 54, 55, 57, 58, 59, 60, 61, 62, 63, 64, 231, 232, 233, 234, 235, 236, 237, 238, 239, 240, 241, 242, 243, 244] (by decide +kernel) (by decide +kernel)) (goodIn_sub (fun _ h => List.mem_cons_of_mem _ (List.mem_append_left _ (List.mem_append_right _ h))) (by decide +kernel))) (goodIn_sub (fun _ h => List.mem_cons_of_mem _ (List.mem_append_left _ (List.mem_append_left _ (List.mem_append_right _ h)))) (by decide +kernel))
set_option maxRecDepth 20000 in
theorem gL_labels_L_potOf : GoodIn wsL_labels (va_wsS RL 125 yL_potOf wsL_potOf) := goodIn_app (goodIn_of _ (by decide +kernel)) ggL_labels_L_potOf
set_option maxRecDepth 20000 in
theorem ggL_labels_L_apart : GoodIn wsL_labels wsL_apart := goodIn_ca (goodIn_r _ [211, 80, 11, 212, 213, 214, 15, 215, 19, 108, 109, 110, 89, 90, 86, 87, 88, 216, 74, 75, 24, 76, 46, 47, 48, 49, 50, 51, 52, 53, 54, 55, 56, 57, 58, 59, 60, 61, 62, 63, 64, 231, 232, 233, 234, 235, 236, 237, 238, 239, 240, 241, 242, 243, 244] (by decide +kernel) (by decide +kernel)) (goodIn_sub (fun _ h => List.mem_cons_of_mem _ (List.mem_append_left _ (List.mem_append_right _ h))) (by decide +kernel))
set_option maxRecDepth 20000 in
theorem gL_labels_L_apart : GoodIn wsL_labels (va_wsS RL 118 yL_apart wsL_apart) := goodIn_app (goodIn_of _ (by decide +kernel)) ggL_labels_L_apart
set_option maxRecDepth 20000 in
theorem ggL_labels_L_undo : GoodIn wsL_labels wsL_undo := goodIn_ca (goodIn_r _ [219, 220, 11, 221, 222, 223, 15, 224, 225, 226, 20, 19, 227, 228, 229, 184, 230, 186, 187, 192, 193, 194, 24, 195, 47, 196, 197, 198, 199, 26, 53, 52, 46, 121, 122, 120, 200, 201, 231, 232, 233, 234, 245, 246, 247, 248, 235, 236, 237, 238, 239, 240, 241, 242, 243, 244] (by decide +kernel) (by decide +kernel)) (goodIn_sub (fun _ h => List.mem_cons_of_mem _ (List.mem_append_right _ h)) (by decide +kernel))
set_option maxRecDepth 20000 in
theorem gL_labels_L_undo : GoodIn wsL_labels (va_wsS RL 152 yL_undo wsL_undo) := goodIn_app (goodIn_of _ (by decide +kernel)) ggL_labels_L_undo
theorem dL_labels_0 : decode cL_labels 0 = .ok (.aload_n 0, 1) := by decide +kernel
theorem dL_labels_1 : decode cL_labels 1 = .ok (.invokestatic 146, 3) := by decide +kernel
theorem dL_labels_4 : decode cL_labels 4 = .ok (.lstore_n 2, 1) := by decide +kernel
theorem dL_labels_5 : decode cL_labels 5 = .ok (.aload_n 0, 1) := by decide +kernel
theorem dL_labels_6 : decode cL_labels 6 = .ok (.iload_n 1, 1) := by decide +kernel
theorem dL_labels_7 : decode cL_labels 7 = .ok (.iconst 0, 1) := by decide +kernel
theorem dL_labels_8 : decode cL_labels 8 = .ok (.invokestatic 150, 3) := by decide +kernel
theorem dL_labels_11 : decode cL_labels 11 = .ok (.istore 4, 2) := by decide +kernel
theorem dL_labels_13 : decode cL_labels 13 = .ok (.aload_n 0, 1) := by decide +kernel
theorem dL_labels_14 : decode cL_labels 14 = .ok (.iload_n 1, 1) := by decide +kernel
theorem dL_labels_15 : decode cL_labels 15 = .ok (.invokestatic 105, 3) := by decide +kernel
theorem dL_labels_18 : decode cL_labels 18 = .ok (.istore 5, 2) := by decide +kernel
theorem dL_labels_20 : decode cL_labels 20 = .ok (.iload 4, 2) := by decide +kernel
theorem dL_labels_22 : decode cL_labels 22 = .ok (.aload_n 0, 1) := by decide +kernel
theorem dL_labels_23 : decode cL_labels 23 = .ok (.iload_n 1, 1) := by decide +kernel
theorem dL_labels_24 : decode cL_labels 24 = .ok (.iconst 1, 1) := by decide +kernel
theorem dL_labels_25 : decode cL_labels 25 = .ok (.invokestatic 150, 3) := by decide +kernel
theorem dL_labels_28 : decode cL_labels 28 = .ok (.if_icmp .ne 112, 3) := by decide +kernel
theorem dL_labels_31 : decode cL_labels 31 = .ok (.iload 5, 2) := by decide +kernel
theorem dL_labels_33 : decode cL_labels 33 = .ok (.iload 4, 2) := by decide +kernel
theorem dL_labels_35 : decode cL_labels 35 = .ok (.if_icmp .lt 105, 3) := by decide +kernel
theorem dL_labels_38 : decode cL_labels 38 = .ok (.iload 5, 2) := by decide +kernel
theorem dL_labels_40 : decode cL_labels 40 = .ok (.aload_n 0, 1) := by decide +kernel
theorem dL_labels_41 : decode cL_labels 41 = .ok (.iconst 1, 1) := by decide +kernel
theorem dL_labels_42 : decode cL_labels 42 = .ok (.invokestatic 127, 3) := by decide +kernel
theorem dL_labels_45 : decode cL_labels 45 = .ok (.if_icmp .ne 95, 3) := by decide +kernel
theorem dL_labels_48 : decode cL_labels 48 = .ok (.aload_n 0, 1) := by decide +kernel
theorem dL_labels_49 : decode cL_labels 49 = .ok (.iconst 0, 1) := by decide +kernel
theorem dL_labels_50 : decode cL_labels 50 = .ok (.invokestatic 127, 3) := by decide +kernel
theorem dL_labels_53 : decode cL_labels 53 = .ok (.bipush 8, 2) := by decide +kernel
theorem dL_labels_55 : decode cL_labels 55 = .ok (.if_icmp .ne 85, 3) := by decide +kernel
theorem dL_labels_58 : decode cL_labels 58 = .ok (.aload_n 0, 1) := by decide +kernel
theorem dL_labels_59 : decode cL_labels 59 = .ok (.iload_n 1, 1) := by decide +kernel
theorem dL_labels_60 : decode cL_labels 60 = .ok (.iconst 5, 1) := by decide +kernel
theorem dL_labels_61 : decode cL_labels 61 = .ok (.invokestatic 116, 3) := by decide +kernel
theorem dL_labels_64 : decode cL_labels 64 = .ok (.iconst 1, 1) := by decide +kernel
theorem dL_labels_65 : decode cL_labels 65 = .ok (.if_icmp .ne 75, 3) := by decide +kernel
theorem dL_labels_68 : decode cL_labels 68 = .ok (.aload_n 0, 1) := by decide +kernel
theorem dL_labels_69 : decode cL_labels 69 = .ok (.iconst 0, 1) := by decide +kernel
theorem dL_labels_70 : decode cL_labels 70 = .ok (.iconst 3, 1) := by decide +kernel
theorem dL_labels_71 : decode cL_labels 71 = .ok (.invokestatic 125, 3) := by decide +kernel
theorem dL_labels_74 : decode cL_labels 74 = .ok (.ifCond .ne 66, 3) := by decide +kernel
theorem dL_labels_77 : decode cL_labels 77 = .ok (.iload 4, 2) := by decide +kernel
theorem dL_labels_79 : decode cL_labels 79 = .ok (.iconst 1, 1) := by decide +kernel
theorem dL_labels_80 : decode cL_labels 80 = .ok (.if_icmp .ne 7, 3) := by decide +kernel
theorem dL_labels_83 : decode cL_labels 83 = .ok (.iconst 1, 1) := by decide +kernel
theorem dL_labels_84 : decode cL_labels 84 = .ok (.goto 4, 3) := by decide +kernel
theorem dL_labels_87 : decode cL_labels 87 = .ok (.iconst 0, 1) := by decide +kernel
theorem dL_labels_88 : decode cL_labels 88 = .ok (.aload_n 0, 1) := by decide +kernel
theorem dL_labels_89 : decode cL_labels 89 = .ok (.iload_n 1, 1) := by decide +kernel
theorem dL_labels_90 : decode cL_labels 90 = .ok (.iconst 3, 1) := by decide +kernel
theorem dL_labels_91 : decode cL_labels 91 = .ok (.invokestatic 116, 3) := by decide +kernel
theorem dL_labels_94 : decode cL_labels 94 = .ok (.ifCond .ne 7, 3) := by decide +kernel
theorem dL_labels_97 : decode cL_labels 97 = .ok (.iconst 1, 1) := by decide +kernel
theorem dL_labels_98 : decode cL_labels 98 = .ok (.goto 4, 3) := by decide +kernel
theorem dL_labels_101 : decode cL_labels 101 = .ok (.iconst 0, 1) := by decide +kernel
theorem dL_labels_102 : decode cL_labels 102 = .ok (.if_icmp .ne 38, 3) := by decide +kernel
theorem dL_labels_105 : decode cL_labels 105 = .ok (.iload 4, 2) := by decide +kernel
theorem dL_labels_107 : decode cL_labels 107 = .ok (.iconst 1, 1) := by decide +kernel
theorem dL_labels_108 : decode cL_labels 108 = .ok (.if_icmp .lt 32, 3) := by decide +kernel
theorem dL_labels_111 : decode cL_labels 111 = .ok (.iload 4, 2) := by decide +kernel
theorem dL_labels_113 : decode cL_labels 113 = .ok (.bipush 8, 2) := by decide +kernel
