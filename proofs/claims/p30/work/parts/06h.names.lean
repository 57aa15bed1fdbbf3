set_option maxRecDepth 20000 in
theorem ggL_corrects_L_count : GoodIn wsL_corrects wsL_count := goodIn_ca (goodIn_r _ [4, 5, 6, 7, 8, 9, 10, 11, 12, 13, 14, 15, 16, 17, 18, 19, 20, 21, 22, 23, 24, 25, 26, 27, 28, 29, 30, 31, 32, 33, 34, 35, 36, 37, 38, 39, 40, 41, 42, 43, 44, 45, 46, 47, 48, 49, 50, 51, 52, 53, 54, 55, 56, 57, 58, 59, 60, 61, 62, 63, 64, 65, 66, 67, 68, 69, 70, 71, 237, 238, 239, 240, 241, 242, 243, 244, 245, 246, 247, 248, 249, 250, 251, 252, 253, 254] (by decide +kernel) (by decide +kernel)) (goodIn_sub (fun _ h => List.mem_cons_of_mem _ (List.mem_append_left _ (List.mem_append_left _ (List.mem_append_right _ h)))) (by decide +kernel))
set_option maxRecDepth 20000 in
theorem gL_corrects_L_count : GoodIn wsL_corrects (va_wsS RL 127 yL_count wsL_count) := goodIn_app (goodIn_of _ (by decide +kernel)) ggL_corrects_L_count
set_option maxRecDepth 20000 in
theorem ggL_corrects_L_hang : GoodIn wsL_corrects wsL_hang := goodIn_ca (goodIn_ca (goodIn_r _ [74, 75, 5, 6, 76, 77, 78, 79, 10, 80, 15, 14, 81, 82, 83, 84, 85, 86, 87, 88, 12, 13, 89, 90, 91, 92, 93, 94, 95, 96, 97, 98, 99, 100, 101, 102, 19, 103, 42, 104, 105, 106, 107, 21, 48, 47, 41, 108, 109, 110, 111, 112, 113, 114, 115, 116, 237, 238, 239, 240, 251, 252, 253, 254, 241, 242, 243, 244, 245, 246, 247, 248, 249, 250] (by decide +kernel) (by decide +kernel)) (goodIn_sub (fun _ h => List.mem_cons_of_mem _ (List.mem_append_left _ (List.mem_append_right _ h))) (by decide +kernel))) (goodIn_sub (fun _ h => List.mem_cons_of_mem _ (List.mem_append_left _ (List.mem_append_left _ (List.mem_append_right _ h)))) (by decide +kernel))
set_option maxRecDepth 20000 in
theorem gL_corrects_L_hang : GoodIn wsL_corrects (va_wsS RL 98 yL_hang wsL_hang) := goodIn_app (goodIn_of _ (by decide +kernel)) ggL_corrects_L_hang
set_option maxRecDepth 20000 in
theorem ggL_corrects_L_undo : GoodIn wsL_corrects wsL_undo := goodIn_ca (goodIn_r _ [119, 120, 6, 121, 122, 123, 10, 124, 125, 126, 15, 14, 127, 128, 129, 92, 130, 94, 95, 100, 101, 102, 19, 103, 42, 104, 105, 106, 107, 21, 48, 47, 41, 108, 109, 110, 111, 112, 237, 238, 239, 240, 251, 252, 253, 254, 241, 242, 243, 244, 245, 246, 247, 248, 249, 250] (by decide +kernel) (by decide +kernel)) (goodIn_sub (fun _ h => List.mem_cons_of_mem _ (List.mem_append_right _ h)) (by decide +kernel))
set_option maxRecDepth 20000 in
theorem gL_corrects_L_undo : GoodIn wsL_corrects (va_wsS RL 152 yL_undo wsL_undo) := goodIn_app (goodIn_of _ (by decide +kernel)) ggL_corrects_L_undo
set_option maxRecDepth 20000 in
theorem ggL_corrects_L_print : GoodIn wsL_corrects wsL_print := goodIn_ca (goodIn_ca ((goodIn_app (a := [Cond.code yL_print cL_print 4 (some .long)]) (goodIn_r [Cond.code yL_print cL_print 4 (some .long)] [133] rfl (by decide +kernel)) (goodIn_r _ [134, 135, 1, 2, 3, 4, 5, 6, 7, 8, 9, 10, 11, 12, 13, 14, 15, 16, 17, 18, 19, 20, 21, 22, 23, 24, 25, 26, 27, 28, 29, 30, 31, 32, 33, 34, 35, 36, 37, 38, 39, 40, 41, 42, 43, 44, 45, 46, 47, 48, 49, 50, 51, 52, 53, 54, 55, 56, 57, 58, 59, 60, 61, 62, 63, 64, 65, 66, 67, 68, 69, 70, 71, 136, 137, 138, 75, 76, 139, 140, 141, 142, 81, 82, 83, 84, 85, 143, 144, 145, 146, 147, 148, 149, 150, 151, 152, 153, 154, 155, 156, 157, 158, 159, 160, 161, 162, 163, 164, 165, 166, 167, 168, 169, 170, 171, 110, 108, 109, 172, 173, 174, 175, 176, 177, 178, 179, 180, 181, 182, 183, 184, 185, 186, 237, 238, 239, 240, 241, 242, 243, 244, 245, 246, 247, 248, 249, 250, 251, 252, 253, 254] (by decide +kernel) (by decide +kernel)))) (goodIn_sub (fun _ h => List.mem_cons_of_mem _ (List.mem_append_left _ (List.mem_append_left _ (List.mem_append_right _ h)))) (by decide +kernel))) (goodIn_sub (fun _ h => List.mem_cons_of_mem _ (List.mem_append_left _ (List.mem_append_right _ h))) (by decide +kernel))
set_option maxRecDepth 20000 in
theorem gL_corrects_L_print : GoodIn wsL_corrects (va_wsS RL 146 yL_print wsL_print) := goodIn_app (goodIn_of _ (by decide +kernel)) ggL_corrects_L_print
set_option maxRecDepth 20000 in
theorem ggL_corrects_L_potOf : GoodIn wsL_corrects wsL_potOf := goodIn_ca (goodIn_ca (goodIn_r _ [138, 75, 5, 6, 76, 139, 140, 141, 10, 142, 14, 81, 82, 83, 84, 85, 143, 144, 145, 12, 13, 146, 147, 51, 148, 149, 150, 151, 19, 152, 37, 38, 39, 40, 41, 42, 43, 44, 45, 46, 47, 48, 49, 50, 52, 53, 54, 55, 56, 57, 58, 59, 237, 238, 239, 240, 241, 242, 243, 244, 245, 246, 247, 248, 249, 250] (by decide +kernel) (by decide +kernel)) (goodIn_sub (fun _ h => List.mem_cons_of_mem _ (List.mem_append_left _ (List.mem_append_right _ h))) (by decide +kernel))) (goodIn_sub (fun _ h => List.mem_cons_of_mem _ (List.mem_append_left _ (List.mem_append_left _ (List.mem_append_right _ h)))) (by decide +kernel))
set_option maxRecDepth 20000 in
theorem gL_corrects_L_potOf : GoodIn wsL_corrects (va_wsS RL 125 yL_potOf wsL_potOf) := goodIn_app (goodIn_of _ (by decide +kernel)) ggL_corrects_L_potOf
set_option maxRecDepth 20000 in
theorem ggL_corrects_L_leastChange : GoodIn wsL_corrects wsL_leastChange := goodIn_ca (goodIn_ca (goodIn_r _ [189, 75, 5, 6, 76, 190, 191, 192, 10, 193, 14, 160, 161, 162, 84, 85, 81, 82, 83, 86, 87, 88, 12, 13, 194, 195, 196, 19, 197, 42, 41, 198, 199, 51, 200, 201, 50, 52, 53, 54, 55, 56, 57, 58, 59, 43, 44, 45, 46, 47, 48, 49, 202, 237, 238, 239, 240, 241, 242, 243, 244, 245, 246, 247, 248, 249, 250] (by decide +kernel) (by decide +kernel)) (goodIn_sub (fun _ h => List.mem_cons_of_mem _ (List.mem_append_left _ (List.mem_append_right _ h))) (by decide +kernel))) (goodIn_sub (fun _ h => List.mem_cons_of_mem _ (List.mem_append_left _ (List.mem_append_left _ (List.mem_append_right _ h)))) (by decide +kernel))
set_option maxRecDepth 20000 in
theorem gL_corrects_L_leastChange : GoodIn wsL_corrects (va_wsS RL 154 yL_leastChange wsL_leastChange) := goodIn_app (goodIn_of _ (by decide +kernel)) ggL_corrects_L_leastChange
set_option maxRecDepth 20000 in
theorem ggL_corrects_L_chartOf : GoodIn wsL_corrects wsL_chartOf := goodIn_ca (goodIn_ca (goodIn_r _ [174, 75, 5, 6, 76, 175, 176, 177, 10, 178, 12, 13, 14, 179, 180, 181, 182, 84, 85, 183, 184, 185, 19, 186, 108, 109, 37, 38, 39, 40, 41, 42, 43, 44, 45, 46, 47, 48, 49, 50, 51, 52, 53, 54, 55, 56, 57, 58, 59, 237, 238, 239, 240, 241, 242, 243, 244, 245, 246, 247, 248, 249, 250] (by decide +kernel) (by decide +kernel)) (goodIn_sub (fun _ h => List.mem_cons_of_mem _ (List.mem_append_left _ (List.mem_append_left _ (List.mem_append_right _ h)))) (by decide +kernel))) (goodIn_sub (fun _ h => List.mem_cons_of_mem _ (List.mem_append_left _ (List.mem_append_right _ h))) (by decide +kernel))
set_option maxRecDepth 20000 in
theorem gL_corrects_L_chartOf : GoodIn wsL_corrects (va_wsS RL 129 yL_chartOf wsL_chartOf) := goodIn_app (goodIn_of _ (by decide +kernel)) ggL_corrects_L_chartOf
set_option maxRecDepth 20000 in
theorem ggL_corrects_L_correct : GoodIn wsL_corrects wsL_correct := goodIn_ca (goodIn_r _ [205, 75, 6, 206, 207, 208, 10, 209, 15, 14, 179, 180, 181, 182, 84, 85, 160, 161, 162, 89, 90, 91, 92, 93, 94, 95, 96, 97, 98, 99, 100, 101, 102, 19, 103, 42, 104, 105, 106, 107, 21, 48, 47, 41, 108, 109, 110, 111, 112, 210, 211, 212, 213, 214, 195, 196, 197, 198, 199, 51, 200, 201, 50, 52, 53, 54, 55, 56, 57, 58, 59, 43, 44, 45, 46, 49, 237, 238, 239, 240, 241, 242, 243, 244, 245, 246, 247, 248, 249, 250, 251, 252, 253, 254] (by decide +kernel) (by decide +kernel)) (goodIn_sub (fun _ h => List.mem_cons_of_mem _ (List.mem_append_left _ (List.mem_append_right _ h))) (by decide +kernel))
set_option maxRecDepth 20000 in
theorem gL_corrects_L_correct : GoodIn wsL_corrects (va_wsS RL 103 yL_correct wsL_correct) := goodIn_app (goodIn_of _ (by decide +kernel)) ggL_corrects_L_correct
set_option maxRecDepth 20000 in
theorem ggL_corrects_L_far : GoodIn wsL_corrects wsL_far := goodIn_r _ [217] (by decide +kernel) (by decide +kernel)
set_option maxRecDepth 20000 in
theorem gL_corrects_L_far : GoodIn wsL_corrects (va_wsS RL 122 yL_far wsL_far) := goodIn_app (goodIn_of _ (by decide +kernel)) ggL_corrects_L_far
set_option maxRecDepth 20000 in
theorem ggL_corrects_L_apart : GoodIn wsL_corrects wsL_apart := goodIn_ca (goodIn_r _ [220, 75, 6, 221, 222, 223, 10, 224, 14, 160, 161, 162, 84, 85, 81, 82, 83, 225, 69, 70, 19, 71, 41, 42, 43, 44, 45, 46, 47, 48, 49, 50, 51, 52, 53, 54, 55, 56, 57, 58, 59, 237, 238, 239, 240, 241, 242, 243, 244, 245, 246, 247, 248, 249, 250] (by decide +kernel) (by decide +kernel)) (goodIn_sub (fun _ h => List.mem_cons_of_mem _ (List.mem_append_left _ (List.mem_append_right _ h))) (by decide +kernel))
set_option maxRecDepth 20000 in
theorem gL_corrects_L_apart : GoodIn wsL_corrects (va_wsS RL 118 yL_apart wsL_apart) := goodIn_app (goodIn_of _ (by decide +kernel)) ggL_corrects_L_apart
set_option maxRecDepth 20000 in
theorem ggL_corrects_L_mix : GoodIn wsL_corrects wsL_mix := goodIn_ca (goodIn_ca (goodIn_r _ [228, 75, 5, 6, 76, 229, 230, 231, 10, 232, 15, 14, 81, 82, 83, 84, 85, 143, 144, 145, 12, 13, 89, 90, 91, 92, 93, 94, 95, 96, 97, 98, 99, 100, 101, 102, 19, 103, 42, 104, 105, 106, 107, 21, 48, 47, 41, 108, 109, 110, 111, 112, 146, 147, 51, 148, 233, 234, 235, 236, 237, 238, 239, 240, 241, 242, 243, 244, 245, 246, 247, 248, 249, 250, 251, 252, 253, 254] (by decide +kernel) (by decide +kernel)) (goodIn_sub (fun _ h => List.mem_cons_of_mem _ (List.mem_append_left _ (List.mem_append_right _ h))) (by decide +kernel))) (goodIn_sub (fun _ h => List.mem_cons_of_mem _ (List.mem_append_left _ (List.mem_append_left _ (List.mem_append_right _ h)))) (by decide +kernel))
set_option maxRecDepth 20000 in
theorem gL_corrects_L_mix : GoodIn wsL_corrects (va_wsS RL 114 yL_mix wsL_mix) := goodIn_app (goodIn_of _ (by decide +kernel)) ggL_corrects_L_mix
theorem dL_corrects_0 : decode cL_corrects 0 = .ok (.aload_n 0, 1) := by decide +kernel
theorem dL_corrects_1 : decode cL_corrects 1 = .ok (.iconst 2, 1) := by decide +kernel
theorem dL_corrects_2 : decode cL_corrects 2 = .ok (.invokestatic 127, 3) := by decide +kernel
theorem dL_corrects_5 : decode cL_corrects 5 = .ok (.bipush 6, 2) := by decide +kernel
theorem dL_corrects_7 : decode cL_corrects 7 = .ok (.if_icmp .ne 26, 3) := by decide +kernel
theorem dL_corrects_10 : decode cL_corrects 10 = .ok (.aload_n 0, 1) := by decide +kernel
theorem dL_corrects_11 : decode cL_corrects 11 = .ok (.iload_n 2, 1) := by decide +kernel
theorem dL_corrects_12 : decode cL_corrects 12 = .ok (.iload_n 3, 1) := by decide +kernel
theorem dL_corrects_13 : decode cL_corrects 13 = .ok (.invokestatic 98, 3) := by decide +kernel
theorem dL_corrects_16 : decode cL_corrects 16 = .ok (.iconst (-1), 1) := by decide +kernel
theorem dL_corrects_17 : decode cL_corrects 17 = .ok (.if_icmp .ne 14, 3) := by decide +kernel
theorem dL_corrects_20 : decode cL_corrects 20 = .ok (.aload_n 0, 1) := by decide +kernel
theorem dL_corrects_21 : decode cL_corrects 21 = .ok (.invokestatic 152, 3) := by decide +kernel
theorem dL_corrects_24 : decode cL_corrects 24 = .ok (.ifCond .lt 7, 3) := by decide +kernel
theorem dL_corrects_27 : decode cL_corrects 27 = .ok (.iconst 1, 1) := by decide +kernel
theorem dL_corrects_28 : decode cL_corrects 28 = .ok (.goto 4, 3) := by decide +kernel
theorem dL_corrects_31 : decode cL_corrects 31 = .ok (.iconst 0, 1) := by decide +kernel
theorem dL_corrects_32 : decode cL_corrects 32 = .ok (.ireturn, 1) := by decide +kernel
theorem dL_corrects_33 : decode cL_corrects 33 = .ok (.aload_n 0, 1) := by decide +kernel
theorem dL_corrects_34 : decode cL_corrects 34 = .ok (.invokestatic 146, 3) := by decide +kernel
theorem dL_corrects_37 : decode cL_corrects 37 = .ok (.lstore 5, 2) := by decide +kernel
theorem dL_corrects_39 : decode cL_corrects 39 = .ok (.aload_n 0, 1) := by decide +kernel
theorem dL_corrects_40 : decode cL_corrects 40 = .ok (.iload_n 2, 1) := by decide +kernel
theorem dL_corrects_41 : decode cL_corrects 41 = .ok (.iconst 0, 1) := by decide +kernel
theorem dL_corrects_42 : decode cL_corrects 42 = .ok (.invokestatic 125, 3) := by decide +kernel
theorem dL_corrects_45 : decode cL_corrects 45 = .ok (.istore 7, 2) := by decide +kernel
theorem dL_corrects_47 : decode cL_corrects 47 = .ok (.aload_n 0, 1) := by decide +kernel
theorem dL_corrects_48 : decode cL_corrects 48 = .ok (.iload_n 2, 1) := by decide +kernel
theorem dL_corrects_49 : decode cL_corrects 49 = .ok (.iconst 1, 1) := by decide +kernel
theorem dL_corrects_50 : decode cL_corrects 50 = .ok (.invokestatic 125, 3) := by decide +kernel
theorem dL_corrects_53 : decode cL_corrects 53 = .ok (.istore 8, 2) := by decide +kernel
theorem dL_corrects_55 : decode cL_corrects 55 = .ok (.aload_n 0, 1) := by decide +kernel
theorem dL_corrects_56 : decode cL_corrects 56 = .ok (.iload_n 2, 1) := by decide +kernel
theorem dL_corrects_57 : decode cL_corrects 57 = .ok (.iconst 2, 1) := by decide +kernel
theorem dL_corrects_58 : decode cL_corrects 58 = .ok (.invokestatic 125, 3) := by decide +kernel
theorem dL_corrects_61 : decode cL_corrects 61 = .ok (.istore 9, 2) := by decide +kernel
