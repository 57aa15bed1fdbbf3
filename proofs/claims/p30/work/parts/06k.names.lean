theorem dL_corrects_347 : decode cL_corrects 347 = .ok (.iload_n 3, 1) := by decide +kernel
theorem dL_corrects_348 : decode cL_corrects 348 = .ok (.invokestatic 118, 3) := by decide +kernel
theorem dL_corrects_351 : decode cL_corrects 351 = .ok (.ifCond .eq 15, 3) := by decide +kernel
theorem dL_corrects_354 : decode cL_corrects 354 = .ok (.iload 10, 2) := by decide +kernel
theorem dL_corrects_356 : decode cL_corrects 356 = .ok (.ifCond .lt 14, 3) := by decide +kernel
theorem dL_corrects_359 : decode cL_corrects 359 = .ok (.iload 15, 2) := by decide +kernel
theorem dL_corrects_361 : decode cL_corrects 361 = .ok (.iload 10, 2) := by decide +kernel
theorem dL_corrects_363 : decode cL_corrects 363 = .ok (.if_icmp .lt 7, 3) := by decide +kernel
theorem dL_corrects_366 : decode cL_corrects 366 = .ok (.iconst 1, 1) := by decide +kernel
theorem dL_corrects_367 : decode cL_corrects 367 = .ok (.goto 4, 3) := by decide +kernel
theorem dL_corrects_370 : decode cL_corrects 370 = .ok (.iconst 0, 1) := by decide +kernel
theorem dL_corrects_371 : decode cL_corrects 371 = .ok (.istore 13, 2) := by decide +kernel
theorem dL_corrects_373 : decode cL_corrects 373 = .ok (.iload 13, 2) := by decide +kernel
theorem dL_corrects_375 : decode cL_corrects 375 = .ok (.ifCond .eq 45, 3) := by decide +kernel
theorem dL_corrects_378 : decode cL_corrects 378 = .ok (.aload_n 0, 1) := by decide +kernel
theorem dL_corrects_379 : decode cL_corrects 379 = .ok (.invokestatic 152, 3) := by decide +kernel
theorem dL_corrects_382 : decode cL_corrects 382 = .ok (.ifCond .lt 38, 3) := by decide +kernel
theorem dL_corrects_385 : decode cL_corrects 385 = .ok (.aload_n 0, 1) := by decide +kernel
theorem dL_corrects_386 : decode cL_corrects 386 = .ok (.invokestatic 152, 3) := by decide +kernel
theorem dL_corrects_389 : decode cL_corrects 389 = .ok (.ifCond .lt 31, 3) := by decide +kernel
theorem dL_corrects_392 : decode cL_corrects 392 = .ok (.aload_n 0, 1) := by decide +kernel
theorem dL_corrects_393 : decode cL_corrects 393 = .ok (.invokestatic 152, 3) := by decide +kernel
theorem dL_corrects_396 : decode cL_corrects 396 = .ok (.ifCond .lt 24, 3) := by decide +kernel
theorem dL_corrects_399 : decode cL_corrects 399 = .ok (.aload_n 0, 1) := by decide +kernel
theorem dL_corrects_400 : decode cL_corrects 400 = .ok (.invokestatic 152, 3) := by decide +kernel
theorem dL_corrects_403 : decode cL_corrects 403 = .ok (.ifCond .lt 17, 3) := by decide +kernel
theorem dL_corrects_406 : decode cL_corrects 406 = .ok (.aload_n 0, 1) := by decide +kernel
theorem dL_corrects_407 : decode cL_corrects 407 = .ok (.invokestatic 146, 3) := by decide +kernel
theorem dL_corrects_410 : decode cL_corrects 410 = .ok (.lload 5, 2) := by decide +kernel
theorem dL_corrects_412 : decode cL_corrects 412 = .ok (.lcmp, 1) := by decide +kernel
theorem dL_corrects_413 : decode cL_corrects 413 = .ok (.ifCond .ne 7, 3) := by decide +kernel
theorem dL_corrects_416 : decode cL_corrects 416 = .ok (.iconst 1, 1) := by decide +kernel
theorem dL_corrects_417 : decode cL_corrects 417 = .ok (.goto 4, 3) := by decide +kernel
theorem dL_corrects_420 : decode cL_corrects 420 = .ok (.iconst 0, 1) := by decide +kernel
theorem dL_corrects_421 : decode cL_corrects 421 = .ok (.ireturn, 1) := by decide +kernel
set_option maxRecDepth 20000 in
theorem ggL_law_X5_init : GoodIn wsL_law wsX5_init := goodIn_r _ [5, 6, 7, 8, 9, 10, 11, 12, 13, 14, 15, 16, 17, 18, 19, 20, 21, 22, 23, 24, 25, 26, 27, 28, 29, 30, 31, 32, 33, 34, 35, 36, 37, 38, 39, 40, 41, 42, 43, 44, 45, 46, 47, 48, 49, 50, 51, 52, 53, 54, 55, 56, 57, 457, 458, 459, 460, 461, 462, 463, 464, 465, 466, 453, 454, 455, 456, 467, 468, 469, 470, 471, 472, 473, 474, 475, 476] (by decide +kernel) (by decide +kernel)
set_option maxRecDepth 20000 in
theorem gL_law_X5_init : GoodIn wsL_law (wsX5_init) := ggL_law_X5_init
set_option maxRecDepth 20000 in
theorem ggL_law_L_hangs : GoodIn wsL_law wsL_hangs := goodIn_ca (goodIn_ca (goodIn_r _ [61, 29, 62, 63, 64, 60, 65, 66, 67, 68, 69, 70, 71, 72, 2, 73, 74, 75, 12, 76, 77, 78, 79, 80, 81, 82, 83, 11, 84, 30, 85, 86, 87, 88, 33, 32, 89, 90, 91, 92, 93, 94, 95, 96, 97, 98, 99, 100, 101, 102, 103, 31, 104, 105, 106, 107, 34, 108, 109, 110, 111, 112, 35, 36, 113, 114, 115, 116, 117, 118, 119, 120, 121, 122, 123, 124, 125, 126, 127, 128, 129, 130, 131, 132, 133, 134, 135, 136, 137, 138, 139, 140, 141, 142, 143, 144, 145, 146, 147, 148, 149, 150, 151, 152, 153, 154, 155, 156, 157, 158, 159, 160, 161, 162, 16, 163, 164, 165, 166, 167, 168, 169, 170, 171, 172, 173, 174, 175, 176, 177, 178, 179, 180, 181, 182, 183, 184, 185, 186, 187, 188, 189, 190, 191, 192, 193, 194, 195, 196, 197, 198, 199, 200, 201, 202, 203, 204, 205, 206, 207, 208, 209, 210, 211, 212, 213, 214, 215, 216, 217, 453, 454, 455, 456, 457, 458, 459, 460, 461, 462, 463, 464, 465, 466, 467, 468, 469, 470] (by decide +kernel) (by decide +kernel)) (goodIn_sub (fun _ h => List.mem_append_left _ (List.mem_append_left _ (List.mem_append_right _ h))) (by decide +kernel))) (goodIn_sub (fun _ h => List.mem_append_left _ (List.mem_append_right _ h)) (by decide +kernel))
set_option maxRecDepth 20000 in
theorem gL_law_L_hangs : GoodIn wsL_law (va_wsS RL 157 yL_hangs wsL_hangs) := goodIn_app (goodIn_of _ (by decide +kernel)) ggL_law_L_hangs
set_option maxRecDepth 20000 in
theorem ggL_law_L_labels : GoodIn wsL_law wsL_labels := goodIn_ca (goodIn_ca (goodIn_ca (goodIn_r _ [220, 221, 222, 60, 223, 224, 225, 156, 157, 158, 67, 68, 159, 160, 161, 2, 162, 74, 75, 12, 16, 163, 164, 165, 11, 166, 31, 167, 168, 169, 170, 171, 172, 173, 174, 175, 176, 177, 178, 179, 180, 181, 152, 153, 154, 155, 34, 30, 85, 86, 87, 88, 33, 32, 89, 90, 91, 92, 93, 94, 95, 96, 97, 98, 99, 182, 183, 184, 185, 186, 101, 102, 103, 104, 105, 106, 107, 135, 136, 137, 66, 69, 138, 139, 140, 141, 120, 121, 122, 79, 80, 142, 143, 144, 145, 146, 147, 148, 149, 150, 151, 63, 64, 65, 70, 71, 72, 73, 76, 77, 78, 81, 82, 83, 84, 100, 108, 109, 110, 111, 112, 35, 36, 187, 188, 189, 190, 191, 192, 193, 194, 195, 196, 197, 198, 199, 200, 201, 226, 227, 228, 229, 230, 231, 232, 24, 233, 234, 235, 23, 236, 54, 237, 238, 239, 240, 241, 55, 56, 242, 243, 244, 245, 246, 247, 248, 249, 250, 251, 252, 57, 253, 254, 255, 256, 257, 258, 259, 260, 261, 262, 263, 264, 265, 15, 266, 267, 45, 268, 269, 270, 271, 272, 273, 274, 275, 276, 277, 278, 279, 280, 281, 282, 283, 284, 285, 286, 287, 288, 113, 114, 115, 116, 117, 118, 119, 123, 289, 290, 291, 292, 293, 294, 295, 296, 297, 298, 299, 300, 301, 302, 453, 454, 455, 456, 457, 458, 459, 460, 461, 462, 463, 464, 465, 466, 467, 468, 469, 470, 473, 474, 475, 476] (by decide +kernel) (by decide +kernel)) (goodIn_sub (fun _ h => List.mem_append_left _ (List.mem_append_left _ (List.mem_append_right _ h))) (by decide +kernel))) (goodIn_sub (fun _ h => List.mem_append_left _ (List.mem_append_right _ h)) (by decide +kernel))) (goodIn_sub (fun _ h => List.mem_append_right _ h) (by decide +kernel))
set_option maxRecDepth 20000 in
theorem gL_law_L_labels : GoodIn wsL_law (va_wsS RL 161 yL_labels wsL_labels) := goodIn_app (goodIn_of _ (by decide +kernel)) ggL_law_L_labels
set_option maxRecDepth 20000 in
theorem ggL_law_L_at : GoodIn wsL_law wsL_at := goodIn_r _ [305, 306, 307] (by decide +kernel) (by decide +kernel)
set_option maxRecDepth 20000 in
theorem gL_law_L_at : GoodIn wsL_law (va_wsS RL 165 yL_at wsL_at) := goodIn_app (goodIn_of _ (by decide +kernel)) ggL_law_L_at
set_option maxRecDepth 20000 in
theorem ggL_law_L_count : GoodIn wsL_law wsL_count := goodIn_ca (goodIn_r _ [158, 67, 68, 159, 160, 161, 2, 162, 74, 75, 12, 16, 163, 164, 165, 11, 166, 31, 167, 168, 169, 170, 171, 172, 173, 174, 175, 176, 177, 178, 179, 180, 181, 152, 153, 154, 155, 34, 30, 85, 86, 87, 88, 33, 32, 89, 90, 91, 92, 93, 94, 95, 96, 97, 98, 99, 182, 183, 184, 185, 186, 101, 102, 103, 104, 105, 106, 107, 453, 454, 455, 456, 457, 458, 459, 460, 461, 462, 463, 464, 465, 466, 467, 468, 469, 470] (by decide +kernel) (by decide +kernel)) (goodIn_sub (fun _ h => List.mem_append_left _ (List.mem_append_left _ (List.mem_append_right _ h))) (by decide +kernel))
set_option maxRecDepth 20000 in
theorem gL_law_L_count : GoodIn wsL_law (va_wsS RL 127 yL_count wsL_count) := goodIn_app (goodIn_of _ (by decide +kernel)) ggL_law_L_count
set_option maxRecDepth 20000 in
theorem ggL_law_L_print : GoodIn wsL_law wsL_print := goodIn_ca (goodIn_ca (goodIn_r _ [223, 224, 225, 156, 157, 60, 158, 67, 68, 159, 160, 161, 2, 162, 74, 75, 12, 16, 163, 164, 165, 11, 166, 31, 167, 168, 169, 170, 171, 172, 173, 174, 175, 176, 177, 178, 179, 180, 181, 152, 153, 154, 155, 34, 30, 85, 86, 87, 88, 33, 32, 89, 90, 91, 92, 93, 94, 95, 96, 97, 98, 99, 182, 183, 184, 185, 186, 101, 102, 103, 104, 105, 106, 107, 135, 136, 137, 66, 69, 138, 139, 140, 141, 120, 121, 122, 79, 80, 142, 143, 144, 145, 146, 147, 148, 149, 150, 151, 63, 64, 65, 70, 71, 72, 73, 76, 77, 78, 81, 82, 83, 84, 100, 108, 109, 110, 111, 112, 35, 36, 187, 188, 189, 190, 191, 192, 193, 194, 195, 196, 197, 198, 199, 200, 201, 453, 454, 455, 456, 457, 458, 459, 460, 461, 462, 463, 464, 465, 466, 467, 468, 469, 470] (by decide +kernel) (by decide +kernel)) (goodIn_sub (fun _ h => List.mem_append_left _ (List.mem_append_left _ (List.mem_append_right _ h))) (by decide +kernel))) (goodIn_sub (fun _ h => List.mem_append_left _ (List.mem_append_right _ h)) (by decide +kernel))
set_option maxRecDepth 20000 in
theorem gL_law_L_print : GoodIn wsL_law (va_wsS RL 146 yL_print wsL_print) := goodIn_app (goodIn_of _ (by decide +kernel)) ggL_law_L_print
set_option maxRecDepth 20000 in
theorem ggL_law_L_low : GoodIn wsL_law wsL_low := goodIn_r _ [310, 311] (by decide +kernel) (by decide +kernel)
set_option maxRecDepth 20000 in
theorem gL_law_L_low : GoodIn wsL_law (va_wsS RL 84 yL_low wsL_low) := goodIn_app (goodIn_of _ (by decide +kernel)) ggL_law_L_low
set_option maxRecDepth 20000 in
theorem ggL_law_L_act : GoodIn wsL_law wsL_act := goodIn_ca (goodIn_ca (goodIn_ca (goodIn_r _ [314, 308, 309, 60, 310, 311, 315, 316, 317, 2, 318, 20, 319, 320, 321, 19, 322, 323, 324, 325, 326, 67, 292, 68, 69, 327, 328, 329, 330, 297, 298, 142, 143, 144, 74, 75, 331, 332, 333, 334, 335, 336, 337, 338, 50, 339, 340, 341, 342, 343, 344, 345, 16, 12, 346, 347, 348, 349, 350, 351, 352, 353, 354, 355, 356, 263, 264, 265, 15, 266, 267, 45, 268, 269, 270, 271, 272, 273, 274, 11, 275, 30, 276, 277, 278, 279, 31, 32, 33, 34, 35, 36, 112, 280, 281, 357, 358, 359, 360, 81, 82, 83, 84, 85, 86, 87, 88, 89, 90, 91, 92, 93, 94, 95, 96, 97, 98, 99, 361, 362, 363, 66, 364, 365, 366, 367, 120, 121, 122, 79, 80, 368, 369, 370, 371, 372, 373, 374, 375, 376, 377, 378, 379, 380, 381, 194, 195, 196, 197, 198, 199, 200, 201, 152, 153, 154, 155, 382, 172, 173, 174, 175, 176, 177, 383, 384, 385, 386, 387, 388, 389, 390, 391, 392, 393, 76, 77, 78, 394, 395, 396, 397, 398, 399, 400, 401, 402, 403, 404, 405, 256, 257, 258, 259, 260, 261, 262, 282, 283, 284, 285, 104, 105, 106, 107, 286, 287, 288, 167, 168, 169, 170, 171, 406, 407, 408, 409, 410, 411, 412, 413, 414, 415, 416, 417, 418, 419, 420, 421, 422, 423, 424, 425, 426, 427, 428, 429, 430, 431, 432, 433, 145, 146, 147, 434, 435, 436, 437, 453, 454, 455, 456, 471, 472, 457, 458, 459, 460, 461, 462, 463, 464, 465, 466, 467, 468, 469, 470] (by decide +kernel) (by decide +kernel)) (goodIn_sub (fun _ h => List.mem_append_right _ h) (by decide +kernel))) (goodIn_sub (fun _ h => List.mem_append_left _ (List.mem_append_left _ (List.mem_append_right _ h))) (by decide +kernel))) (goodIn_sub (fun _ h => List.mem_append_left _ (List.mem_append_right _ h)) (by decide +kernel))
set_option maxRecDepth 20000 in
theorem gL_law_L_act : GoodIn wsL_law (va_wsS RL 169 yL_act wsL_act) := goodIn_app (goodIn_of _ (by decide +kernel)) ggL_law_L_act
set_option maxRecDepth 20000 in
theorem ggL_law_L_undo : GoodIn wsL_law wsL_undo := goodIn_ca (goodIn_r _ [291, 292, 68, 293, 294, 295, 2, 296, 297, 298, 16, 12, 299, 300, 301, 15, 302, 267, 45, 272, 273, 274, 11, 275, 30, 276, 277, 278, 279, 31, 32, 33, 34, 35, 36, 112, 280, 281, 453, 454, 455, 456, 467, 468, 469, 470, 457, 458, 459, 460, 461, 462, 463, 464, 465, 466] (by decide +kernel) (by decide +kernel)) (goodIn_sub (fun _ h => List.mem_append_right _ h) (by decide +kernel))
set_option maxRecDepth 20000 in
theorem gL_law_L_undo : GoodIn wsL_law (va_wsS RL 152 yL_undo wsL_undo) := goodIn_app (goodIn_of _ (by decide +kernel)) ggL_law_L_undo
set_option maxRecDepth 20000 in
theorem ggL_law_L_borrows : GoodIn wsL_law wsL_borrows := goodIn_ca (goodIn_ca (goodIn_ca (goodIn_r _ [440, 221, 222, 60, 223, 224, 225, 156, 157, 158, 67, 68, 159, 160, 161, 2, 162, 74, 75, 12, 16, 163, 164, 165, 11, 166, 31, 167, 168, 169, 170, 171, 172, 173, 174, 175, 176, 177, 178, 179, 180, 181, 152, 153, 154, 155, 34, 30, 85, 86, 87, 88, 33, 32, 89, 90, 91, 92, 93, 94, 95, 96, 97, 98, 99, 182, 183, 184, 185, 186, 101, 102, 103, 104, 105, 106, 107, 135, 136, 137, 66, 69, 138, 139, 140, 141, 120, 121, 122, 79, 80, 142, 143, 144, 145, 146, 147, 148, 149, 150, 151, 63, 64, 65, 70, 71, 72, 73, 76, 77, 78, 81, 82, 83, 84, 100, 108, 109, 110, 111, 112, 35, 36, 187, 188, 189, 190, 191, 192, 193, 194, 195, 196, 197, 198, 199, 200, 201, 202, 203, 204, 205, 206, 207, 208, 413, 414, 415, 416, 417, 418, 419, 263, 264, 265, 15, 266, 267, 45, 268, 269, 270, 271, 272, 273, 274, 275, 276, 277, 278, 279, 280, 281, 289, 290, 291, 292, 293, 294, 295, 296, 297, 298, 299, 300, 301, 302, 453, 454, 455, 456, 457, 458, 459, 460, 461, 462, 463, 464, 465, 466, 467, 468, 469, 470] (by decide +kernel) (by decide +kernel)) (goodIn_sub (fun _ h => List.mem_append_left _ (List.mem_append_left _ (List.mem_append_right _ h))) (by decide +kernel))) (goodIn_sub (fun _ h => List.mem_append_left _ (List.mem_append_right _ h)) (by decide +kernel))) (goodIn_sub (fun _ h => List.mem_append_right _ h) (by decide +kernel))
set_option maxRecDepth 20000 in
theorem gL_law_L_borrows : GoodIn wsL_law (va_wsS RL 172 yL_borrows wsL_borrows) := goodIn_app (goodIn_of _ (by decide +kernel)) ggL_law_L_borrows
set_option maxRecDepth 20000 in
theorem ggL_law_L_corrects : GoodIn wsL_law wsL_corrects := goodIn_ca (goodIn_ca (goodIn_ca (goodIn_r _ [443, 156, 157, 60, 158, 67, 68, 159, 160, 161, 2, 162, 74, 75, 12, 16, 163, 164, 165, 11, 166, 31, 167, 168, 169, 170, 171, 172, 173, 174, 175, 176, 177, 178, 179, 180, 181, 152, 153, 154, 155, 34, 30, 85, 86, 87, 88, 33, 32, 89, 90, 91, 92, 93, 94, 95, 96, 97, 98, 99, 182, 183, 184, 185, 186, 101, 102, 103, 104, 105, 106, 107, 361, 362, 363, 66, 69, 364, 365, 366, 367, 120, 121, 122, 79, 80, 368, 369, 370, 263, 264, 265, 15, 266, 267, 45, 268, 269, 270, 271, 272, 273, 274, 275, 276, 277, 278, 279, 35, 36, 112, 280, 281, 371, 372, 373, 374, 289, 290, 291, 292, 293, 294, 295, 296, 297, 298, 299, 300, 301, 302, 221, 222, 223, 224, 225, 135, 136, 137, 138, 139, 140, 141, 142, 143, 144, 145, 146, 147, 148, 149, 150, 151, 63, 64, 65, 70, 71, 72, 73, 76, 77, 78, 81, 82, 83, 84, 100, 108, 109, 110, 111, 187, 188, 189, 190, 191, 192, 193, 194, 195, 196, 197, 198, 199, 200, 201, 444, 445, 446, 447, 448, 449, 450, 451, 399, 400, 401, 402, 403, 404, 405, 452, 387, 388, 389, 390, 391, 392, 393, 394, 395, 396, 397, 398, 132, 133, 134, 113, 114, 115, 116, 117, 118, 119, 123, 427, 428, 429, 430, 431, 432, 433, 434, 435, 436, 437, 453, 454, 455, 456, 457, 458, 459, 460, 461, 462, 463, 464, 465, 466, 467, 468, 469, 470] (by decide +kernel) (by decide +kernel)) (goodIn_sub (fun _ h => List.mem_append_left _ (List.mem_append_left _ (List.mem_append_right _ h))) (by decide +kernel))) (goodIn_sub (fun _ h => List.mem_append_left _ (List.mem_append_right _ h)) (by decide +kernel))) (goodIn_sub (fun _ h => List.mem_append_right _ h) (by decide +kernel))
set_option maxRecDepth 20000 in
theorem gL_law_L_corrects : GoodIn wsL_law (va_wsS RL 176 yL_corrects wsL_corrects) := goodIn_app (goodIn_of _ (by decide +kernel)) ggL_law_L_corrects
theorem dL_law_0 : decode cL_law 0 = .ok (.new 11, 3) := by decide +kernel
