set_option maxRecDepth 20000 in
theorem lwr_1 : GoodIn lw_tbl wsL_law0_r1 := goodIn_p _ [26, 29] (by decide +kernel) (by decide +kernel)
set_option maxRecDepth 20000 in
theorem lwr_2 : GoodIn lw_tbl wsL_law0_r2 := goodIn_p _ [34, 83] (by decide +kernel) (by decide +kernel)
set_option maxRecDepth 20000 in
theorem lwr_3 : GoodIn lw_tbl wsL_law0_r3 := goodIn_p _ [107, 121, 514] (by decide +kernel) (by decide +kernel)
set_option maxRecDepth 20000 in
theorem lwr_4 : GoodIn lw_tbl wsL_law0_r4 := goodIn_p _ [521, 449, 383, 279, 282] (by decide +kernel) (by decide +kernel)
set_option maxRecDepth 20000 in
theorem lwr_5 : GoodIn lw_tbl wsL_law0_r5 := goodIn_p _ [288, 285, 296, 300, 526, 534] (by decide +kernel) (by decide +kernel)
set_option maxRecDepth 20000 in
theorem lwr_6 : GoodIn lw_tbl wsL_law0_r6 := goodIn_p _ [394, 542, 546, 553] (by decide +kernel) (by decide +kernel)
set_option maxRecDepth 20000 in
theorem lwr_7 : GoodIn lw_tbl wsL_law0_r7 := goodIn_p _ [337, 507, 557, 275, 253, 257] (by decide +kernel) (by decide +kernel)
set_option maxRecDepth 20000 in
theorem lwr_8 : GoodIn lw_tbl wsL_law0_r8 := goodIn_p _ [261, 264, 271, 292] (by decide +kernel) (by decide +kernel)
set_option maxRecDepth 20000 in
theorem lwr_9 : GoodIn lw_tbl wsL_law0_r9 := goodIn_p _ [564, 429, 434, 572, 576] (by decide +kernel) (by decide +kernel)
set_option maxRecDepth 20000 in
theorem lwr_10 : GoodIn lw_tbl wsL_law0_r10 := goodIn_p _ [580, 590, 585, 597, 601] (by decide +kernel) (by decide +kernel)
set_option maxRecDepth 20000 in
theorem lwr_11 : GoodIn lw_tbl wsL_law0_r11 := goodIn_p _ [606, 610, 613, 617, 620, 469] (by decide +kernel) (by decide +kernel)
set_option maxRecDepth 20000 in
theorem lwr_12 : GoodIn lw_tbl wsL_law0_r12 := goodIn_p _ [371, 375, 241, 473] (by decide +kernel) (by decide +kernel)
set_option maxRecDepth 20000 in
theorem lwr_13 : GoodIn lw_tbl wsL_law0_r13 := goodIn_p _ [476, 165, 237, 151, 156] (by decide +kernel) (by decide +kernel)
set_option maxRecDepth 20000 in
theorem lwr_14 : GoodIn lw_tbl wsL_law0_r14 := goodIn_p _ [319, 323, 327, 334, 342] (by decide +kernel) (by decide +kernel)
set_option maxRecDepth 20000 in
theorem lwr_15 : GoodIn lw_tbl wsL_law0_r15 := goodIn_p _ [347, 355, 359, 363, 366] (by decide +kernel) (by decide +kernel)
set_option maxRecDepth 20000 in
theorem lwr_16 : GoodIn lw_tbl wsL_law0_r16 := goodIn_p _ [379, 391, 413, 418, 425] (by decide +kernel) (by decide +kernel)
set_option maxRecDepth 20000 in
theorem lwr_17 : GoodIn lw_tbl wsL_law0_r17 := goodIn_p _ [439, 446, 454, 458, 461] (by decide +kernel) (by decide +kernel)
set_option maxRecDepth 20000 in
theorem lwr_18 : GoodIn lw_tbl wsL_law0_r18 := goodIn_p _ [483, 490, 497] (by decide +kernel) (by decide +kernel)
set_option maxRecDepth 20000 in
theorem lwr_19 : GoodIn lw_tbl wsL_law0_r19 := goodIn_p _ [504, 510, 623, 626, 633] (by decide +kernel) (by decide +kernel)
set_option maxRecDepth 20000 in
theorem lwr_wsX50 : GoodIn lw_tbl wsX50 := goodIn_p _ [] (by decide +kernel) (by decide +kernel)
set_option maxRecDepth 20000 in
theorem lwr_wsX00 : GoodIn lw_tbl wsX00 := goodIn_p _ [] (by decide +kernel) (by decide +kernel)
set_option maxRecDepth 20000 in
theorem lwr_wsX30 : GoodIn lw_tbl wsX30 := goodIn_p _ [] (by decide +kernel) (by decide +kernel)
set_option maxRecDepth 20000 in
theorem lwr_wsX40 : GoodIn lw_tbl wsX40 := goodIn_p _ [] (by decide +kernel) (by decide +kernel)
set_option maxRecDepth 20000 in
theorem lwr_wsX20 : GoodIn lw_tbl wsX20 := goodIn_p _ [] (by decide +kernel) (by decide +kernel)
theorem wsL_law_in0 : ∀ w ∈ wsL_law0, w ∈ lw_tbl := fun w h => ((goodIn_app (goodIn_app (goodIn_app (goodIn_app (goodIn_app (goodIn_app (goodIn_app lwr_1 (goodIn_app lwr_2 (goodIn_app lwr_3 (goodIn_app lwr_4 (goodIn_app lwr_5 (goodIn_app lwr_6 (goodIn_app lwr_7 (goodIn_app lwr_8 (goodIn_app lwr_9 (goodIn_app lwr_10 (goodIn_app lwr_11 (goodIn_app lwr_12 (goodIn_app lwr_13 (goodIn_app lwr_14 (goodIn_app lwr_15 (goodIn_app lwr_16 (goodIn_app lwr_17 (goodIn_app lwr_18 lwr_19)))))))))))))))))) lwr_wsX50) lwr_wsX00) lwr_wsX30) lwr_wsX40) lwr_wsX20) (fun _ h => absurd h List.not_mem_nil) : GoodIn lw_tbl wsL_law0) w h).1
theorem wsL_law_x0 : ∀ w ∈ (vx_atS RX5 141 "java/lang/IllegalArgumentException" ["java/lang/RuntimeException", "java/lang/Exception"]).filter goodWord, w ∈ lw_tbl := by decide +kernel
theorem wsL_law_x1 : ∀ w ∈ (vx_atS RX5 302 "java/lang/IndexOutOfBoundsException" ["java/lang/RuntimeException", "java/lang/Exception"]).filter goodWord, w ∈ lw_tbl := by decide +kernel
theorem wsL_law_x2 : ∀ w ∈ (vx_atS RX5 118 "java/lang/IllegalStateException" ["java/lang/RuntimeException", "java/lang/Exception"]).filter goodWord, w ∈ lw_tbl := by decide +kernel
theorem wsL_law_in : ∀ w ∈ wsL_law, w ∈ lw_tbl := fun w h => (List.mem_append.mp h).elim (fun h => (List.mem_append.mp h).elim (fun h => (List.mem_append.mp h).elim (fun h => wsL_law_in0 w h) (fun h => wsL_law_x0 w h)) (fun h => wsL_law_x1 w h)) (fun h => wsL_law_x2 w h)
theorem inlX0 : ∀ w ∈ wsX00, w ∈ wsL_law := fun _ h => List.mem_append_left _ (List.mem_append_left _ (List.mem_append_left _ (List.mem_append_left _ (List.mem_append_left _ (List.mem_append_left _ (List.mem_append_left _ (List.mem_append_right _ h)))))))
theorem inX0 : ∀ w ∈ wsX00, w ∈ lw_tbl := fun w h => wsL_law_in w (inlX0 w h)
theorem inX1 : ∀ w ∈ wsX10, w ∈ lw_tbl := by decide +kernel
theorem inlX2 : ∀ w ∈ wsX20, w ∈ wsL_law := fun _ h => List.mem_append_left _ (List.mem_append_left _ (List.mem_append_left _ (List.mem_append_left _ (List.mem_append_right _ h))))
theorem inX2 : ∀ w ∈ wsX20, w ∈ lw_tbl := fun w h => wsL_law_in w (inlX2 w h)
theorem inlX3 : ∀ w ∈ wsX30, w ∈ wsL_law := fun _ h => List.mem_append_left _ (List.mem_append_left _ (List.mem_append_left _ (List.mem_append_left _ (List.mem_append_left _ (List.mem_append_left _ (List.mem_append_right _ h))))))
theorem inX3 : ∀ w ∈ wsX30, w ∈ lw_tbl := fun w h => wsL_law_in w (inlX3 w h)
theorem inlX4 : ∀ w ∈ wsX40, w ∈ wsL_law := fun _ h => List.mem_append_left _ (List.mem_append_left _ (List.mem_append_left _ (List.mem_append_left _ (List.mem_append_left _ (List.mem_append_right _ h)))))
theorem inX4 : ∀ w ∈ wsX40, w ∈ lw_tbl := fun w h => wsL_law_in w (inlX4 w h)
theorem inlX5 : ∀ w ∈ wsX50, w ∈ wsL_law := fun _ h => List.mem_append_left _ (List.mem_append_left _ (List.mem_append_left _ (List.mem_append_left _ (List.mem_append_left _ (List.mem_append_left _ (List.mem_append_left _ (List.mem_append_left _ (List.mem_append_right _ h))))))))
theorem inX5 : ∀ w ∈ wsX50, w ∈ lw_tbl := fun w h => wsL_law_in w (inlX5 w h)
theorem inX6 : ∀ w ∈ wsX60, w ∈ lw_tbl := by decide +kernel
theorem inJ6 : ∀ w ∈ wsJ60, w ∈ lw_tbl := by decide +kernel
theorem inJ9 : ∀ w ∈ wsJ90, w ∈ lw_tbl := by decide +kernel
theorem inJ0 : ∀ w ∈ wsJ00, w ∈ lw_tbl := by decide +kernel
theorem inJ10 : ∀ w ∈ wsJ100, w ∈ lw_tbl := by decide +kernel
