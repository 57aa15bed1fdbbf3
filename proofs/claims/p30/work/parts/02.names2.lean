set_option maxRecDepth 20000 in
theorem lwr_1 : GoodIn lw_tbl wsL_law0_r1 := goodIn_p _ [26, 29] (by decide +kernel) (by decide +kernel)
set_option maxRecDepth 20000 in
theorem lwr_2 : GoodIn lw_tbl wsL_law0_r2 := goodIn_p _ [34, 83] (by decide +kernel) (by decide +kernel)
set_option maxRecDepth 20000 in
theorem lwr_3_0 : GoodIn lw_tbl [Cond.code yX4_init cX4_init 1 none, Cond.methodLink RX4 3 objectInit, Cond.fieldLink RX4 9 "PotLabels$Text" "codes" "[I", Cond.instanceMethod yX2_init, Cond.code yX2_init cX2_init 1 none, Cond.methodLink RX2 3 objectInit, Cond.fieldLink RX2 9 "PotLabels$Labelling" "rivals" "[I", Cond.fieldLink RX2 15 "PotLabels$Labelling" "peaceful" "[Z", Cond.fieldLink RX2 19 "PotLabels$Labelling" "needs" "[I", Cond.fieldLink RX2 22 "PotLabels$Labelling" "bearers" "[I", Cond.methodLink RL 157 yL_hangs, Cond.static yL_hangs, Cond.initialized RL] := goodIn_p _ [107, 121] (by decide +kernel) (by decide +kernel)
set_option maxRecDepth 100000 in
theorem lwr_3_1 : GoodIn lw_tbl [Cond.code yL_hangs cL_hangs 14 (some .boolean)] := goodIn_p _ [514] rfl rfl
set_option maxRecDepth 20000 in
theorem lwr_3_2 : GoodIn lw_tbl [Cond.constantDouble RL 140 (4637581716284768256), Cond.methodLink RL 116 yL_painterOf, Cond.static yL_painterOf, Cond.codeWith yL_painterOf cL_painterOf 4 (some .int) [(0, 6, 7, 16), (0, 6, 11, 19)], Cond.classLink RL 16 "java/lang/IndexOutOfBoundsException", Cond.classLink RL 19 "java/lang/IllegalArgumentException", Cond.constant RL 18 (-1000001), Cond.constant RL 21 (-1000002), Cond.methodLink RL 63 yX5_painterOf, Cond.instanceMethod yX5_painterOf] := goodIn_p _ [] (by decide +kernel) (by decide +kernel)
set_option maxRecDepth 20000 in
theorem lwr_3 : GoodIn lw_tbl wsL_law0_r3 := (goodIn_app lwr_3_0 (goodIn_app lwr_3_1 lwr_3_2))
set_option maxRecDepth 20000 in
theorem lwr_4 : GoodIn lw_tbl wsL_law0_r4 := goodIn_p _ [521, 449, 383, 279, 282] (by decide +kernel) (by decide +kernel)
set_option maxRecDepth 20000 in
theorem lwr_5 : GoodIn lw_tbl wsL_law0_r5 := goodIn_p _ [288, 285, 296, 300, 526, 534] (by decide +kernel) (by decide +kernel)
set_option maxRecDepth 20000 in
theorem lwr_6 : GoodIn lw_tbl wsL_law0_r6 := goodIn_p _ [394, 542, 546, 553] (by decide +kernel) (by decide +kernel)
set_option maxRecDepth 20000 in
theorem lwr_7 : GoodIn lw_tbl wsL_law0_r7 := goodIn_p _ [337, 507, 557, 275, 253, 257] (by decide +kernel) (by decide +kernel)
set_option maxRecDepth 20000 in
theorem lwr_8 : GoodIn lw_tbl wsL_law0_r8 := goodIn_p _ [261, 264, 271, 292] (by decide +kernel) (by decide +kernel)
set_option maxRecDepth 20000 in
theorem lwr_9 : GoodIn lw_tbl wsL_law0_r9 := goodIn_p _ [564, 429, 434, 572, 576] (by decide +kernel) (by decide +kernel)
set_option maxRecDepth 20000 in
theorem lwr_10_0 : GoodIn lw_tbl [Cond.code yX5_apartShare cX5_apartShare 3 (some .double), Cond.constantDouble RX5 231 (4637581716284768256), Cond.methodLink RL 161 yL_labels, Cond.static yL_labels] := goodIn_p _ [580] (by decide +kernel) (by decide +kernel)
set_option maxRecDepth 100000 in
theorem lwr_10_1 : GoodIn lw_tbl [Cond.code yL_labels cL_labels 11 (some .boolean)] := goodIn_p _ [590] rfl rfl
set_option maxRecDepth 20000 in
theorem lwr_10_2 : GoodIn lw_tbl [Cond.methodLink RL 146 yL_print, Cond.static yL_print] := goodIn_p _ [] (by decide +kernel) (by decide +kernel)
set_option maxRecDepth 100000 in
theorem lwr_10_3 : GoodIn lw_tbl [Cond.code yL_print cL_print 4 (some .long)] := goodIn_p _ [585] rfl rfl
set_option maxRecDepth 20000 in
theorem lwr_10_4 : GoodIn lw_tbl [Cond.constantLong RL 142 (19), Cond.constantLong RL 144 (31), Cond.methodLink RL 150 yL_fewest, Cond.static yL_fewest, Cond.codeWith yL_fewest cL_fewest 4 (some .int) [(0, 6, 7, 16), (0, 6, 11, 19)], Cond.methodLink RL 75 yX5_fewest, Cond.instanceMethod yX5_fewest, Cond.selects RX5 yX5_fewest yX5_fewest, Cond.code yX5_fewest cX5_fewest 3 (some .int), Cond.methodLink RX5 215 yX2_look, Cond.instanceMethod yX2_look, Cond.selects RX2 yX2_look yX2_look, Cond.code yX2_look cX2_look 5 none, Cond.methodLink RX2 25 yX0_tells, Cond.methodLink RX5 219 yX2_fewestBySets, Cond.instanceMethod yX2_fewestBySets] := goodIn_p _ [597, 601] (by decide +kernel) (by decide +kernel)
set_option maxRecDepth 20000 in
theorem lwr_10 : GoodIn lw_tbl wsL_law0_r10 := (goodIn_app lwr_10_0 (goodIn_app lwr_10_1 (goodIn_app lwr_10_2 (goodIn_app lwr_10_3 lwr_10_4))))
set_option maxRecDepth 20000 in
theorem lwr_11 : GoodIn lw_tbl wsL_law0_r11 := goodIn_p _ [606, 610, 613, 617, 620, 469] (by decide +kernel) (by decide +kernel)
set_option maxRecDepth 20000 in
theorem lwr_12 : GoodIn lw_tbl wsL_law0_r12 := goodIn_p _ [371, 375, 241, 473] (by decide +kernel) (by decide +kernel)
set_option maxRecDepth 20000 in
theorem lwr_13 : GoodIn lw_tbl wsL_law0_r13 := goodIn_p _ [476, 165, 237, 151, 156] (by decide +kernel) (by decide +kernel)
set_option maxRecDepth 20000 in
theorem lwr_14_0 : GoodIn lw_tbl [Cond.methodLink RL 169 yL_act, Cond.static yL_act] := goodIn_p _ [] (by decide +kernel) (by decide +kernel)
set_option maxRecDepth 100000 in
theorem lwr_14_1 : GoodIn lw_tbl [Cond.code yL_act cL_act 7 (some .int)] := goodIn_p _ [319] rfl rfl
set_option maxRecDepth 20000 in
theorem lwr_14_2 : GoodIn lw_tbl [Cond.methodLink RL 89 yX5_clearBuffer, Cond.instanceMethod yX5_clearBuffer, Cond.selects RX5 yX5_clearBuffer yX5_clearBuffer, Cond.code yX5_clearBuffer cX5_clearBuffer 2 (some .int), Cond.methodLink RX5 128 yX4_clear, Cond.instanceMethod yX4_clear, Cond.selects RX4 yX4_clear yX4_clear, Cond.code yX4_clear cX4_clear 1 none, Cond.fieldLink RX4 15 "PotLabels$Text" "length" "I", Cond.methodLink RL 92 yL_append, Cond.static yL_append, Cond.codeWith yL_append cL_append 3 (some .int) [(0, 5, 6, 19), (0, 5, 10, 48)], Cond.methodLink RL 45 yX5_append, Cond.instanceMethod yX5_append, Cond.selects RX5 yX5_append yX5_append, Cond.code yX5_append cX5_append 2 (some .int), Cond.methodLink RX5 110 yX4_isFull, Cond.instanceMethod yX4_isFull, Cond.selects RX4 yX4_isFull yX4_isFull, Cond.code yX4_isFull cX4_isFull 1 (some .boolean), Cond.methodLink RX5 121 yX4_add] := goodIn_p _ [323, 327, 334, 342] (by decide +kernel) (by decide +kernel)
set_option maxRecDepth 20000 in
theorem lwr_14 : GoodIn lw_tbl wsL_law0_r14 := (goodIn_app lwr_14_0 (goodIn_app lwr_14_1 lwr_14_2))
set_option maxRecDepth 20000 in
theorem lwr_15 : GoodIn lw_tbl wsL_law0_r15 := goodIn_p _ [347, 355, 359, 363, 366] (by decide +kernel) (by decide +kernel)
set_option maxRecDepth 20000 in
theorem lwr_16 : GoodIn lw_tbl wsL_law0_r16 := goodIn_p _ [379, 391, 413, 418, 425] (by decide +kernel) (by decide +kernel)
set_option maxRecDepth 20000 in
theorem lwr_17 : GoodIn lw_tbl wsL_law0_r17 := goodIn_p _ [439, 446, 454, 458, 461] (by decide +kernel) (by decide +kernel)
set_option maxRecDepth 20000 in
theorem lwr_18 : GoodIn lw_tbl wsL_law0_r18 := goodIn_p _ [483, 490, 497] (by decide +kernel) (by decide +kernel)
set_option maxRecDepth 20000 in
theorem lwr_19_0 : GoodIn lw_tbl [Cond.selects RX5 yX5_mix yX5_mix, Cond.code yX5_mix cX5_mix 5 (some .int), Cond.methodLink RX5 59 yX1_withPart, Cond.static yX1_withPart, Cond.code yX1_withPart cX1_withPart 4 (some .int), Cond.methodLink RX1 7 yX1_partOf, Cond.methodLink RL 172 yL_borrows, Cond.static yL_borrows] := goodIn_p _ [504, 510] (by decide +kernel) (by decide +kernel)
set_option maxRecDepth 100000 in
theorem lwr_19_1 : GoodIn lw_tbl [Cond.code yL_borrows cL_borrows 8 (some .boolean)] := goodIn_p _ [623] rfl rfl
set_option maxRecDepth 20000 in
theorem lwr_19_2 : GoodIn lw_tbl [Cond.methodLink RL 176 yL_corrects, Cond.static yL_corrects] := goodIn_p _ [] (by decide +kernel) (by decide +kernel)
set_option maxRecDepth 100000 in
theorem lwr_19_3 : GoodIn lw_tbl [Cond.code yL_corrects cL_corrects 16 (some .boolean)] := goodIn_p _ [626] rfl rfl
set_option maxRecDepth 20000 in
theorem lwr_19_4 : GoodIn lw_tbl [Cond.methodLink RL 154 yL_leastChange, Cond.static yL_leastChange, Cond.codeWith yL_leastChange cL_leastChange 5 (some .int) [(0, 7, 8, 16), (0, 7, 13, 19)], Cond.methodLink RL 81 yX5_leastChange, Cond.instanceMethod yX5_leastChange, Cond.selects RX5 yX5_leastChange yX5_leastChange, Cond.code yX5_leastChange cX5_leastChange 5 (some .int), Cond.methodLink RX5 225 yX0_nearestColour, Cond.methodLink RX5 228 yX1_change] := goodIn_p _ [633] (by decide +kernel) (by decide +kernel)
set_option maxRecDepth 20000 in
theorem lwr_19 : GoodIn lw_tbl wsL_law0_r19 := (goodIn_app lwr_19_0 (goodIn_app lwr_19_1 (goodIn_app lwr_19_2 (goodIn_app lwr_19_3 lwr_19_4))))
set_option maxRecDepth 20000 in
theorem lwr_wsX50 : GoodIn lw_tbl wsX50 := goodIn_p _ [] (by decide +kernel) (by decide +kernel)
set_option maxRecDepth 20000 in
theorem lwr_wsX00 : GoodIn lw_tbl wsX00 := goodIn_p _ [] (by decide +kernel) (by decide +kernel)
set_option maxRecDepth 20000 in
theorem lwr_wsX30 : GoodIn lw_tbl wsX30 := goodIn_p _ [] (by decide +kernel) (by decide +kernel)
set_option maxRecDepth 20000 in
theorem lwr_wsX40 : GoodIn lw_tbl wsX40 := goodIn_p _ [] (by decide +kernel) (by decide +kernel)
set_option maxRecDepth 20000 in
theorem lwr_wsX20 : GoodIn lw_tbl wsX20 := goodIn_p _ [] (by decide +kernel) (by decide +kernel)
theorem wsL_law_in0 : ∀ w ∈ wsL_law0, w ∈ lw_tbl := fun w h => ((goodIn_app (goodIn_app (goodIn_app (goodIn_app (goodIn_app (goodIn_app (goodIn_app lwr_1 (goodIn_app lwr_2 (goodIn_app lwr_3 (goodIn_app lwr_4 (goodIn_app lwr_5 (goodIn_app lwr_6 (goodIn_app lwr_7 (goodIn_app lwr_8 (goodIn_app lwr_9 (goodIn_app lwr_10 (goodIn_app lwr_11 (goodIn_app lwr_12 (goodIn_app lwr_13 (goodIn_app lwr_14 (goodIn_app lwr_15 (goodIn_app lwr_16 (goodIn_app lwr_17 (goodIn_app lwr_18 lwr_19)))))))))))))))))) lwr_wsX50) lwr_wsX00) lwr_wsX30) lwr_wsX40) lwr_wsX20) (fun _ h => absurd h List.not_mem_nil) : GoodIn lw_tbl wsL_law0) w h).1
theorem wsL_law_x0 : ∀ w ∈ (vx_atS RX5 141 "java/lang/IllegalArgumentException" ["java/lang/RuntimeException", "java/lang/Exception"]).filter goodWord, w ∈ lw_tbl := by decide +kernel
theorem wsL_law_x1 : ∀ w ∈ (vx_atS RX5 302 "java/lang/IndexOutOfBoundsException" ["java/lang/RuntimeException", "java/lang/Exception"]).filter goodWord, w ∈ lw_tbl := by decide +kernel
theorem wsL_law_x2 : ∀ w ∈ (vx_atS RX5 118 "java/lang/IllegalStateException" ["java/lang/RuntimeException", "java/lang/Exception"]).filter goodWord, w ∈ lw_tbl := by decide +kernel
theorem wsL_law_in : ∀ w ∈ wsL_law, w ∈ lw_tbl := fun w h => (List.mem_append.mp h).elim (fun h => (List.mem_append.mp h).elim (fun h => (List.mem_append.mp h).elim (fun h => wsL_law_in0 w h) (fun h => wsL_law_x0 w h)) (fun h => wsL_law_x1 w h)) (fun h => wsL_law_x2 w h)
theorem inlX0 : ∀ w ∈ wsX00, w ∈ wsL_law := fun _ h => List.mem_append_left _ (List.mem_append_left _ (List.mem_append_left _ (List.mem_append_left _ (List.mem_append_left _ (List.mem_append_left _ (List.mem_append_left _ (List.mem_append_right _ h)))))))
theorem inX0 : ∀ w ∈ wsX00, w ∈ lw_tbl := fun w h => wsL_law_in w (inlX0 w h)
theorem inX1 : ∀ w ∈ wsX10, w ∈ lw_tbl := by decide +kernel
theorem inlX2 : ∀ w ∈ wsX20, w ∈ wsL_law := fun _ h => List.mem_append_left _ (List.mem_append_left _ (List.mem_append_left _ (List.mem_append_left _ (List.mem_append_right _ h))))
theorem inX2 : ∀ w ∈ wsX20, w ∈ lw_tbl := fun w h => wsL_law_in w (inlX2 w h)
theorem inlX3 : ∀ w ∈ wsX30, w ∈ wsL_law := fun _ h => List.mem_append_left _ (List.mem_append_left _ (List.mem_append_left _ (List.mem_append_left _ (List.mem_append_left _ (List.mem_append_left _ (List.mem_append_right _ h))))))
theorem inX3 : ∀ w ∈ wsX30, w ∈ lw_tbl := fun w h => wsL_law_in w (inlX3 w h)
theorem inlX4 : ∀ w ∈ wsX40, w ∈ wsL_law := fun _ h => List.mem_append_left _ (List.mem_append_left _ (List.mem_append_left _ (List.mem_append_left _ (List.mem_append_left _ (List.mem_append_right _ h)))))
theorem inX4 : ∀ w ∈ wsX40, w ∈ lw_tbl := fun w h => wsL_law_in w (inlX4 w h)
theorem inlX5 : ∀ w ∈ wsX50, w ∈ wsL_law := fun _ h => List.mem_append_left _ (List.mem_append_left _ (List.mem_append_left _ (List.mem_append_left _ (List.mem_append_left _ (List.mem_append_left _ (List.mem_append_left _ (List.mem_append_left _ (List.mem_append_right _ h))))))))
theorem inX5 : ∀ w ∈ wsX50, w ∈ lw_tbl := fun w h => wsL_law_in w (inlX5 w h)
theorem inX6 : ∀ w ∈ wsX60, w ∈ lw_tbl := by decide +kernel
theorem inJ6 : ∀ w ∈ wsJ60, w ∈ lw_tbl := by decide +kernel
theorem inJ9 : ∀ w ∈ wsJ90, w ∈ lw_tbl := by decide +kernel
theorem inJ0 : ∀ w ∈ wsJ00, w ∈ lw_tbl := by decide +kernel
theorem inJ10 : ∀ w ∈ wsJ100, w ∈ lw_tbl := by decide +kernel
